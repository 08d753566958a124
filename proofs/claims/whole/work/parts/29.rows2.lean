
/-! ===== copy, and the pairs of rows and texts ===== -/
def spV (z i n : Int32) : Int32 := if i < 0 then 0 else if z.toInt64 < i.toInt64 + n.toInt64 then 0 else 1
theorem sp_eq {s : Nat} (hs : s ≤ 60) {i n : Int32} (hn : ¬ n < 0) {I : IntM} {x : Nat} (h : I x 1 = nI s) : holdsv I x i n = spV (nI s) i n := by
  obtain ⟨c, hc, rfl⟩ := nI_of hn
  unfold holdsv spV
  rw [h, if_neg (nI_pos hc)]
  by_cases h0 : i < 0
  · rw [if_pos h0, if_pos h0]
  · obtain ⟨a, ha, rfl⟩ := nI_of h0
    rw [if_neg h0, if_neg h0, nI_long (by omega), nI_long ha, nI_long hc, lN_add]
    by_cases h1 : s < a
    · rw [if_pos ((nI_ltI (by omega) ha).mpr h1), if_pos ((pk_lLT (by omega) (by omega)).mpr (by omega))]
    · rw [if_neg (fun q => h1 ((nI_ltI (by omega) ha).mp q)), pk_sub (by omega)]
      by_cases h2 : s - a < c
      · rw [if_pos ((nI_ltI (by omega) hc).mpr h2), if_pos ((pk_lLT (by omega) (by omega)).mpr (by omega))]
      · rw [if_neg (fun q => h2 ((nI_ltI (by omega) hc).mp q)), if_neg (fun q => h2 (by have := (pk_lLT (by omega) (by omega)).mp q; omega))]
theorem sp_yes {s : Nat} (hs : s ≤ 60) {i n : Int32} (hn : ¬ n < 0) (h : ¬ spV (nI s) i n = 0) : ∃ a c, i = nI a ∧ n = nI c ∧ a + c ≤ s := by
  obtain ⟨c, hc, rfl⟩ := nI_of hn
  unfold spV at h
  by_cases h0 : i < 0
  · rw [if_pos h0] at h; exact absurd rfl h
  · obtain ⟨a, ha, rfl⟩ := nI_of h0
    rw [if_neg h0, nI_long (by omega), nI_long ha, nI_long hc, lN_add] at h
    by_cases h2 : lN s < lN (a + c)
    · rw [if_pos h2] at h; exact absurd rfl h
    · exact ⟨a, c, rfl, rfl, Nat.le_of_not_lt (fun q => h2 ((pk_lLT (by omega) (by omega)).mpr q))⟩
def cpA (I : IntM) (x a b m : Nat) : IntM := fun y k => if y = x ∧ b ≤ k ∧ k < b + m then I x (a + (k - b)) else I y k
def cpZ (I : IntM) (x a b c m : Nat) : IntM := fun y k => if y = x ∧ b + (c - m) ≤ k ∧ k < b + c then I x (a + (k - b)) else I y k
theorem cpA_0 (I : IntM) (x a b : Nat) : cpA I x a b 0 = I := by
  funext y k
  unfold cpA
  rw [if_neg (by omega)]
theorem cpZ_0 (I : IntM) (x a b c : Nat) : cpZ I x a b c 0 = I := by
  funext y k
  unfold cpZ
  rw [if_neg (by omega)]
theorem cpZ_c (I : IntM) (x a b c : Nat) : cpZ I x a b c c = cpA I x a b c := by
  funext y k
  unfold cpZ cpA
  rw [show b + (c - c) = b by omega]
theorem cpA_s {I : IntM} {x a b m : Nat} (h : b ≤ a ∨ a + m < b) : uI (cpA I x a b m) x (b + m) (cpA I x a b m x (a + m)) = cpA I x a b (m + 1) := by
  have e : cpA I x a b m x (a + m) = I x (a + m) := by unfold cpA; rw [if_neg (by omega)]
  rw [e]
  funext y k
  unfold uI cpA
  by_cases h1 : y = x ∧ k = b + m
  · rw [if_pos (by obtain ⟨rfl, rfl⟩ := h1; first | exact ⟨rfl, rfl⟩ | rfl), if_pos (by omega)]
    congr 1
    omega
  · rw [if_neg (by first | exact h1 | (intro q; cases q; exact h1 ⟨rfl, rfl⟩))]
    by_cases h2 : y = x ∧ b ≤ k ∧ k < b + m
    · rw [if_pos h2, if_pos (by omega)]
    · rw [if_neg h2, if_neg (by omega)]
theorem cpZ_s {I : IntM} {x a b c m : Nat} (hm : m < c) (h : a ≤ b ∨ b + c ≤ a) : uI (cpZ I x a b c m) x (b + (c - 1 - m)) (cpZ I x a b c m x (a + (c - 1 - m))) = cpZ I x a b c (m + 1) := by
  have e : cpZ I x a b c m x (a + (c - 1 - m)) = I x (a + (c - 1 - m)) := by unfold cpZ; rw [if_neg (by omega)]
  rw [e]
  funext y k
  unfold uI cpZ
  by_cases h1 : y = x ∧ k = b + (c - 1 - m)
  · rw [if_pos (by obtain ⟨rfl, rfl⟩ := h1; first | exact ⟨rfl, rfl⟩ | rfl), if_pos (by omega)]
    congr 1
    omega
  · rw [if_neg (by first | exact h1 | (intro q; cases q; exact h1 ⟨rfl, rfl⟩))]
    by_cases h2 : y = x ∧ b + (c - m) ≤ k ∧ k < b + c
    · rw [if_pos h2, if_pos (by omega)]
    · rw [if_neg h2, if_neg (by omega)]

set_option maxRecDepth 100000 in
set_option maxHeartbeats 4000000 in
theorem c_M_isSpan (I : IntM) (J : LngM) {r : Nat} (hr : r < 6) (i n : Int32) : CtV 1 m_X11_isSpan [.ref 146, .int (nI r), .int i, .int n] I J (.int (spV (I 148 r) i n)) I J := by
  refine CtV_of (by decide) rfl (Nat.le_of_ble_eq_true rfl) ?_
  refine V_il i_X11_isSpan_0 rfl ?_
  refine V_if_lt i_X11_isSpan_1 (fun c1 => ?_) (fun c1 => ?_)
  · refine V_c i_X11_isSpan_24 ?_
    exact P_zret i_X11_isSpan_25 rfl (by decide) ⟨by simp [spV, *], rfl, rfl⟩
  · refine V_il i_X11_isSpan_4 rfl ?_
    refine V_i2l i_X11_isSpan_5 ?_
    refine V_il i_X11_isSpan_6 rfl ?_
    refine V_i2l i_X11_isSpan_7 ?_
    refine V_ladd i_X11_isSpan_8 ?_
    refine V_al i_X11_isSpan_9 rfl ?_
    refine V_getR i_X11_isSpan_10 rfl rfl ?_
    refine V_il i_X11_isSpan_13 rfl ?_
    refine K_iald r i_X11_isSpan_14 rfl rfl hr (by omega) ?_
    refine V_i2l i_X11_isSpan_15 ?_
    refine V_lcmp i_X11_isSpan_16 ?_
    refine V_if_gt i_X11_isSpan_17 (fun c17 => ?_) (fun c17 => ?_)
    · rw [lgc_gt] at c17
      refine V_c i_X11_isSpan_24 ?_
      exact P_zret i_X11_isSpan_25 rfl (by decide) ⟨by simp [spV, *], rfl, rfl⟩
    · rw [lgc_gt] at c17
      refine V_c i_X11_isSpan_20 ?_
      refine V_goto i_X11_isSpan_21 ?_
      exact P_zret i_X11_isSpan_25 rfl (by decide) ⟨by simp [spV, *], rfl, rfl⟩
set_option maxRecDepth 100000 in
set_option maxHeartbeats 4000000 in
theorem c_copy0a (I : IntM) (J : LngM) (hZ : ISz I) {x i z j n : Int32} (h1 : hasC 6 x = 0) (h2 : hasC 6 z = 0) : CtP 3 m_X10_copy [.ref 0, .int x, .int i, .int z, .int j, .int n] I J (QC I J (.int (-1)) none none none) := by
  refine CtP_of (by decide) rfl (Nat.le_of_ble_eq_true rfl) ?_
  refine V_al i_X10_copy_0 rfl ?_
  refine V_getR i_X10_copy_1 rfl rfl ?_
  refine V_il i_X10_copy_4 rfl ?_
  refine P_callS2v i_X10_copy_5 ms_X10_pick (by decide) (Nat.le_of_ble_eq_true rfl) (c_pick0 _ _ (a := 1) (N := 6) rfl (by decide) h1) ?_
  refine V_asN (L' := [(0, _), (2, _), (3, _), (4, _), (5, _), (6, _)]) i_X10_copy_8 (by decide) ⟨rfl, rfl, rfl, rfl, rfl, rfl, trivial⟩ ?_
  refine V_al i_X10_copy_10 rfl ?_
  refine V_getR i_X10_copy_11 rfl rfl ?_
  refine V_il i_X10_copy_14 rfl ?_
  refine P_callS2v i_X10_copy_15 ms_X10_pick (by decide) (Nat.le_of_ble_eq_true rfl) (c_pick0 _ _ (a := 1) (N := 6) rfl (by decide) h2) ?_
  refine V_asN (L' := [(0, _), (2, _), (4, _), (5, _), (6, _), (7, _)]) i_X10_copy_18 (by decide) ⟨rfl, rfl, rfl, rfl, rfl, rfl, trivial⟩ ?_
  refine V_alN i_X10_copy_20 rfl ?_
  refine V_ifnullN i_X10_copy_22 ?_
  refine V_c i_X10_copy_30 ?_
  exact P_iret i_X10_copy_31 rfl ⟨rfl, I, J, FrC.rf, hZ, rfl, rfl⟩
set_option maxRecDepth 100000 in
set_option maxHeartbeats 4000000 in
theorem c_copy0b (I : IntM) (J : LngM) (hZ : ISz I) {x i z j n : Int32} (h1 : hasC 6 x = 0) {t : Nat} (ht : t < 6) (hz : z = nI t) : CtP 3 m_X10_copy [.ref 0, .int x, .int i, .int z, .int j, .int n] I J (QC I J (.int (-1)) none none none) := by
  refine CtP_of (by decide) rfl (Nat.le_of_ble_eq_true rfl) ?_
  subst hz
  refine V_al i_X10_copy_0 rfl ?_
  refine V_getR i_X10_copy_1 rfl rfl ?_
  refine V_il i_X10_copy_4 rfl ?_
  refine P_callS2v i_X10_copy_5 ms_X10_pick (by decide) (Nat.le_of_ble_eq_true rfl) (c_pick0 _ _ (a := 1) (N := 6) rfl (by decide) h1) ?_
  refine V_asN (L' := [(0, _), (2, _), (3, _), (4, _), (5, _), (6, _)]) i_X10_copy_8 (by decide) ⟨rfl, rfl, rfl, rfl, rfl, rfl, trivial⟩ ?_
  refine V_al i_X10_copy_10 rfl ?_
  refine V_getR i_X10_copy_11 rfl rfl ?_
  refine V_il i_X10_copy_14 rfl ?_
  refine P_callS2v i_X10_copy_15 ms_X10_pick (by decide) (Nat.le_of_ble_eq_true rfl) (c_pick _ _ (a := 1) (N := 6) (k := t) rfl (by decide) ht (RF_row ht)) ?_
  refine V_as (L' := [(0, _), (2, _), (4, _), (5, _), (6, _), (7, _)]) i_X10_copy_18 (by decide) ⟨rfl, rfl, rfl, rfl, rfl, rfl, trivial⟩ ?_
  refine V_alN i_X10_copy_20 rfl ?_
  refine V_ifnullN i_X10_copy_22 ?_
  refine V_c i_X10_copy_30 ?_
  exact P_iret i_X10_copy_31 rfl ⟨rfl, I, J, FrC.rf, hZ, rfl, rfl⟩
set_option maxRecDepth 100000 in
set_option maxHeartbeats 4000000 in
theorem c_copy0c (I : IntM) (J : LngM) (hZ : ISz I) {x i z j n : Int32} {r : Nat} (hr : r < 6) (hx : x = nI r) (h2 : hasC 6 z = 0) : CtP 3 m_X10_copy [.ref 0, .int x, .int i, .int z, .int j, .int n] I J (QC I J (.int (-1)) none none none) := by
  refine CtP_of (by decide) rfl (Nat.le_of_ble_eq_true rfl) ?_
  subst hx
  refine V_al i_X10_copy_0 rfl ?_
  refine V_getR i_X10_copy_1 rfl rfl ?_
  refine V_il i_X10_copy_4 rfl ?_
  refine P_callS2v i_X10_copy_5 ms_X10_pick (by decide) (Nat.le_of_ble_eq_true rfl) (c_pick _ _ (a := 1) (N := 6) (k := r) rfl (by decide) hr (RF_row hr)) ?_
  refine V_as (L' := [(0, _), (2, _), (3, _), (4, _), (5, _), (6, _)]) i_X10_copy_8 (by decide) ⟨rfl, rfl, rfl, rfl, rfl, rfl, trivial⟩ ?_
  refine V_al i_X10_copy_10 rfl ?_
  refine V_getR i_X10_copy_11 rfl rfl ?_
  refine V_il i_X10_copy_14 rfl ?_
  refine P_callS2v i_X10_copy_15 ms_X10_pick (by decide) (Nat.le_of_ble_eq_true rfl) (c_pick0 _ _ (a := 1) (N := 6) rfl (by decide) h2) ?_
  refine V_asN (L' := [(0, _), (2, _), (4, _), (5, _), (6, _), (7, _)]) i_X10_copy_18 (by decide) ⟨rfl, rfl, rfl, rfl, rfl, rfl, trivial⟩ ?_
  refine V_al i_X10_copy_20 rfl ?_
  refine V_ifnull i_X10_copy_22 ?_
  refine V_alN i_X10_copy_25 rfl ?_
  refine V_ifnonnullN i_X10_copy_27 ?_
  refine V_c i_X10_copy_30 ?_
  exact P_iret i_X10_copy_31 rfl ⟨rfl, I, J, FrC.rf, hZ, rfl, rfl⟩
set_option maxRecDepth 100000 in
set_option maxHeartbeats 4000000 in
theorem c_copy1 (I : IntM) (J : LngM) (hZ : ISz I) {r t : Nat} (hr : r < 6) (ht : t < 6) {i j n : Int32} (hn : n < 0) : CtP 3 m_X10_copy [.ref 0, .int (nI r), .int i, .int (nI t), .int j, .int n] I J (QC I J (.int (-3)) none none (some 5)) := by
  refine CtP_of (by decide) rfl (Nat.le_of_ble_eq_true rfl) ?_
  refine V_al i_X10_copy_0 rfl ?_
  refine V_getR i_X10_copy_1 rfl rfl ?_
  refine V_il i_X10_copy_4 rfl ?_
  refine P_callS2v i_X10_copy_5 ms_X10_pick (by decide) (Nat.le_of_ble_eq_true rfl) (c_pick _ _ (a := 1) (N := 6) (k := r) rfl (by decide) hr (RF_row hr)) ?_
  refine V_as (L' := [(0, _), (2, _), (3, _), (4, _), (5, _), (6, _)]) i_X10_copy_8 (by decide) ⟨rfl, rfl, rfl, rfl, rfl, rfl, trivial⟩ ?_
  refine V_al i_X10_copy_10 rfl ?_
  refine V_getR i_X10_copy_11 rfl rfl ?_
  refine V_il i_X10_copy_14 rfl ?_
  refine P_callS2v i_X10_copy_15 ms_X10_pick (by decide) (Nat.le_of_ble_eq_true rfl) (c_pick _ _ (a := 1) (N := 6) (k := t) rfl (by decide) ht (RF_row ht)) ?_
  refine V_as (L' := [(0, _), (2, _), (4, _), (5, _), (6, _), (7, _)]) i_X10_copy_18 (by decide) ⟨rfl, rfl, rfl, rfl, rfl, rfl, trivial⟩ ?_
  refine V_al i_X10_copy_20 rfl ?_
  refine V_ifnull i_X10_copy_22 ?_
  refine V_al i_X10_copy_25 rfl ?_
  refine V_ifnonnull i_X10_copy_27 ?_
  refine V_il i_X10_copy_32 rfl ?_
  refine V_if_ge_f i_X10_copy_34 (fun q => Int32.not_lt.mpr q hn) ?_
  refine V_al i_X10_copy_37 rfl ?_
  refine V_c i_X10_copy_38 ?_
  refine P_callV1v i_X10_copy_39 mi_X10_refuse rfl ⟨_, _, rfl⟩ (by decide) (Nat.le_of_ble_eq_true rfl) (c_refuse I J (f := 5) (by decide)) ?_
  exact P_iret i_X10_copy_42 rfl ⟨rfl, I, J, FrC.rf, hZ, rfl, rfl⟩
set_option maxRecDepth 100000 in
set_option maxHeartbeats 4000000 in
theorem c_copy2a (I : IntM) (J : LngM) (hZ : ISz I) {r t : Nat} (hr : r < 6) (ht : t < 6) {i j n : Int32} (hn : ¬ n < 0) (hs : I (111 + 2 * r) 1 = -1) : CtP 3 m_X10_copy [.ref 0, .int (nI r), .int i, .int (nI t), .int j, .int n] I J (QC I J (.int (-3)) none none (some 1)) := by
  refine CtP_of (by decide) rfl (Nat.le_of_ble_eq_true rfl) ?_
  refine V_al i_X10_copy_0 rfl ?_
  refine V_getR i_X10_copy_1 rfl rfl ?_
  refine V_il i_X10_copy_4 rfl ?_
  refine P_callS2v i_X10_copy_5 ms_X10_pick (by decide) (Nat.le_of_ble_eq_true rfl) (c_pick _ _ (a := 1) (N := 6) (k := r) rfl (by decide) hr (RF_row hr)) ?_
  refine V_as (L' := [(0, _), (2, _), (3, _), (4, _), (5, _), (6, _)]) i_X10_copy_8 (by decide) ⟨rfl, rfl, rfl, rfl, rfl, rfl, trivial⟩ ?_
  refine V_al i_X10_copy_10 rfl ?_
  refine V_getR i_X10_copy_11 rfl rfl ?_
  refine V_il i_X10_copy_14 rfl ?_
  refine P_callS2v i_X10_copy_15 ms_X10_pick (by decide) (Nat.le_of_ble_eq_true rfl) (c_pick _ _ (a := 1) (N := 6) (k := t) rfl (by decide) ht (RF_row ht)) ?_
  refine V_as (L' := [(0, _), (2, _), (4, _), (5, _), (6, _), (7, _)]) i_X10_copy_18 (by decide) ⟨rfl, rfl, rfl, rfl, rfl, rfl, trivial⟩ ?_
  refine V_al i_X10_copy_20 rfl ?_
  refine V_ifnull i_X10_copy_22 ?_
  refine V_al i_X10_copy_25 rfl ?_
  refine V_ifnonnull i_X10_copy_27 ?_
  refine V_il i_X10_copy_32 rfl ?_
  refine V_if_ge_t i_X10_copy_34 (Int32.not_lt.mp hn) ?_
  refine V_al i_X10_copy_43 rfl ?_
  refine P_callV0v i_X10_copy_45 mi_X3_missing (LI_row hr).1 ⟨_, _, rfl⟩ (by decide) (Nat.le_of_ble_eq_true rfl) (c_I_missing _ _ (LI_row hr)) ?_
  refine V_if_ne_t i_X10_copy_48 (by rw [hs]; decide) ?_
  refine V_al i_X10_copy_59 rfl ?_
  refine V_c i_X10_copy_60 ?_
  refine P_callV1v i_X10_copy_61 mi_X10_refuse rfl ⟨_, _, rfl⟩ (by decide) (Nat.le_of_ble_eq_true rfl) (c_refuse I J (f := 1) (by decide)) ?_
  exact P_iret i_X10_copy_64 rfl ⟨rfl, I, J, FrC.rf, hZ, rfl, rfl⟩
set_option maxRecDepth 100000 in
set_option maxHeartbeats 4000000 in
theorem c_copy2b (I : IntM) (J : LngM) (hZ : ISz I) {r t : Nat} (hr : r < 6) (ht : t < 6) {i j n : Int32} (hn : ¬ n < 0) {s : Nat} (hs6 : s ≤ 60) (hs : I (111 + 2 * r) 1 = nI s) (hs2 : I (111 + 2 * t) 1 = -1) : CtP 3 m_X10_copy [.ref 0, .int (nI r), .int i, .int (nI t), .int j, .int n] I J (QC I J (.int (-3)) none none (some 1)) := by
  refine CtP_of (by decide) rfl (Nat.le_of_ble_eq_true rfl) ?_
  refine V_al i_X10_copy_0 rfl ?_
  refine V_getR i_X10_copy_1 rfl rfl ?_
  refine V_il i_X10_copy_4 rfl ?_
  refine P_callS2v i_X10_copy_5 ms_X10_pick (by decide) (Nat.le_of_ble_eq_true rfl) (c_pick _ _ (a := 1) (N := 6) (k := r) rfl (by decide) hr (RF_row hr)) ?_
  refine V_as (L' := [(0, _), (2, _), (3, _), (4, _), (5, _), (6, _)]) i_X10_copy_8 (by decide) ⟨rfl, rfl, rfl, rfl, rfl, rfl, trivial⟩ ?_
  refine V_al i_X10_copy_10 rfl ?_
  refine V_getR i_X10_copy_11 rfl rfl ?_
  refine V_il i_X10_copy_14 rfl ?_
  refine P_callS2v i_X10_copy_15 ms_X10_pick (by decide) (Nat.le_of_ble_eq_true rfl) (c_pick _ _ (a := 1) (N := 6) (k := t) rfl (by decide) ht (RF_row ht)) ?_
  refine V_as (L' := [(0, _), (2, _), (4, _), (5, _), (6, _), (7, _)]) i_X10_copy_18 (by decide) ⟨rfl, rfl, rfl, rfl, rfl, rfl, trivial⟩ ?_
  refine V_al i_X10_copy_20 rfl ?_
  refine V_ifnull i_X10_copy_22 ?_
  refine V_al i_X10_copy_25 rfl ?_
  refine V_ifnonnull i_X10_copy_27 ?_
  refine V_il i_X10_copy_32 rfl ?_
  refine V_if_ge_t i_X10_copy_34 (Int32.not_lt.mp hn) ?_
  refine V_al i_X10_copy_43 rfl ?_
  refine P_callV0v i_X10_copy_45 mi_X3_missing (LI_row hr).1 ⟨_, _, rfl⟩ (by decide) (Nat.le_of_ble_eq_true rfl) (c_I_missing _ _ (LI_row hr)) ?_
  refine V_if_ne_f i_X10_copy_48 (by rw [hs, if_neg (nI_pos (by omega))]) ?_
  refine V_al i_X10_copy_51 rfl ?_
  refine P_callV0v i_X10_copy_53 mi_X3_missing (LI_row ht).1 ⟨_, _, rfl⟩ (by decide) (Nat.le_of_ble_eq_true rfl) (c_I_missing _ _ (LI_row ht)) ?_
  refine V_if_eq_f i_X10_copy_56 (by rw [hs2]; decide) ?_
  refine V_al i_X10_copy_59 rfl ?_
  refine V_c i_X10_copy_60 ?_
  refine P_callV1v i_X10_copy_61 mi_X10_refuse rfl ⟨_, _, rfl⟩ (by decide) (Nat.le_of_ble_eq_true rfl) (c_refuse I J (f := 1) (by decide)) ?_
  exact P_iret i_X10_copy_64 rfl ⟨rfl, I, J, FrC.rf, hZ, rfl, rfl⟩
set_option maxRecDepth 100000 in
set_option maxHeartbeats 4000000 in
theorem c_copy3a (I : IntM) (J : LngM) (hZ : ISz I) {r t : Nat} (hr : r < 6) (ht : t < 6) {i j n : Int32} (hn : ¬ n < 0) {s u : Nat} (hs6 : s ≤ 60) (hs : I (111 + 2 * r) 1 = nI s) (hu6 : u ≤ 60) (hu : I (111 + 2 * t) 1 = nI u) (h0 : spV (nI s) i n = 0) : CtP 3 m_X10_copy [.ref 0, .int (nI r), .int i, .int (nI t), .int j, .int n] I J (QC I J (.int (-3)) none none (some 2)) := by
  refine CtP_of (by decide) rfl (Nat.le_of_ble_eq_true rfl) ?_
  refine V_al i_X10_copy_0 rfl ?_
  refine V_getR i_X10_copy_1 rfl rfl ?_
  refine V_il i_X10_copy_4 rfl ?_
  refine P_callS2v i_X10_copy_5 ms_X10_pick (by decide) (Nat.le_of_ble_eq_true rfl) (c_pick _ _ (a := 1) (N := 6) (k := r) rfl (by decide) hr (RF_row hr)) ?_
  refine V_as (L' := [(0, _), (2, _), (3, _), (4, _), (5, _), (6, _)]) i_X10_copy_8 (by decide) ⟨rfl, rfl, rfl, rfl, rfl, rfl, trivial⟩ ?_
  refine V_al i_X10_copy_10 rfl ?_
  refine V_getR i_X10_copy_11 rfl rfl ?_
  refine V_il i_X10_copy_14 rfl ?_
  refine P_callS2v i_X10_copy_15 ms_X10_pick (by decide) (Nat.le_of_ble_eq_true rfl) (c_pick _ _ (a := 1) (N := 6) (k := t) rfl (by decide) ht (RF_row ht)) ?_
  refine V_as (L' := [(0, _), (2, _), (4, _), (5, _), (6, _), (7, _)]) i_X10_copy_18 (by decide) ⟨rfl, rfl, rfl, rfl, rfl, rfl, trivial⟩ ?_
  refine V_al i_X10_copy_20 rfl ?_
  refine V_ifnull i_X10_copy_22 ?_
  refine V_al i_X10_copy_25 rfl ?_
  refine V_ifnonnull i_X10_copy_27 ?_
  refine V_il i_X10_copy_32 rfl ?_
  refine V_if_ge_t i_X10_copy_34 (Int32.not_lt.mp hn) ?_
  refine V_al i_X10_copy_43 rfl ?_
  refine P_callV0v i_X10_copy_45 mi_X3_missing (LI_row hr).1 ⟨_, _, rfl⟩ (by decide) (Nat.le_of_ble_eq_true rfl) (c_I_missing _ _ (LI_row hr)) ?_
  refine V_if_ne_f i_X10_copy_48 (by rw [hs, if_neg (nI_pos (by omega))]) ?_
  refine V_al i_X10_copy_51 rfl ?_
  refine P_callV0v i_X10_copy_53 mi_X3_missing (LI_row ht).1 ⟨_, _, rfl⟩ (by decide) (Nat.le_of_ble_eq_true rfl) (c_I_missing _ _ (LI_row ht)) ?_
  refine V_if_eq_t i_X10_copy_56 (by rw [hu, if_neg (nI_pos (by omega))]) ?_
  refine V_al i_X10_copy_65 rfl ?_
  refine V_il i_X10_copy_67 rfl ?_
  refine V_il i_X10_copy_68 rfl ?_
  refine P_callV2v i_X10_copy_70 mi_X3_holds (LI_row hr).1 ⟨_, _, rfl⟩ (by decide) (Nat.le_of_ble_eq_true rfl) (c_I_holds _ _ (LI_row hr) _ _) ?_
  refine V_if_eq_t i_X10_copy_73 (by rw [sp_eq hs6 hn hs]; exact h0) ?_
  refine V_al i_X10_copy_88 rfl ?_
  refine V_c i_X10_copy_89 ?_
  refine P_callV1v i_X10_copy_90 mi_X10_refuse rfl ⟨_, _, rfl⟩ (by decide) (Nat.le_of_ble_eq_true rfl) (c_refuse I J (f := 2) (by decide)) ?_
  exact P_iret i_X10_copy_93 rfl ⟨rfl, I, J, FrC.rf, hZ, rfl, rfl⟩
set_option maxRecDepth 100000 in
set_option maxHeartbeats 4000000 in
theorem c_copy3b (I : IntM) (J : LngM) (hZ : ISz I) {r t : Nat} (hr : r < 6) (ht : t < 6) {i j n : Int32} (hn : ¬ n < 0) {s u : Nat} (hs6 : s ≤ 60) (hs : I (111 + 2 * r) 1 = nI s) (hu6 : u ≤ 60) (hu : I (111 + 2 * t) 1 = nI u) (h1 : ¬ spV (nI s) i n = 0) (h0 : spV (nI u) j n = 0) : CtP 3 m_X10_copy [.ref 0, .int (nI r), .int i, .int (nI t), .int j, .int n] I J (QC I J (.int (-3)) none none (some 2)) := by
  refine CtP_of (by decide) rfl (Nat.le_of_ble_eq_true rfl) ?_
  refine V_al i_X10_copy_0 rfl ?_
  refine V_getR i_X10_copy_1 rfl rfl ?_
  refine V_il i_X10_copy_4 rfl ?_
  refine P_callS2v i_X10_copy_5 ms_X10_pick (by decide) (Nat.le_of_ble_eq_true rfl) (c_pick _ _ (a := 1) (N := 6) (k := r) rfl (by decide) hr (RF_row hr)) ?_
  refine V_as (L' := [(0, _), (2, _), (3, _), (4, _), (5, _), (6, _)]) i_X10_copy_8 (by decide) ⟨rfl, rfl, rfl, rfl, rfl, rfl, trivial⟩ ?_
  refine V_al i_X10_copy_10 rfl ?_
  refine V_getR i_X10_copy_11 rfl rfl ?_
  refine V_il i_X10_copy_14 rfl ?_
  refine P_callS2v i_X10_copy_15 ms_X10_pick (by decide) (Nat.le_of_ble_eq_true rfl) (c_pick _ _ (a := 1) (N := 6) (k := t) rfl (by decide) ht (RF_row ht)) ?_
  refine V_as (L' := [(0, _), (2, _), (4, _), (5, _), (6, _), (7, _)]) i_X10_copy_18 (by decide) ⟨rfl, rfl, rfl, rfl, rfl, rfl, trivial⟩ ?_
  refine V_al i_X10_copy_20 rfl ?_
  refine V_ifnull i_X10_copy_22 ?_
  refine V_al i_X10_copy_25 rfl ?_
  refine V_ifnonnull i_X10_copy_27 ?_
  refine V_il i_X10_copy_32 rfl ?_
  refine V_if_ge_t i_X10_copy_34 (Int32.not_lt.mp hn) ?_
  refine V_al i_X10_copy_43 rfl ?_
  refine P_callV0v i_X10_copy_45 mi_X3_missing (LI_row hr).1 ⟨_, _, rfl⟩ (by decide) (Nat.le_of_ble_eq_true rfl) (c_I_missing _ _ (LI_row hr)) ?_
  refine V_if_ne_f i_X10_copy_48 (by rw [hs, if_neg (nI_pos (by omega))]) ?_
  refine V_al i_X10_copy_51 rfl ?_
  refine P_callV0v i_X10_copy_53 mi_X3_missing (LI_row ht).1 ⟨_, _, rfl⟩ (by decide) (Nat.le_of_ble_eq_true rfl) (c_I_missing _ _ (LI_row ht)) ?_
  refine V_if_eq_t i_X10_copy_56 (by rw [hu, if_neg (nI_pos (by omega))]) ?_
  refine V_al i_X10_copy_65 rfl ?_
  refine V_il i_X10_copy_67 rfl ?_
  refine V_il i_X10_copy_68 rfl ?_
  refine P_callV2v i_X10_copy_70 mi_X3_holds (LI_row hr).1 ⟨_, _, rfl⟩ (by decide) (Nat.le_of_ble_eq_true rfl) (c_I_holds _ _ (LI_row hr) _ _) ?_
  refine V_if_eq_f i_X10_copy_73 (by rw [sp_eq hs6 hn hs]; exact h1) ?_
  refine V_al i_X10_copy_76 rfl ?_
  refine V_il i_X10_copy_78 rfl ?_
  refine V_il i_X10_copy_80 rfl ?_
  refine P_callV2v i_X10_copy_82 mi_X3_holds (LI_row ht).1 ⟨_, _, rfl⟩ (by decide) (Nat.le_of_ble_eq_true rfl) (c_I_holds _ _ (LI_row ht) _ _) ?_
  refine V_if_ne_f i_X10_copy_85 (by rw [sp_eq hu6 hn hu]; exact h0) ?_
  refine V_al i_X10_copy_88 rfl ?_
  refine V_c i_X10_copy_89 ?_
  refine P_callV1v i_X10_copy_90 mi_X10_refuse rfl ⟨_, _, rfl⟩ (by decide) (Nat.le_of_ble_eq_true rfl) (c_refuse I J (f := 2) (by decide)) ?_
  exact P_iret i_X10_copy_93 rfl ⟨rfl, I, J, FrC.rf, hZ, rfl, rfl⟩
set_option maxRecDepth 100000 in
set_option maxHeartbeats 4000000 in
theorem c_copy4 (I : IntM) (J : LngM) {r t : Nat} (hr : r < 6) (ht : t < 6) {a b c : Nat} {s u : Nat} (hs6 : s ≤ 60) (hs : I (111 + 2 * r) 1 = nI s) (hu6 : u ≤ 60) (hu : I (111 + 2 * t) 1 = nI u) (hn : ¬ nI c < 0) (h1 : ¬ spV (nI s) (nI a) (nI c) = 0) (h2 : ¬ spV (nI u) (nI b) (nI c) = 0) (ha : a + c ≤ s) (hb : b + c ≤ u) : CtV 3 m_X10_copy [.ref 0, .int (nI r), .int (nI a), .int (nI t), .int (nI b), .int (nI c)] I J (.int 1) (cpI I (111 + 2 * r + 1) a (111 + 2 * t + 1) b c) J := by
  refine CtV_of (by decide) rfl (Nat.le_of_ble_eq_true rfl) ?_
  refine V_al i_X10_copy_0 rfl ?_
  refine V_getR i_X10_copy_1 rfl rfl ?_
  refine V_il i_X10_copy_4 rfl ?_
  refine P_callS2v i_X10_copy_5 ms_X10_pick (by decide) (Nat.le_of_ble_eq_true rfl) (c_pick _ _ (a := 1) (N := 6) (k := r) rfl (by decide) hr (RF_row hr)) ?_
  refine V_as (L' := [(0, _), (2, _), (3, _), (4, _), (5, _), (6, _)]) i_X10_copy_8 (by decide) ⟨rfl, rfl, rfl, rfl, rfl, rfl, trivial⟩ ?_
  refine V_al i_X10_copy_10 rfl ?_
  refine V_getR i_X10_copy_11 rfl rfl ?_
  refine V_il i_X10_copy_14 rfl ?_
  refine P_callS2v i_X10_copy_15 ms_X10_pick (by decide) (Nat.le_of_ble_eq_true rfl) (c_pick _ _ (a := 1) (N := 6) (k := t) rfl (by decide) ht (RF_row ht)) ?_
  refine V_as (L' := [(0, _), (2, _), (4, _), (5, _), (6, _), (7, _)]) i_X10_copy_18 (by decide) ⟨rfl, rfl, rfl, rfl, rfl, rfl, trivial⟩ ?_
  refine V_al i_X10_copy_20 rfl ?_
  refine V_ifnull i_X10_copy_22 ?_
  refine V_al i_X10_copy_25 rfl ?_
  refine V_ifnonnull i_X10_copy_27 ?_
  refine V_il i_X10_copy_32 rfl ?_
  refine V_if_ge_t i_X10_copy_34 (Int32.not_lt.mp hn) ?_
  refine V_al i_X10_copy_43 rfl ?_
  refine P_callV0v i_X10_copy_45 mi_X3_missing (LI_row hr).1 ⟨_, _, rfl⟩ (by decide) (Nat.le_of_ble_eq_true rfl) (c_I_missing _ _ (LI_row hr)) ?_
  refine V_if_ne_f i_X10_copy_48 (by rw [hs, if_neg (nI_pos (by omega))]) ?_
  refine V_al i_X10_copy_51 rfl ?_
  refine P_callV0v i_X10_copy_53 mi_X3_missing (LI_row ht).1 ⟨_, _, rfl⟩ (by decide) (Nat.le_of_ble_eq_true rfl) (c_I_missing _ _ (LI_row ht)) ?_
  refine V_if_eq_t i_X10_copy_56 (by rw [hu, if_neg (nI_pos (by omega))]) ?_
  refine V_al i_X10_copy_65 rfl ?_
  refine V_il i_X10_copy_67 rfl ?_
  refine V_il i_X10_copy_68 rfl ?_
  refine P_callV2v i_X10_copy_70 mi_X3_holds (LI_row hr).1 ⟨_, _, rfl⟩ (by decide) (Nat.le_of_ble_eq_true rfl) (c_I_holds _ _ (LI_row hr) _ _) ?_
  refine V_if_eq_f i_X10_copy_73 (by rw [sp_eq hs6 hn hs]; exact h1) ?_
  refine V_al i_X10_copy_76 rfl ?_
  refine V_il i_X10_copy_78 rfl ?_
  refine V_il i_X10_copy_80 rfl ?_
  refine P_callV2v i_X10_copy_82 mi_X3_holds (LI_row ht).1 ⟨_, _, rfl⟩ (by decide) (Nat.le_of_ble_eq_true rfl) (c_I_holds _ _ (LI_row ht) _ _) ?_
  refine V_if_ne_t i_X10_copy_85 (by rw [sp_eq hu6 hn hu]; exact h2) ?_
  refine V_al i_X10_copy_94 rfl ?_
  refine V_al i_X10_copy_96 rfl ?_
  refine V_il i_X10_copy_98 rfl ?_
  refine V_il i_X10_copy_99 rfl ?_
  refine V_il i_X10_copy_101 rfl ?_
  refine P_callV4u i_X10_copy_103 mi_X3_moveTo (LI_row hr).1 ⟨_, _, rfl⟩ (by decide) (Nat.le_of_ble_eq_true rfl) (c_I_moveTo I J (LI_row hr) (LI_row ht) hs hu hs6 hu6 ha hb) ?_
  refine V_c i_X10_copy_106 ?_
  exact P_iret i_X10_copy_107 rfl ⟨rfl, rfl, rfl⟩
set_option maxRecDepth 100000 in
set_option maxHeartbeats 4000000 in
theorem m_copy0a (I : IntM) (J : LngM) {x i z j n : Int32} (h : hasC 6 x = 0) : CtP 3 m_X11_copy [.ref 146, .int x, .int i, .int z, .int j, .int n] I J (QM I J (.int (-1)) none none none) := by
  refine CtP_of (by decide) rfl (Nat.le_of_ble_eq_true rfl) ?_
  refine V_il i_X11_copy_0 rfl ?_
  refine P_callS1v i_X11_copy_1 ms_X11_isRow (by decide) (Nat.le_of_ble_eq_true rfl) (c_M_isRow _ _ _) ?_
  refine V_if_eq_t i_X11_copy_4 h ?_
  refine V_c i_X11_copy_14 ?_
  exact P_iret i_X11_copy_15 rfl ⟨rfl, I, J, FrM.rf, rfl, rfl⟩
set_option maxRecDepth 100000 in
set_option maxHeartbeats 4000000 in
theorem m_copy0b (I : IntM) (J : LngM) {x i z j n : Int32} {r : Nat} (hr : r < 6) (hx : x = nI r) (h : hasC 6 z = 0) : CtP 3 m_X11_copy [.ref 146, .int x, .int i, .int z, .int j, .int n] I J (QM I J (.int (-1)) none none none) := by
  refine CtP_of (by decide) rfl (Nat.le_of_ble_eq_true rfl) ?_
  refine V_il i_X11_copy_0 rfl ?_
  refine P_callS1v i_X11_copy_1 ms_X11_isRow (by decide) (Nat.le_of_ble_eq_true rfl) (c_M_isRow _ _ _) ?_
  refine V_if_eq_f i_X11_copy_4 (by rw [hx, hasN_nI (by decide) hr]; decide) ?_
  refine V_il i_X11_copy_7 rfl ?_
  refine P_callS1v i_X11_copy_8 ms_X11_isRow (by decide) (Nat.le_of_ble_eq_true rfl) (c_M_isRow _ _ _) ?_
  refine V_if_ne_f i_X11_copy_11 h ?_
  refine V_c i_X11_copy_14 ?_
  exact P_iret i_X11_copy_15 rfl ⟨rfl, I, J, FrM.rf, rfl, rfl⟩
set_option maxRecDepth 100000 in
set_option maxHeartbeats 4000000 in
theorem m_copy1 (I : IntM) (J : LngM) {r t : Nat} (hr : r < 6) (ht : t < 6) {i j n : Int32} (hn : n < 0) : CtP 3 m_X11_copy [.ref 146, .int (nI r), .int i, .int (nI t), .int j, .int n] I J (QM I J (.int (-3)) none none (some 5)) := by
  refine CtP_of (by decide) rfl (Nat.le_of_ble_eq_true rfl) ?_
  refine V_il i_X11_copy_0 rfl ?_
  refine P_callS1v i_X11_copy_1 ms_X11_isRow (by decide) (Nat.le_of_ble_eq_true rfl) (c_M_isRow _ _ _) ?_
  refine V_if_eq_f i_X11_copy_4 (by rw [hasN_nI (by decide) hr]; decide) ?_
  refine V_il i_X11_copy_7 rfl ?_
  refine P_callS1v i_X11_copy_8 ms_X11_isRow (by decide) (Nat.le_of_ble_eq_true rfl) (c_M_isRow _ _ _) ?_
  refine V_if_ne_t i_X11_copy_11 (by rw [hasN_nI (by decide) ht]; decide) ?_
  refine V_il i_X11_copy_16 rfl ?_
  refine V_if_ge_f i_X11_copy_18 (fun q => Int32.not_lt.mpr q hn) ?_
  refine V_al i_X11_copy_21 rfl ?_
  refine V_c i_X11_copy_22 ?_
  refine P_callV1v i_X11_copy_23 mi_X11_found rfl ⟨_, _, rfl⟩ (by decide) (Nat.le_of_ble_eq_true rfl) (c_M_found I J (f := 5) (by decide)) ?_
  exact P_iret i_X11_copy_26 rfl ⟨rfl, I, J, FrM.rf, rfl, rfl⟩
set_option maxRecDepth 100000 in
set_option maxHeartbeats 4000000 in
theorem m_copy2a (I : IntM) (J : LngM) {r t : Nat} (hr : r < 6) (ht : t < 6) {i j n : Int32} (hn : ¬ n < 0) (hs : I 148 r = -1) : CtP 3 m_X11_copy [.ref 146, .int (nI r), .int i, .int (nI t), .int j, .int n] I J (QM I J (.int (-3)) none none (some 1)) := by
  refine CtP_of (by decide) rfl (Nat.le_of_ble_eq_true rfl) ?_
  refine V_il i_X11_copy_0 rfl ?_
  refine P_callS1v i_X11_copy_1 ms_X11_isRow (by decide) (Nat.le_of_ble_eq_true rfl) (c_M_isRow _ _ _) ?_
  refine V_if_eq_f i_X11_copy_4 (by rw [hasN_nI (by decide) hr]; decide) ?_
  refine V_il i_X11_copy_7 rfl ?_
  refine P_callS1v i_X11_copy_8 ms_X11_isRow (by decide) (Nat.le_of_ble_eq_true rfl) (c_M_isRow _ _ _) ?_
  refine V_if_ne_t i_X11_copy_11 (by rw [hasN_nI (by decide) ht]; decide) ?_
  refine V_il i_X11_copy_16 rfl ?_
  refine V_if_ge_t i_X11_copy_18 (Int32.not_lt.mp hn) ?_
  refine V_al i_X11_copy_27 rfl ?_
  refine V_getR i_X11_copy_28 rfl rfl ?_
  refine V_il i_X11_copy_31 rfl ?_
  refine K_iald _ i_X11_copy_32 rfl rfl (by omega) (by omega) ?_
  refine V_if_lt_t i_X11_copy_33 (by rw [hs]; decide) ?_
  refine V_al i_X11_copy_45 rfl ?_
  refine V_c i_X11_copy_46 ?_
  refine P_callV1v i_X11_copy_47 mi_X11_found rfl ⟨_, _, rfl⟩ (by decide) (Nat.le_of_ble_eq_true rfl) (c_M_found I J (f := 1) (by decide)) ?_
  exact P_iret i_X11_copy_50 rfl ⟨rfl, I, J, FrM.rf, rfl, rfl⟩
set_option maxRecDepth 100000 in
set_option maxHeartbeats 4000000 in
theorem m_copy2b (I : IntM) (J : LngM) {r t : Nat} (hr : r < 6) (ht : t < 6) {i j n : Int32} (hn : ¬ n < 0) {s : Nat} (hs6 : s ≤ 60) (hs : I 148 r = nI s) (hs2 : I 148 t = -1) : CtP 3 m_X11_copy [.ref 146, .int (nI r), .int i, .int (nI t), .int j, .int n] I J (QM I J (.int (-3)) none none (some 1)) := by
  refine CtP_of (by decide) rfl (Nat.le_of_ble_eq_true rfl) ?_
  refine V_il i_X11_copy_0 rfl ?_
  refine P_callS1v i_X11_copy_1 ms_X11_isRow (by decide) (Nat.le_of_ble_eq_true rfl) (c_M_isRow _ _ _) ?_
  refine V_if_eq_f i_X11_copy_4 (by rw [hasN_nI (by decide) hr]; decide) ?_
  refine V_il i_X11_copy_7 rfl ?_
  refine P_callS1v i_X11_copy_8 ms_X11_isRow (by decide) (Nat.le_of_ble_eq_true rfl) (c_M_isRow _ _ _) ?_
  refine V_if_ne_t i_X11_copy_11 (by rw [hasN_nI (by decide) ht]; decide) ?_
  refine V_il i_X11_copy_16 rfl ?_
  refine V_if_ge_t i_X11_copy_18 (Int32.not_lt.mp hn) ?_
  refine V_al i_X11_copy_27 rfl ?_
  refine V_getR i_X11_copy_28 rfl rfl ?_
  refine V_il i_X11_copy_31 rfl ?_
  refine K_iald _ i_X11_copy_32 rfl rfl (by omega) (by omega) ?_
  refine V_if_lt_f i_X11_copy_33 (by rw [hs]; exact nI_pos (by omega)) ?_
  refine V_al i_X11_copy_36 rfl ?_
  refine V_getR i_X11_copy_37 rfl rfl ?_
  refine V_il i_X11_copy_40 rfl ?_
  refine K_iald _ i_X11_copy_41 rfl rfl (by omega) (by omega) ?_
  refine V_if_ge_f i_X11_copy_42 (by rw [hs2]; decide) ?_
  refine V_al i_X11_copy_45 rfl ?_
  refine V_c i_X11_copy_46 ?_
  refine P_callV1v i_X11_copy_47 mi_X11_found rfl ⟨_, _, rfl⟩ (by decide) (Nat.le_of_ble_eq_true rfl) (c_M_found I J (f := 1) (by decide)) ?_
  exact P_iret i_X11_copy_50 rfl ⟨rfl, I, J, FrM.rf, rfl, rfl⟩
set_option maxRecDepth 100000 in
set_option maxHeartbeats 4000000 in
theorem m_copy3a (I : IntM) (J : LngM) {r t : Nat} (hr : r < 6) (ht : t < 6) {i j n : Int32} (hn : ¬ n < 0) {s u : Nat} (hs6 : s ≤ 60) (hs : I 148 r = nI s) (hu6 : u ≤ 60) (hu : I 148 t = nI u) (h0 : spV (nI s) i n = 0) : CtP 3 m_X11_copy [.ref 146, .int (nI r), .int i, .int (nI t), .int j, .int n] I J (QM I J (.int (-3)) none none (some 2)) := by
  refine CtP_of (by decide) rfl (Nat.le_of_ble_eq_true rfl) ?_
  refine V_il i_X11_copy_0 rfl ?_
  refine P_callS1v i_X11_copy_1 ms_X11_isRow (by decide) (Nat.le_of_ble_eq_true rfl) (c_M_isRow _ _ _) ?_
  refine V_if_eq_f i_X11_copy_4 (by rw [hasN_nI (by decide) hr]; decide) ?_
  refine V_il i_X11_copy_7 rfl ?_
  refine P_callS1v i_X11_copy_8 ms_X11_isRow (by decide) (Nat.le_of_ble_eq_true rfl) (c_M_isRow _ _ _) ?_
  refine V_if_ne_t i_X11_copy_11 (by rw [hasN_nI (by decide) ht]; decide) ?_
  refine V_il i_X11_copy_16 rfl ?_
  refine V_if_ge_t i_X11_copy_18 (Int32.not_lt.mp hn) ?_
  refine V_al i_X11_copy_27 rfl ?_
  refine V_getR i_X11_copy_28 rfl rfl ?_
  refine V_il i_X11_copy_31 rfl ?_
  refine K_iald _ i_X11_copy_32 rfl rfl (by omega) (by omega) ?_
  refine V_if_lt_f i_X11_copy_33 (by rw [hs]; exact nI_pos (by omega)) ?_
  refine V_al i_X11_copy_36 rfl ?_
  refine V_getR i_X11_copy_37 rfl rfl ?_
  refine V_il i_X11_copy_40 rfl ?_
  refine K_iald _ i_X11_copy_41 rfl rfl (by omega) (by omega) ?_
  refine V_if_ge_t i_X11_copy_42 (by rw [hu]; exact nI_pos' (by omega)) ?_
  refine V_al i_X11_copy_51 rfl ?_
  refine V_il i_X11_copy_52 rfl ?_
  refine V_il i_X11_copy_53 rfl ?_
  refine V_il i_X11_copy_54 rfl ?_
  refine P_callV3v i_X11_copy_56 mi_X11_isSpan rfl ⟨_, _, rfl⟩ (by decide) (Nat.le_of_ble_eq_true rfl) (c_M_isSpan _ _ hr _ _) ?_
  refine V_if_eq_t i_X11_copy_59 (by rw [hs]; exact h0) ?_
  refine V_al i_X11_copy_74 rfl ?_
  refine V_c i_X11_copy_75 ?_
  refine P_callV1v i_X11_copy_76 mi_X11_found rfl ⟨_, _, rfl⟩ (by decide) (Nat.le_of_ble_eq_true rfl) (c_M_found I J (f := 2) (by decide)) ?_
  exact P_iret i_X11_copy_79 rfl ⟨rfl, I, J, FrM.rf, rfl, rfl⟩
set_option maxRecDepth 100000 in
set_option maxHeartbeats 4000000 in
theorem m_copy3b (I : IntM) (J : LngM) {r t : Nat} (hr : r < 6) (ht : t < 6) {i j n : Int32} (hn : ¬ n < 0) {s u : Nat} (hs6 : s ≤ 60) (hs : I 148 r = nI s) (hu6 : u ≤ 60) (hu : I 148 t = nI u) (h1 : ¬ spV (nI s) i n = 0) (h0 : spV (nI u) j n = 0) : CtP 3 m_X11_copy [.ref 146, .int (nI r), .int i, .int (nI t), .int j, .int n] I J (QM I J (.int (-3)) none none (some 2)) := by
  refine CtP_of (by decide) rfl (Nat.le_of_ble_eq_true rfl) ?_
  refine V_il i_X11_copy_0 rfl ?_
  refine P_callS1v i_X11_copy_1 ms_X11_isRow (by decide) (Nat.le_of_ble_eq_true rfl) (c_M_isRow _ _ _) ?_
  refine V_if_eq_f i_X11_copy_4 (by rw [hasN_nI (by decide) hr]; decide) ?_
  refine V_il i_X11_copy_7 rfl ?_
  refine P_callS1v i_X11_copy_8 ms_X11_isRow (by decide) (Nat.le_of_ble_eq_true rfl) (c_M_isRow _ _ _) ?_
  refine V_if_ne_t i_X11_copy_11 (by rw [hasN_nI (by decide) ht]; decide) ?_
  refine V_il i_X11_copy_16 rfl ?_
  refine V_if_ge_t i_X11_copy_18 (Int32.not_lt.mp hn) ?_
  refine V_al i_X11_copy_27 rfl ?_
  refine V_getR i_X11_copy_28 rfl rfl ?_
  refine V_il i_X11_copy_31 rfl ?_
  refine K_iald _ i_X11_copy_32 rfl rfl (by omega) (by omega) ?_
  refine V_if_lt_f i_X11_copy_33 (by rw [hs]; exact nI_pos (by omega)) ?_
  refine V_al i_X11_copy_36 rfl ?_
  refine V_getR i_X11_copy_37 rfl rfl ?_
  refine V_il i_X11_copy_40 rfl ?_
  refine K_iald _ i_X11_copy_41 rfl rfl (by omega) (by omega) ?_
  refine V_if_ge_t i_X11_copy_42 (by rw [hu]; exact nI_pos' (by omega)) ?_
  refine V_al i_X11_copy_51 rfl ?_
  refine V_il i_X11_copy_52 rfl ?_
  refine V_il i_X11_copy_53 rfl ?_
  refine V_il i_X11_copy_54 rfl ?_
  refine P_callV3v i_X11_copy_56 mi_X11_isSpan rfl ⟨_, _, rfl⟩ (by decide) (Nat.le_of_ble_eq_true rfl) (c_M_isSpan _ _ hr _ _) ?_
  refine V_if_eq_f i_X11_copy_59 (by rw [hs]; exact h1) ?_
  refine V_al i_X11_copy_62 rfl ?_
  refine V_il i_X11_copy_63 rfl ?_
  refine V_il i_X11_copy_64 rfl ?_
  refine V_il i_X11_copy_66 rfl ?_
  refine P_callV3v i_X11_copy_68 mi_X11_isSpan rfl ⟨_, _, rfl⟩ (by decide) (Nat.le_of_ble_eq_true rfl) (c_M_isSpan _ _ ht _ _) ?_
  refine V_if_ne_f i_X11_copy_71 (by rw [hu]; exact h0) ?_
  refine V_al i_X11_copy_74 rfl ?_
  refine V_c i_X11_copy_75 ?_
  refine P_callV1v i_X11_copy_76 mi_X11_found rfl ⟨_, _, rfl⟩ (by decide) (Nat.le_of_ble_eq_true rfl) (c_M_found I J (f := 2) (by decide)) ?_
  exact P_iret i_X11_copy_79 rfl ⟨rfl, I, J, FrM.rf, rfl, rfl⟩
set_option maxRecDepth 100000 in
set_option maxHeartbeats 4000000 in
theorem lp_M_cp1 (I : IntM) (J : LngM) {r t a b c : Nat} (hr : r < 6) (ht : t < 6) (ha : a + c ≤ 60) (hb : b + c ≤ 60) (hab : b ≤ a) (Q : Option Value → IntM → LngM → Prop) (hq : Q (some (.int 1)) (cpA I 149 (60 * r + a) (60 * t + b) c) J) : VP m_X11_copy 3 96 [(0, .ref 146), (1, .int (nI r)), (2, .int (nI a)), (3, .int (nI t)), (4, .int (nI b)), (5, .int (nI c)), (6, .int 1), (7, .int 0)] [] I J Q := by
  have key : ∀ i, i ≤ c → VP m_X11_copy 3 96 [(0, .ref 146), (1, .int (nI r)), (2, .int (nI a)), (3, .int (nI t)), (4, .int (nI b)), (5, .int (nI c)), (6, .int 1), (7, .int (nI i))] [] (cpA I 149 (60 * r + a) (60 * t + b) i) J Q := by
    refine down c ?_ (fun i hi ih => ?_)
    · refine V_il i_X11_copy_96 rfl ?_
      refine V_il i_X11_copy_98 rfl ?_
      refine V_ic_ge_t i_X11_copy_100 (Int32.le_refl _) ?_
      refine V_c i_X11_copy_157 ?_
      exact P_iret i_X11_copy_158 rfl hq
    · refine V_il i_X11_copy_96 rfl ?_
      refine V_il i_X11_copy_98 rfl ?_
      refine V_ic_ge_f i_X11_copy_100 (nI_ge hi (by omega)) ?_
      refine V_il i_X11_copy_103 rfl ?_
      refine V_if_eq_f i_X11_copy_105 (by decide) ?_
      refine V_il i_X11_copy_108 rfl ?_
      refine V_goto i_X11_copy_110 ?_
      refine V_is (L' := [(0, _), (1, _), (2, _), (3, _), (4, _), (5, _), (6, _), (7, _), (8, _)]) i_X11_copy_120 (by decide) ⟨rfl, rfl, rfl, rfl, rfl, rfl, rfl, rfl, rfl, trivial⟩ ?_
      refine V_al i_X11_copy_122 rfl ?_
      refine V_getR i_X11_copy_123 rfl rfl ?_
      refine V_c i_X11_copy_126 ?_
      refine V_il i_X11_copy_128 rfl ?_
      refine V_imul i_X11_copy_129 ?_
      refine V_il i_X11_copy_130 rfl ?_
      refine V_iadd i_X11_copy_132 ?_
      refine V_il i_X11_copy_133 rfl ?_
      refine V_iadd i_X11_copy_135 ?_
      refine V_al i_X11_copy_136 rfl ?_
      refine V_getR i_X11_copy_137 rfl rfl ?_
      refine V_c i_X11_copy_140 ?_
      refine V_il i_X11_copy_142 rfl ?_
      refine V_imul i_X11_copy_143 ?_
      refine V_il i_X11_copy_144 rfl ?_
      refine V_iadd i_X11_copy_145 ?_
      refine V_il i_X11_copy_146 rfl ?_
      refine V_iadd i_X11_copy_148 ?_
      refine K_iald (60 * r + a + i) i_X11_copy_149 rfl (by rw [show (60 : Int32) = nI 60 from rfl, nI_mul, nI_add, nI_add]) (by omega) (by omega) ?_
      refine K_iast (60 * t + b + i) i_X11_copy_150 rfl (by rw [show (60 : Int32) = nI 60 from rfl, nI_mul, nI_add, nI_add]) (by omega) (by omega) ?_
      refine V_iinc (L' := [(0, _), (1, _), (2, _), (3, _), (4, _), (5, _), (6, _), (7, _)]) (n' := 1) i_X11_copy_151 (by decide) rfl (by decide) ⟨rfl, rfl, rfl, rfl, rfl, rfl, rfl, rfl, trivial⟩ ?_
      refine V_goto i_X11_copy_154 ?_
      refine V_L (L' := [(0, _), (1, _), (2, _), (3, _), (4, _), (5, _), (6, _), (7, _)]) ⟨rfl, rfl, rfl, rfl, rfl, rfl, rfl, rfl, trivial⟩ ?_
      rw [show nI i + 1 = nI (i + 1) from nI_1 i, cpA_s (by omega)]
      exact ih
  have h0 := key 0 (Nat.zero_le _)
  rw [cpA_0] at h0
  exact h0
set_option maxRecDepth 100000 in
set_option maxHeartbeats 4000000 in
theorem lp_M_cp0 (I : IntM) (J : LngM) {r t a b c : Nat} (hr : r < 6) (ht : t < 6) (ha : a + c ≤ 60) (hb : b + c ≤ 60) (hab : a < b) (Q : Option Value → IntM → LngM → Prop) (hq : Q (some (.int 1)) (cpA I 149 (60 * r + a) (60 * t + b) c) J) : VP m_X11_copy 3 96 [(0, .ref 146), (1, .int (nI r)), (2, .int (nI a)), (3, .int (nI t)), (4, .int (nI b)), (5, .int (nI c)), (6, .int 0), (7, .int 0)] [] I J Q := by
  have key : ∀ i, i ≤ c → VP m_X11_copy 3 96 [(0, .ref 146), (1, .int (nI r)), (2, .int (nI a)), (3, .int (nI t)), (4, .int (nI b)), (5, .int (nI c)), (6, .int 0), (7, .int (nI i))] [] (cpZ I 149 (60 * r + a) (60 * t + b) c i) J Q := by
    refine down c ?_ (fun i hi ih => ?_)
    · refine V_il i_X11_copy_96 rfl ?_
      refine V_il i_X11_copy_98 rfl ?_
      refine V_ic_ge_t i_X11_copy_100 (Int32.le_refl _) ?_
      refine V_c i_X11_copy_157 ?_
      rw [cpZ_c]
      exact P_iret i_X11_copy_158 rfl hq
    · refine V_il i_X11_copy_96 rfl ?_
      refine V_il i_X11_copy_98 rfl ?_
      refine V_ic_ge_f i_X11_copy_100 (nI_ge hi (by omega)) ?_
      refine V_il i_X11_copy_103 rfl ?_
      refine V_if_eq_t i_X11_copy_105 rfl ?_
      refine V_il i_X11_copy_113 rfl ?_
      refine V_c i_X11_copy_115 ?_
      refine V_isub i_X11_copy_116 ?_
      refine V_il i_X11_copy_117 rfl ?_
      refine V_isub i_X11_copy_119 ?_
      rw [show (1 : Int32) = nI 1 from rfl, pk_sub (by omega), pk_sub (by omega)]
      refine V_is (L' := [(0, _), (1, _), (2, _), (3, _), (4, _), (5, _), (6, _), (7, _), (8, _)]) i_X11_copy_120 (by decide) ⟨rfl, rfl, rfl, rfl, rfl, rfl, rfl, rfl, rfl, trivial⟩ ?_
      refine V_al i_X11_copy_122 rfl ?_
      refine V_getR i_X11_copy_123 rfl rfl ?_
      refine V_c i_X11_copy_126 ?_
      refine V_il i_X11_copy_128 rfl ?_
      refine V_imul i_X11_copy_129 ?_
      refine V_il i_X11_copy_130 rfl ?_
      refine V_iadd i_X11_copy_132 ?_
      refine V_il i_X11_copy_133 rfl ?_
      refine V_iadd i_X11_copy_135 ?_
      refine V_al i_X11_copy_136 rfl ?_
      refine V_getR i_X11_copy_137 rfl rfl ?_
      refine V_c i_X11_copy_140 ?_
      refine V_il i_X11_copy_142 rfl ?_
      refine V_imul i_X11_copy_143 ?_
      refine V_il i_X11_copy_144 rfl ?_
      refine V_iadd i_X11_copy_145 ?_
      refine V_il i_X11_copy_146 rfl ?_
      refine V_iadd i_X11_copy_148 ?_
      refine K_iald (60 * r + a + (c - 1 - i)) i_X11_copy_149 rfl (by rw [show (60 : Int32) = nI 60 from rfl, nI_mul, nI_add, nI_add]) (by omega) (by omega) ?_
      refine K_iast (60 * t + b + (c - 1 - i)) i_X11_copy_150 rfl (by rw [show (60 : Int32) = nI 60 from rfl, nI_mul, nI_add, nI_add]) (by omega) (by omega) ?_
      refine V_iinc (L' := [(0, _), (1, _), (2, _), (3, _), (4, _), (5, _), (6, _), (7, _)]) (n' := 1) i_X11_copy_151 (by decide) rfl (by decide) ⟨rfl, rfl, rfl, rfl, rfl, rfl, rfl, rfl, trivial⟩ ?_
      refine V_goto i_X11_copy_154 ?_
      refine V_L (L' := [(0, _), (1, _), (2, _), (3, _), (4, _), (5, _), (6, _), (7, _)]) ⟨rfl, rfl, rfl, rfl, rfl, rfl, rfl, rfl, trivial⟩ ?_
      rw [show nI i + 1 = nI (i + 1) from nI_1 i, cpZ_s hi (by omega)]
      exact ih
  have h0 := key 0 (Nat.zero_le _)
  rw [cpZ_0] at h0
  exact h0
set_option maxRecDepth 100000 in
set_option maxHeartbeats 4000000 in
theorem m_copy4 (I : IntM) (J : LngM) {r t : Nat} (hr : r < 6) (ht : t < 6) {a b c : Nat} {s u : Nat} (hs6 : s ≤ 60) (hs : I 148 r = nI s) (hu6 : u ≤ 60) (hu : I 148 t = nI u) (hn : ¬ nI c < 0) (h1 : ¬ spV (nI s) (nI a) (nI c) = 0) (h2 : ¬ spV (nI u) (nI b) (nI c) = 0) (ha : a + c ≤ s) (hb : b + c ≤ u) : CtV 3 m_X11_copy [.ref 146, .int (nI r), .int (nI a), .int (nI t), .int (nI b), .int (nI c)] I J (.int 1) (cpA I 149 (60 * r + a) (60 * t + b) c) J := by
  refine CtV_of (by decide) rfl (Nat.le_of_ble_eq_true rfl) ?_
  refine V_il i_X11_copy_0 rfl ?_
  refine P_callS1v i_X11_copy_1 ms_X11_isRow (by decide) (Nat.le_of_ble_eq_true rfl) (c_M_isRow _ _ _) ?_
  refine V_if_eq_f i_X11_copy_4 (by rw [hasN_nI (by decide) hr]; decide) ?_
  refine V_il i_X11_copy_7 rfl ?_
  refine P_callS1v i_X11_copy_8 ms_X11_isRow (by decide) (Nat.le_of_ble_eq_true rfl) (c_M_isRow _ _ _) ?_
  refine V_if_ne_t i_X11_copy_11 (by rw [hasN_nI (by decide) ht]; decide) ?_
  refine V_il i_X11_copy_16 rfl ?_
  refine V_if_ge_t i_X11_copy_18 (Int32.not_lt.mp hn) ?_
  refine V_al i_X11_copy_27 rfl ?_
  refine V_getR i_X11_copy_28 rfl rfl ?_
  refine V_il i_X11_copy_31 rfl ?_
  refine K_iald _ i_X11_copy_32 rfl rfl (by omega) (by omega) ?_
  refine V_if_lt_f i_X11_copy_33 (by rw [hs]; exact nI_pos (by omega)) ?_
  refine V_al i_X11_copy_36 rfl ?_
  refine V_getR i_X11_copy_37 rfl rfl ?_
  refine V_il i_X11_copy_40 rfl ?_
  refine K_iald _ i_X11_copy_41 rfl rfl (by omega) (by omega) ?_
  refine V_if_ge_t i_X11_copy_42 (by rw [hu]; exact nI_pos' (by omega)) ?_
  refine V_al i_X11_copy_51 rfl ?_
  refine V_il i_X11_copy_52 rfl ?_
  refine V_il i_X11_copy_53 rfl ?_
  refine V_il i_X11_copy_54 rfl ?_
  refine P_callV3v i_X11_copy_56 mi_X11_isSpan rfl ⟨_, _, rfl⟩ (by decide) (Nat.le_of_ble_eq_true rfl) (c_M_isSpan _ _ hr _ _) ?_
  refine V_if_eq_f i_X11_copy_59 (by rw [hs]; exact h1) ?_
  refine V_al i_X11_copy_62 rfl ?_
  refine V_il i_X11_copy_63 rfl ?_
  refine V_il i_X11_copy_64 rfl ?_
  refine V_il i_X11_copy_66 rfl ?_
  refine P_callV3v i_X11_copy_68 mi_X11_isSpan rfl ⟨_, _, rfl⟩ (by decide) (Nat.le_of_ble_eq_true rfl) (c_M_isSpan _ _ ht _ _) ?_
  refine V_if_ne_t i_X11_copy_71 (by rw [hu]; exact h2) ?_
  refine V_il i_X11_copy_80 rfl ?_
  refine V_il i_X11_copy_81 rfl ?_
  refine V_ic_lt i_X11_copy_83 (fun c83 => ?_) (fun c83 => ?_)
  · rw [nI_ltI (by omega) (by omega)] at c83
    refine V_c i_X11_copy_90 ?_
    refine V_is (L' := [(0, _), (1, _), (2, _), (3, _), (4, _), (5, _), (6, _)]) i_X11_copy_91 (by decide) ⟨rfl, rfl, rfl, rfl, rfl, rfl, rfl, trivial⟩ ?_
    refine V_c i_X11_copy_93 ?_
    refine V_is (L' := [(0, _), (1, _), (2, _), (3, _), (4, _), (5, _), (6, _), (7, _)]) i_X11_copy_94 (by decide) ⟨rfl, rfl, rfl, rfl, rfl, rfl, rfl, rfl, trivial⟩ ?_
    refine V_L (L' := [(0, _), (1, _), (2, _), (3, _), (4, _), (5, _), (6, _), (7, _)]) ⟨rfl, rfl, rfl, rfl, rfl, rfl, rfl, rfl, trivial⟩ ?_
    exact lp_M_cp0 I J hr ht (by omega) (by omega) c83 _ ⟨rfl, rfl, rfl⟩
  · rw [nI_ltI (by omega) (by omega)] at c83
    refine V_c i_X11_copy_86 ?_
    refine V_goto i_X11_copy_87 ?_
    refine V_is (L' := [(0, _), (1, _), (2, _), (3, _), (4, _), (5, _), (6, _)]) i_X11_copy_91 (by decide) ⟨rfl, rfl, rfl, rfl, rfl, rfl, rfl, trivial⟩ ?_
    refine V_c i_X11_copy_93 ?_
    refine V_is (L' := [(0, _), (1, _), (2, _), (3, _), (4, _), (5, _), (6, _), (7, _)]) i_X11_copy_94 (by decide) ⟨rfl, rfl, rfl, rfl, rfl, rfl, rfl, rfl, trivial⟩ ?_
    refine V_L (L' := [(0, _), (1, _), (2, _), (3, _), (4, _), (5, _), (6, _), (7, _)]) ⟨rfl, rfl, rfl, rfl, rfl, rfl, rfl, rfl, trivial⟩ ?_
    exact lp_M_cp1 I J hr ht (by omega) (by omega) (by omega) _ ⟨rfl, rfl, rfl⟩

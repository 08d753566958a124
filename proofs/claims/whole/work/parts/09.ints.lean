
/-! ===== the JDK's own, Ints, Longs, Spoon ===== -/
def ushr (x : Int32) (k : Int32) : Int32 := (x.toUInt32 >>> (k.toUInt32 &&& Int32.toUInt32 31)).toInt32
def bc1 (x : Int32) : Int32 := x - (ushr x 1 &&& 1431655765)
def bc2 (x : Int32) : Int32 := (x &&& 858993459) + (ushr x 2 &&& 858993459)
def bc3 (x : Int32) : Int32 := (x + ushr x 4) &&& 252645135
def bc4 (x : Int32) : Int32 := x + ushr x 8
def bc5 (x : Int32) : Int32 := x + ushr x 16
def bcI (x : Int32) : Int32 := bc5 (bc4 (bc3 (bc2 (bc1 x)))) &&& 63
theorem lgc_gt {x y : Int64} : 0 < lg_cmp x y ↔ y < x := by
  unfold lg_cmp
  by_cases h : x > y
  · simp [h]
  · rw [if_neg h]
    by_cases h2 : x = y
    · subst h2
      simp
    · rw [if_neg h2]
      exact ⟨fun h3 => absurd h3 (by decide), fun h3 => absurd h3 h⟩
theorem lgc_ge {x y : Int64} : 0 ≤ lg_cmp x y ↔ y ≤ x := by
  unfold lg_cmp
  by_cases h : x > y
  · simp only [if_pos h]
    exact ⟨fun _ => Int64.le_of_lt h, fun _ => by decide⟩
  · rw [if_neg h]
    by_cases h2 : x = y
    · subst h2
      simp
    · rw [if_neg h2]
      exact ⟨fun h3 => absurd h3 (by decide), fun h3 => absurd (Int64.le_antisymm (Int64.not_lt.mp h) h3) h2⟩
theorem lgc_eq {x y : Int64} : lg_cmp x y = 0 ↔ x = y := by
  unfold lg_cmp
  by_cases h : x > y
  · simp only [if_pos h]
    exact ⟨fun h3 => absurd h3 (by decide), fun h3 => by subst h3; exact absurd h (Int64.lt_irrefl)⟩
  · rw [if_neg h]
    by_cases h2 : x = y
    · simp [h2]
    · simp [h2]
theorem lgc_lt {x y : Int64} : lg_cmp x y < 0 ↔ x < y := by
  rw [← Int32.not_le, lgc_ge, Int64.not_le]
theorem lgc_le {x y : Int64} : lg_cmp x y ≤ 0 ↔ x ≤ y := by
  rw [← Int32.not_lt, lgc_gt, Int64.not_lt]

set_option maxRecDepth 100000 in
set_option maxHeartbeats 4000000 in
theorem c_bitCount (I : IntM) (J : LngM) (x : Int32) : CtV 1 m_J6_bitCount_0f7a4 [.int x] I J (.int (bcI x)) I J := by
  refine CtV_of (by decide) rfl (Nat.le_of_ble_eq_true rfl) ?_
  refine V_il i_J6_bitCount_0f7a4_0 rfl ?_
  refine V_il i_J6_bitCount_0f7a4_1 rfl ?_
  refine V_c i_J6_bitCount_0f7a4_2 ?_
  refine V_iushr i_J6_bitCount_0f7a4_3 ?_
  refine V_c i_J6_bitCount_0f7a4_4 ?_
  refine V_iand i_J6_bitCount_0f7a4_7 ?_
  refine V_isub i_J6_bitCount_0f7a4_8 ?_
  refine V_is (L' := [(0, _)]) i_J6_bitCount_0f7a4_9 (by decide) ⟨rfl, trivial⟩ ?_
  refine V_il i_J6_bitCount_0f7a4_10 rfl ?_
  refine V_c i_J6_bitCount_0f7a4_11 ?_
  refine V_iand i_J6_bitCount_0f7a4_14 ?_
  refine V_il i_J6_bitCount_0f7a4_15 rfl ?_
  refine V_c i_J6_bitCount_0f7a4_16 ?_
  refine V_iushr i_J6_bitCount_0f7a4_17 ?_
  refine V_c i_J6_bitCount_0f7a4_18 ?_
  refine V_iand i_J6_bitCount_0f7a4_21 ?_
  refine V_iadd i_J6_bitCount_0f7a4_22 ?_
  refine V_is (L' := [(0, _)]) i_J6_bitCount_0f7a4_23 (by decide) ⟨rfl, trivial⟩ ?_
  refine V_il i_J6_bitCount_0f7a4_24 rfl ?_
  refine V_il i_J6_bitCount_0f7a4_25 rfl ?_
  refine V_c i_J6_bitCount_0f7a4_26 ?_
  refine V_iushr i_J6_bitCount_0f7a4_27 ?_
  refine V_iadd i_J6_bitCount_0f7a4_28 ?_
  refine V_c i_J6_bitCount_0f7a4_29 ?_
  refine V_iand i_J6_bitCount_0f7a4_32 ?_
  refine V_is (L' := [(0, _)]) i_J6_bitCount_0f7a4_33 (by decide) ⟨rfl, trivial⟩ ?_
  refine V_il i_J6_bitCount_0f7a4_34 rfl ?_
  refine V_il i_J6_bitCount_0f7a4_35 rfl ?_
  refine V_c i_J6_bitCount_0f7a4_36 ?_
  refine V_iushr i_J6_bitCount_0f7a4_38 ?_
  refine V_iadd i_J6_bitCount_0f7a4_39 ?_
  refine V_is (L' := [(0, _)]) i_J6_bitCount_0f7a4_40 (by decide) ⟨rfl, trivial⟩ ?_
  refine V_il i_J6_bitCount_0f7a4_41 rfl ?_
  refine V_il i_J6_bitCount_0f7a4_42 rfl ?_
  refine V_c i_J6_bitCount_0f7a4_43 ?_
  refine V_iushr i_J6_bitCount_0f7a4_45 ?_
  refine V_iadd i_J6_bitCount_0f7a4_46 ?_
  refine V_is (L' := [(0, _)]) i_J6_bitCount_0f7a4_47 (by decide) ⟨rfl, trivial⟩ ?_
  refine V_il i_J6_bitCount_0f7a4_48 rfl ?_
  refine V_c i_J6_bitCount_0f7a4_49 ?_
  refine V_iand i_J6_bitCount_0f7a4_51 ?_
  exact P_iret i_J6_bitCount_0f7a4_52 rfl ⟨rfl, rfl, rfl⟩

/-! Ints: an object at x, its row at x + 1, of n places -/
def LI (x n : Nat) : Prop := SH[x]? = some (0, 3) ∧ RF x 0 = some (x + 1) ∧ SH[x + 1]? = some (1, n) ∧ n ≤ 60
def LG (x n : Nat) : Prop := SH[x]? = some (0, 4) ∧ RF x 0 = some (x + 1) ∧ SH[x + 1]? = some (2, n) ∧ n ≤ 60
def hasv (I : IntM) (x n : Nat) (i : Int32) : Int32 := if i < 0 then 0 else if I x 1 ≤ i then 0 else if nI n ≤ i then 0 else 1
def holdsv (I : IntM) (x : Nat) (i n : Int32) : Int32 := if i < 0 then 0 else if n < 0 then 0 else if I x 1 < i then 0 else if I x 1 - i < n then 0 else 1
def gI (I : IntM) (x n : Nat) (i : Int32) : Int32 := if hasv I x n i = 0 then 0 else I (x + 1) i.toNatClampNeg
def sI (I : IntM) (x n : Nat) (i v : Int32) : IntM := if hasv I x n i = 0 then I else uI I (x + 1) i.toNatClampNeg v
/-- the first s places of cell a are v -/
def fillI (I : IntM) (a s : Nat) (v : Int32) : IntM := fun y k => if y = a ∧ k < s then v else I y k
/-- the first s places of cell a are f's -/
def putI (I : IntM) (a s : Nat) (f : Nat → Int32) : IntM := fun y k => if y = a ∧ k < s then f k else I y k
def putJ (J : LngM) (a s : Nat) (f : Nat → Int64) : LngM := fun y k => if y = a ∧ k < s then f k else J y k
def sumI (f : Nat → Int32) : Nat → Int64 := fun s => match s with
  | 0 => 0
  | s + 1 => sumI f s + (f s).toInt64
def fgr (f : Nat → Int32) : Nat → Nat := fun s => match s with
  | 0 => 0
  | s + 1 => if f (fgr f s) < f s then s else fgr f s
def digF (f : Nat → Int32) : Nat → Int64 → Int64 := fun s => match s with
  | 0 => fun h => h
  | s + 1 => fun h => 31 * digF f s h + (f s).toInt64
theorem putI_0 (I : IntM) (a : Nat) (f : Nat → Int32) : putI I a 0 f = I := by funext y k; simp [putI]
theorem putJ_0 (J : LngM) (a : Nat) (f : Nat → Int64) : putJ J a 0 f = J := by funext y k; simp [putJ]
theorem fillI_0 (I : IntM) (a : Nat) (v : Int32) : fillI I a 0 v = I := by funext y k; simp [fillI]
theorem putI_s (I : IntM) (a s : Nat) (f : Nat → Int32) : uI (putI I a s f) a s (f s) = putI I a (s + 1) f := by
  funext y k
  unfold uI putI
  by_cases h : y = a ∧ k = s
  · rw [if_pos h, if_pos ⟨h.1, by omega⟩, h.2]
  · rw [if_neg h]
    by_cases h2 : y = a ∧ k < s
    · rw [if_pos h2, if_pos ⟨h2.1, by omega⟩]
    · rw [if_neg h2, if_neg (fun h3 => h2 ⟨h3.1, by have := fun e => h ⟨h3.1, e⟩; omega⟩)]
theorem putJ_s (J : LngM) (a s : Nat) (f : Nat → Int64) : uJ (putJ J a s f) a s (f s) = putJ J a (s + 1) f := by
  funext y k
  unfold uJ putJ
  by_cases h : y = a ∧ k = s
  · rw [if_pos h, if_pos ⟨h.1, by omega⟩, h.2]
  · rw [if_neg h]
    by_cases h2 : y = a ∧ k < s
    · rw [if_pos h2, if_pos ⟨h2.1, by omega⟩]
    · rw [if_neg h2, if_neg (fun h3 => h2 ⟨h3.1, by have := fun e => h ⟨h3.1, e⟩; omega⟩)]
theorem fillI_s (I : IntM) (a s : Nat) (v : Int32) : uI (fillI I a s v) a s v = fillI I a (s + 1) v := putI_s I a s (fun _ => v)
theorem hasv_in {I : IntM} {x n : Nat} {i : Int32} (h : ¬ hasv I x n i = 0) (hn : n ≤ 60) : vp_in i n := by
  unfold hasv at h
  by_cases h1 : i < 0
  · simp [h1] at h
  · rw [if_neg h1] at h
    by_cases h2 : I x 1 ≤ i
    · simp [h2] at h
    · rw [if_neg h2] at h
      by_cases h3 : nI n ≤ i
      · simp [h3] at h
      · rw [vp_in_iff]
        rw [Int32.le_iff_toInt_le, nI_toInt (by omega)] at h3
        rw [Int32.lt_iff_toInt_lt] at h1
        have : (0 : Int32).toInt = 0 := rfl
        omega


theorem hasv_yes {I : IntM} {x n s k : Nat} (h : I x 1 = nI s) (hk : k < s) (hs : s ≤ n) (hn : n ≤ 1000) : hasv I x n (nI k) = 1 := by
  unfold hasv
  rw [if_neg (nI_pos (by omega)), h, if_neg (nI_ge hk (by omega)), if_neg (nI_ge (by omega) (by omega))]
theorem hasv_no {I : IntM} {x n s k : Nat} (h : I x 1 = nI s) (hk : s ≤ k) (hk2 : k ≤ 1000) : hasv I x n (nI k) = 0 := by
  unfold hasv
  rw [if_neg (nI_pos (by omega)), h, if_pos (nI_le hk (by omega))]
theorem gI_in {I : IntM} {x n s k : Nat} (h : I x 1 = nI s) (hk : k < s) (hs : s ≤ n) (hn : n ≤ 1000) : gI I x n (nI k) = I (x + 1) k := by
  unfold gI
  rw [hasv_yes h hk hs hn, if_neg (by decide), nI_clamp (by omega)]
theorem gI_out {I : IntM} {x n s k : Nat} (h : I x 1 = nI s) (hk : s ≤ k) (hk2 : k ≤ 1000) : gI I x n (nI k) = 0 := by
  unfold gI
  rw [hasv_no h hk hk2, if_pos rfl]
theorem sI_in {I : IntM} {x n s k : Nat} {v : Int32} (h : I x 1 = nI s) (hk : k < s) (hs : s ≤ n) (hn : n ≤ 1000) : sI I x n (nI k) v = uI I (x + 1) k v := by
  unfold sI
  rw [hasv_yes h hk hs hn, if_neg (by decide), nI_clamp (by omega)]

set_option maxRecDepth 100000 in
set_option maxHeartbeats 4000000 in
theorem c_I_size (I : IntM) (J : LngM) {x n : Nat} (hL : LI x n) : CtV 1 m_X3_size [.ref x] I J (.int (I x 1)) I J := by
  refine CtV_of (by decide) rfl (Nat.le_of_ble_eq_true rfl) ?_
  obtain ⟨l1, l2, l3, l4⟩ := hL
  refine V_al i_X3_size_0 rfl ?_
  refine V_getI i_X3_size_1 (by first | assumption | rfl) ?_
  exact P_iret i_X3_size_4 rfl ⟨rfl, rfl, rfl⟩
set_option maxRecDepth 100000 in
set_option maxHeartbeats 4000000 in
theorem c_I_vanish (I : IntM) (J : LngM) {x n : Nat} (hL : LI x n) : CtU 1 m_X3_vanish [.ref x] I J (uI I x 1 (-1)) J := by
  refine CtU_of (by decide) rfl (Nat.le_of_ble_eq_true rfl) ?_
  obtain ⟨l1, l2, l3, l4⟩ := hL
  refine V_al i_X3_vanish_0 rfl ?_
  refine V_c i_X3_vanish_1 ?_
  refine V_putI i_X3_vanish_2 (by first | assumption | rfl) ?_
  exact P_vret i_X3_vanish_5 rfl ⟨rfl, rfl, rfl⟩
set_option maxRecDepth 100000 in
set_option maxHeartbeats 4000000 in
theorem c_I_missing (I : IntM) (J : LngM) {x n : Nat} (hL : LI x n) : CtV 1 m_X3_missing [.ref x] I J (.int (if I x 1 < 0 then 1 else 0)) I J := by
  refine CtV_of (by decide) rfl (Nat.le_of_ble_eq_true rfl) ?_
  obtain ⟨l1, l2, l3, l4⟩ := hL
  refine V_al i_X3_missing_0 rfl ?_
  refine V_getI i_X3_missing_1 (by first | assumption | rfl) ?_
  refine V_if_ge i_X3_missing_4 (fun c4 => ?_) (fun c4 => ?_)
  · refine V_c i_X3_missing_11 ?_
    exact P_zret i_X3_missing_12 rfl (by decide) ⟨by simp [*], rfl, rfl⟩
  · refine V_c i_X3_missing_7 ?_
    refine V_goto i_X3_missing_8 ?_
    exact P_zret i_X3_missing_12 rfl (by decide) ⟨by simp [*], rfl, rfl⟩
set_option maxRecDepth 100000 in
set_option maxHeartbeats 4000000 in
theorem c_I_has (I : IntM) (J : LngM) {x n : Nat} (hL : LI x n) (i : Int32) : CtV 1 m_X3_has [.ref x, .int i] I J (.int (hasv I x n i)) I J := by
  refine CtV_of (by decide) rfl (Nat.le_of_ble_eq_true rfl) ?_
  obtain ⟨l1, l2, l3, l4⟩ := hL
  refine V_il i_X3_has_0 rfl ?_
  refine V_if_lt i_X3_has_1 (fun c1 => ?_) (fun c1 => ?_)
  · refine V_c i_X3_has_25 ?_
    exact P_zret i_X3_has_26 rfl (by decide) ⟨by simp [hasv, *], rfl, rfl⟩
  · refine V_il i_X3_has_4 rfl ?_
    refine V_al i_X3_has_5 rfl ?_
    refine V_getI i_X3_has_6 (by first | assumption | rfl) ?_
    refine V_ic_ge i_X3_has_9 (fun c9 => ?_) (fun c9 => ?_)
    · refine V_c i_X3_has_25 ?_
      exact P_zret i_X3_has_26 rfl (by decide) ⟨by simp [hasv, *], rfl, rfl⟩
    · refine V_il i_X3_has_12 rfl ?_
      refine V_al i_X3_has_13 rfl ?_
      refine V_getR i_X3_has_14 (by first | assumption | rfl) (by first | assumption | rfl) ?_
      refine V_alenI (v := nI _) i_X3_has_17 (by first | assumption | rfl) rfl ?_
      refine V_ic_ge i_X3_has_18 (fun c18 => ?_) (fun c18 => ?_)
      · refine V_c i_X3_has_25 ?_
        exact P_zret i_X3_has_26 rfl (by decide) ⟨by simp [hasv, *], rfl, rfl⟩
      · refine V_c i_X3_has_21 ?_
        refine V_goto i_X3_has_22 ?_
        exact P_zret i_X3_has_26 rfl (by decide) ⟨by simp [hasv, *], rfl, rfl⟩
set_option maxRecDepth 100000 in
set_option maxHeartbeats 4000000 in
theorem c_I_holds (I : IntM) (J : LngM) {x n : Nat} (hL : LI x n) (i c : Int32) : CtV 1 m_X3_holds [.ref x, .int i, .int c] I J (.int (holdsv I x i c)) I J := by
  refine CtV_of (by decide) rfl (Nat.le_of_ble_eq_true rfl) ?_
  obtain ⟨l1, l2, l3, l4⟩ := hL
  refine V_il i_X3_holds_0 rfl ?_
  refine V_if_lt i_X3_holds_1 (fun c1 => ?_) (fun c1 => ?_)
  · refine V_c i_X3_holds_30 ?_
    exact P_zret i_X3_holds_31 rfl (by decide) ⟨by simp [holdsv, *], rfl, rfl⟩
  · refine V_il i_X3_holds_4 rfl ?_
    refine V_if_lt i_X3_holds_5 (fun c5 => ?_) (fun c5 => ?_)
    · refine V_c i_X3_holds_30 ?_
      exact P_zret i_X3_holds_31 rfl (by decide) ⟨by simp [holdsv, *], rfl, rfl⟩
    · refine V_il i_X3_holds_8 rfl ?_
      refine V_al i_X3_holds_9 rfl ?_
      refine V_getI i_X3_holds_10 (by first | assumption | rfl) ?_
      refine V_ic_gt i_X3_holds_13 (fun c13 => ?_) (fun c13 => ?_)
      · refine V_c i_X3_holds_30 ?_
        exact P_zret i_X3_holds_31 rfl (by decide) ⟨by simp [holdsv, *], rfl, rfl⟩
      · refine V_il i_X3_holds_16 rfl ?_
        refine V_al i_X3_holds_17 rfl ?_
        refine V_getI i_X3_holds_18 (by first | assumption | rfl) ?_
        refine V_il i_X3_holds_21 rfl ?_
        refine V_isub i_X3_holds_22 ?_
        refine V_ic_gt i_X3_holds_23 (fun c23 => ?_) (fun c23 => ?_)
        · refine V_c i_X3_holds_30 ?_
          exact P_zret i_X3_holds_31 rfl (by decide) ⟨by simp [holdsv, *], rfl, rfl⟩
        · refine V_c i_X3_holds_26 ?_
          refine V_goto i_X3_holds_27 ?_
          exact P_zret i_X3_holds_31 rfl (by decide) ⟨by simp [holdsv, *], rfl, rfl⟩
set_option maxRecDepth 100000 in
set_option maxHeartbeats 4000000 in
theorem c_I_get (I : IntM) (J : LngM) {x n : Nat} (hL : LI x n) (i : Int32) : CtV 2 m_X3_get [.ref x, .int i] I J (.int (gI I x n i)) I J := by
  refine CtV_of (by decide) rfl (Nat.le_of_ble_eq_true rfl) ?_
  obtain ⟨l1, l2, l3, l4⟩ := id hL
  refine V_al i_X3_get_0 rfl ?_
  refine V_il i_X3_get_1 rfl ?_
  refine P_callV1v i_X3_get_2 mi_X3_has (by first | assumption | rfl) ⟨_, _, rfl⟩ (by decide) (Nat.le_of_ble_eq_true rfl) (c_I_has _ _ hL _) ?_
  refine V_if_eq i_X3_get_5 (fun c5 => ?_) (fun c5 => ?_)
  · refine V_c i_X3_get_17 ?_
    exact P_iret i_X3_get_18 rfl ⟨by simp [gI, *], rfl, rfl⟩
  · refine V_al i_X3_get_8 rfl ?_
    refine V_getR i_X3_get_9 (by first | assumption | rfl) (by first | assumption | rfl) ?_
    refine V_il i_X3_get_12 rfl ?_
    refine V_iald i_X3_get_13 (by assumption) (hasv_in c5 l4) ?_
    refine V_goto i_X3_get_14 ?_
    exact P_iret i_X3_get_18 rfl ⟨by simp [gI, *], rfl, rfl⟩
set_option maxRecDepth 100000 in
set_option maxHeartbeats 4000000 in
theorem c_I_set (I : IntM) (J : LngM) {x n : Nat} (hL : LI x n) (i v : Int32) : CtU 2 m_X3_set [.ref x, .int i, .int v] I J (sI I x n i v) J := by
  refine CtU_of (by decide) rfl (Nat.le_of_ble_eq_true rfl) ?_
  obtain ⟨l1, l2, l3, l4⟩ := id hL
  refine V_al i_X3_set_0 rfl ?_
  refine V_il i_X3_set_1 rfl ?_
  refine P_callV1v i_X3_set_2 mi_X3_has (by first | assumption | rfl) ⟨_, _, rfl⟩ (by decide) (Nat.le_of_ble_eq_true rfl) (c_I_has _ _ hL _) ?_
  refine V_if_eq i_X3_set_5 (fun c5 => ?_) (fun c5 => ?_)
  · exact P_vret i_X3_set_15 rfl ⟨rfl, by simp [sI, *], rfl⟩
  · refine V_al i_X3_set_8 rfl ?_
    refine V_getR i_X3_set_9 (by first | assumption | rfl) (by first | assumption | rfl) ?_
    refine V_il i_X3_set_12 rfl ?_
    refine V_il i_X3_set_13 rfl ?_
    refine V_iast i_X3_set_14 (by assumption) (hasv_in c5 l4) ?_
    exact P_vret i_X3_set_15 rfl ⟨rfl, by simp [sI, *], rfl⟩
theorem c_I_getN (I : IntM) (J : LngM) {x n s k : Nat} {i : Int32} (hL : LI x n) (h : I x 1 = nI s) (hi : i = nI k) (hk : k < s) (hs : s ≤ n) : CtV 2 m_X3_get [.ref x, .int i] I J (.int (I (x + 1) k)) I J := by
  subst hi
  have := c_I_get I J hL (nI k)
  rw [gI_in h hk hs (by have := hL.2.2.2; omega)] at this
  exact this
theorem c_I_setN (I : IntM) (J : LngM) {x n s k : Nat} {i : Int32} (v : Int32) (hL : LI x n) (h : I x 1 = nI s) (hi : i = nI k) (hk : k < s) (hs : s ≤ n) : CtU 2 m_X3_set [.ref x, .int i, .int v] I J (uI I (x + 1) k v) J := by
  subst hi
  have := c_I_set I J hL (nI k) v
  rw [sI_in h hk hs (by have := hL.2.2.2; omega)] at this
  exact this
set_option maxRecDepth 100000 in
set_option maxHeartbeats 4000000 in
theorem c_I_swap (I : IntM) (J : LngM) {x n : Nat} (hL : LI x n) {s i j : Nat} (h : I x 1 = nI s) (hs : s ≤ n) (hi : i < s) (hj : j < s) : CtU 3 m_X3_swap [.ref x, .int (nI i), .int (nI j)] I J (uI (uI I (x + 1) i (I (x + 1) j)) (x + 1) j (I (x + 1) i)) J := by
  refine CtU_of (by decide) rfl (Nat.le_of_ble_eq_true rfl) ?_
  obtain ⟨l1, l2, l3, l4⟩ := id hL
  refine V_al i_X3_swap_0 rfl ?_
  refine V_il i_X3_swap_1 rfl ?_
  refine P_callV1v i_X3_swap_2 mi_X3_get (by first | assumption | rfl) ⟨_, _, rfl⟩ (by decide) (Nat.le_of_ble_eq_true rfl) (c_I_getN _ _ hL h rfl hi (by omega)) ?_
  refine V_is (L' := [(0, _), (1, _), (2, _), (3, _)]) i_X3_swap_5 (by decide) ⟨rfl, rfl, rfl, rfl, trivial⟩ ?_
  refine V_al i_X3_swap_6 rfl ?_
  refine V_il i_X3_swap_7 rfl ?_
  refine V_al i_X3_swap_8 rfl ?_
  refine V_il i_X3_swap_9 rfl ?_
  refine P_callV1v i_X3_swap_10 mi_X3_get (by first | assumption | rfl) ⟨_, _, rfl⟩ (by decide) (Nat.le_of_ble_eq_true rfl) (c_I_getN _ _ hL h rfl hj (by omega)) ?_
  refine P_callV2u i_X3_swap_13 mi_X3_set (by first | assumption | rfl) ⟨_, _, rfl⟩ (by decide) (Nat.le_of_ble_eq_true rfl) (c_I_setN _ _ _ hL h rfl hi (by omega)) ?_
  refine V_al i_X3_swap_16 rfl ?_
  refine V_il i_X3_swap_17 rfl ?_
  refine V_il i_X3_swap_18 rfl ?_
  refine P_callV2u i_X3_swap_19 mi_X3_set (by first | assumption | rfl) ⟨_, _, rfl⟩ (by decide) (Nat.le_of_ble_eq_true rfl) (c_I_setN _ _ _ hL (by rw [uI_ne _ _ (by simp)]; exact h) rfl hj (by omega)) ?_
  exact P_vret i_X3_swap_22 rfl ⟨rfl, rfl, rfl⟩
theorem minI_le {a b : Nat} (h : a ≤ b) (hb : b ≤ 1000) : minI (nI a) (nI b) = nI a := by
  unfold minI
  rw [if_neg (nI_nlt h (by omega))]
set_option maxRecDepth 100000 in
set_option maxHeartbeats 4000000 in
theorem lp_I_reset (I : IntM) (J : LngM) {x n : Nat} (hL : LI x n) {s : Nat} (hs : s ≤ n) (hsz : I x 1 = nI s) (v : Int32) (Q : Option Value → IntM → LngM → Prop) (hq : Q none (fillI I (x + 1) s v) J) : VP m_X3_reset 2 15 [(0, .ref x), (2, .int v), (3, .int 0)] [] I J Q := by
  obtain ⟨l1, l2, l3, l4⟩ := id hL
  have key : ∀ i, i ≤ s → VP m_X3_reset 2 15 [(0, .ref x), (2, .int v), (3, .int (nI i))] [] (fillI I (x + 1) i v) J Q := by
    have hz : ∀ i, fillI I (x + 1) i v x 1 = nI s := fun i => by unfold fillI; rw [if_neg (by omega)]; exact hsz
    refine down s ?_ (fun i hi ih => ?_)
    · refine V_il i_X3_reset_15 rfl ?_
      refine V_al i_X3_reset_16 rfl ?_
      refine V_getI i_X3_reset_17 l1 ?_
      refine V_ic_ge_t i_X3_reset_20 (by rw [hz]; exact Int32.le_refl _) ?_
      exact P_vret i_X3_reset_45 rfl hq
    · have hsz := hz i
      refine V_il i_X3_reset_15 rfl ?_
      refine V_al i_X3_reset_16 rfl ?_
      refine V_getI i_X3_reset_17 (by first | assumption | rfl) ?_
      refine V_ic_ge_f i_X3_reset_20 (by rw [hsz]; exact nI_ge hi (by omega)) ?_
      refine V_il i_X3_reset_23 rfl ?_
      refine V_al i_X3_reset_24 rfl ?_
      refine V_getR i_X3_reset_25 (by first | assumption | rfl) (by first | assumption | rfl) ?_
      refine V_alenI (v := nI _) i_X3_reset_28 (by first | assumption | rfl) rfl ?_
      refine V_ic_ge_f i_X3_reset_29 (nI_ge (by omega) (by omega)) ?_
      refine V_al i_X3_reset_32 rfl ?_
      refine V_getR i_X3_reset_33 (by first | assumption | rfl) (by first | assumption | rfl) ?_
      refine V_il i_X3_reset_36 rfl ?_
      refine V_il i_X3_reset_37 rfl ?_
      refine K_iast i i_X3_reset_38 (by first | assumption | rfl) rfl (by omega) (by omega) ?_
      refine V_iinc (L' := [(0, _), (2, _), (3, _)]) (n' := 1) i_X3_reset_39 (by decide) rfl (by decide) ⟨rfl, rfl, rfl, trivial⟩ ?_
      refine V_goto i_X3_reset_42 ?_
      refine V_L (L' := [(0, _), (2, _), (3, _)]) ⟨rfl, rfl, rfl, trivial⟩ ?_
      rw [show nI i + 1 = nI (i + 1) from nI_1 i, fillI_s]
      exact ih
  have h0 := key 0 (Nat.zero_le _)
  rw [fillI_0] at h0
  exact h0
set_option maxRecDepth 100000 in
set_option maxHeartbeats 4000000 in
theorem c_I_reset (I : IntM) (J : LngM) {x n : Nat} (hL : LI x n) {s : Nat} (hs : s ≤ n) (v : Int32) : CtU 2 m_X3_reset [.ref x, .int (nI s), .int v] I J (fillI (uI I x 1 (nI s)) (x + 1) s v) J := by
  refine CtU_of (by decide) rfl (Nat.le_of_ble_eq_true rfl) ?_
  obtain ⟨l1, l2, l3, l4⟩ := id hL
  refine V_al i_X3_reset_0 rfl ?_
  refine V_il i_X3_reset_1 rfl ?_
  refine V_al i_X3_reset_2 rfl ?_
  refine V_getR i_X3_reset_3 (by first | assumption | rfl) (by first | assumption | rfl) ?_
  refine V_alenI (v := nI _) i_X3_reset_6 (by first | assumption | rfl) rfl ?_
  refine V_min i_X3_reset_7 (by decide) (Nat.le_refl 0) (Nat.le_refl 0) (Nat.le_of_ble_eq_true rfl) ?_
  refine V_putI i_X3_reset_10 (by first | assumption | rfl) ?_
  refine V_c i_X3_reset_13 ?_
  refine V_is (L' := [(0, _), (2, _), (3, _)]) i_X3_reset_14 (by decide) ⟨rfl, rfl, rfl, trivial⟩ ?_
  refine V_L (L' := [(0, _), (2, _), (3, _)]) ⟨rfl, rfl, rfl, trivial⟩ ?_
  exact lp_I_reset _ _ hL hs (by unfold uI; rw [if_pos ⟨rfl, rfl⟩, minI_le hs (by omega)]) v _ (by rw [minI_le hs (by omega)]; exact ⟨rfl, rfl, rfl⟩)
set_option maxRecDepth 100000 in
set_option maxHeartbeats 4000000 in
theorem lp_I_sum (I : IntM) (J : LngM) {x n : Nat} (hL : LI x n) {s : Nat} (hs : s ≤ n) (hsz : I x 1 = nI s) (Q : Option Value → IntM → LngM → Prop) (hq : Q (some (.long (sumI (I (x + 1)) s))) I J) : VP m_X3_sum 3 4 [(0, .ref x), (1, .long 0), (3, .int 0)] [] I J Q := by
  obtain ⟨l1, l2, l3, l4⟩ := id hL
  have key : ∀ i, i ≤ s → VP m_X3_sum 3 4 [(0, .ref x), (1, .long (sumI (I (x + 1)) i)), (3, .int (nI i))] [] I J Q := by
    refine down s ?_ (fun i hi ih => ?_)
    · refine V_il i_X3_sum_4 rfl ?_
      refine V_al i_X3_sum_5 rfl ?_
      refine V_getI i_X3_sum_6 l1 ?_
      refine V_ic_ge_t i_X3_sum_9 (by rw [hsz]; exact Int32.le_refl _) ?_
      refine V_ll i_X3_sum_27 rfl ?_
      exact P_lret i_X3_sum_28 rfl hq
    · refine V_il i_X3_sum_4 rfl ?_
      refine V_al i_X3_sum_5 rfl ?_
      refine V_getI i_X3_sum_6 (by first | assumption | rfl) ?_
      refine V_ic_ge_f i_X3_sum_9 (by rw [hsz]; exact nI_ge hi (by omega)) ?_
      refine V_ll i_X3_sum_12 rfl ?_
      refine V_al i_X3_sum_13 rfl ?_
      refine V_il i_X3_sum_14 rfl ?_
      refine P_callV1v i_X3_sum_15 mi_X3_get (by first | assumption | rfl) ⟨_, _, rfl⟩ (by decide) (Nat.le_of_ble_eq_true rfl) (c_I_getN _ _ hL hsz rfl hi hs) ?_
      refine V_i2l i_X3_sum_18 ?_
      refine V_ladd i_X3_sum_19 ?_
      refine V_ls (L' := [(0, _), (1, _), (3, _)]) i_X3_sum_20 (by decide) ⟨rfl, rfl, rfl, trivial⟩ ?_
      refine V_iinc (L' := [(0, _), (1, _), (3, _)]) (n' := 1) i_X3_sum_21 (by decide) rfl (by decide) ⟨rfl, rfl, rfl, trivial⟩ ?_
      refine V_goto i_X3_sum_24 ?_
      refine V_L (L' := [(0, _), (1, _), (3, _)]) ⟨rfl, rfl, rfl, trivial⟩ ?_
      rw [show nI i + 1 = nI (i + 1) from nI_1 i]
      exact ih
  exact key 0 (Nat.zero_le _)
set_option maxRecDepth 100000 in
set_option maxHeartbeats 4000000 in
theorem c_I_sum (I : IntM) (J : LngM) {x n : Nat} (hL : LI x n) {s : Nat} (hs : s ≤ n) (hsz : I x 1 = nI s) : CtV 3 m_X3_sum [.ref x] I J (.long (sumI (I (x + 1)) s)) I J := by
  refine CtV_of (by decide) rfl (Nat.le_of_ble_eq_true rfl) ?_
  obtain ⟨l1, l2, l3, l4⟩ := id hL
  refine V_cl i_X3_sum_0 ?_
  refine V_ls (L' := [(0, _), (1, _)]) i_X3_sum_1 (by decide) ⟨rfl, rfl, trivial⟩ ?_
  refine V_c i_X3_sum_2 ?_
  refine V_is (L' := [(0, _), (1, _), (3, _)]) i_X3_sum_3 (by decide) ⟨rfl, rfl, rfl, trivial⟩ ?_
  refine V_L (L' := [(0, _), (1, _), (3, _)]) ⟨rfl, rfl, rfl, trivial⟩ ?_
  exact lp_I_sum I J hL hs hsz _ ⟨rfl, rfl, rfl⟩
set_option maxRecDepth 100000 in
set_option maxHeartbeats 4000000 in
theorem lp_I_dig (I : IntM) (J : LngM) {x n : Nat} (hL : LI x n) {s : Nat} (hs : s ≤ n) (hsz : I x 1 = nI s) (h : Int64) (Q : Option Value → IntM → LngM → Prop) (hq : Q (some (.long (digF (I (x + 1)) s h))) I J) : VP m_X3_digestInto 3 15 [(0, .ref x), (3, .long h), (5, .int 0)] [] I J Q := by
  obtain ⟨l1, l2, l3, l4⟩ := id hL
  have key : ∀ i, i ≤ s → VP m_X3_digestInto 3 15 [(0, .ref x), (3, .long (digF (I (x + 1)) i h)), (5, .int (nI i))] [] I J Q := by
    refine down s ?_ (fun i hi ih => ?_)
    · refine V_il i_X3_digestInto_15 rfl ?_
      refine V_al i_X3_digestInto_17 rfl ?_
      refine V_getI i_X3_digestInto_18 l1 ?_
      refine V_ic_ge_t i_X3_digestInto_21 (by rw [hsz]; exact Int32.le_refl _) ?_
      refine V_ll i_X3_digestInto_44 rfl ?_
      exact P_lret i_X3_digestInto_45 rfl hq
    · refine V_il i_X3_digestInto_15 rfl ?_
      refine V_al i_X3_digestInto_17 rfl ?_
      refine V_getI i_X3_digestInto_18 (by first | assumption | rfl) ?_
      refine V_ic_ge_f i_X3_digestInto_21 (by rw [hsz]; exact nI_ge hi (by omega)) ?_
      refine V_cl i_X3_digestInto_24 ?_
      refine V_ll i_X3_digestInto_27 rfl ?_
      refine V_lmul i_X3_digestInto_28 ?_
      refine V_al i_X3_digestInto_29 rfl ?_
      refine V_il i_X3_digestInto_30 rfl ?_
      refine P_callV1v i_X3_digestInto_32 mi_X3_get (by first | assumption | rfl) ⟨_, _, rfl⟩ (by decide) (Nat.le_of_ble_eq_true rfl) (c_I_getN _ _ hL hsz rfl hi hs) ?_
      refine V_i2l i_X3_digestInto_35 ?_
      refine V_ladd i_X3_digestInto_36 ?_
      refine V_ls (L' := [(0, _), (3, _), (5, _)]) i_X3_digestInto_37 (by decide) ⟨rfl, rfl, rfl, trivial⟩ ?_
      refine V_iinc (L' := [(0, _), (3, _), (5, _)]) (n' := 1) i_X3_digestInto_38 (by decide) rfl (by decide) ⟨rfl, rfl, rfl, trivial⟩ ?_
      refine V_goto i_X3_digestInto_41 ?_
      refine V_L (L' := [(0, _), (3, _), (5, _)]) ⟨rfl, rfl, rfl, trivial⟩ ?_
      rw [show nI i + 1 = nI (i + 1) from nI_1 i]
      exact ih
  exact key 0 (Nat.zero_le _)
set_option maxRecDepth 100000 in
set_option maxHeartbeats 4000000 in
theorem c_I_dig (I : IntM) (J : LngM) {x n : Nat} (hL : LI x n) {s : Nat} (hs : s ≤ n) (hsz : I x 1 = nI s) (h : Int64) : CtV 3 m_X3_digestInto [.ref x, .long h] I J (.long (digF (I (x + 1)) s (31 * h + (I x 1).toInt64))) I J := by
  refine CtV_of (by decide) rfl (Nat.le_of_ble_eq_true rfl) ?_
  obtain ⟨l1, l2, l3, l4⟩ := id hL
  refine V_cl i_X3_digestInto_0 ?_
  refine V_ll i_X3_digestInto_3 rfl ?_
  refine V_lmul i_X3_digestInto_4 ?_
  refine V_al i_X3_digestInto_5 rfl ?_
  refine V_getI i_X3_digestInto_6 (by first | assumption | rfl) ?_
  refine V_i2l i_X3_digestInto_9 ?_
  refine V_ladd i_X3_digestInto_10 ?_
  refine V_ls (L' := [(0, _), (3, _)]) i_X3_digestInto_11 (by decide) ⟨rfl, rfl, trivial⟩ ?_
  refine V_c i_X3_digestInto_12 ?_
  refine V_is (L' := [(0, _), (3, _), (5, _)]) i_X3_digestInto_13 (by decide) ⟨rfl, rfl, rfl, trivial⟩ ?_
  refine V_L (L' := [(0, _), (3, _), (5, _)]) ⟨rfl, rfl, rfl, trivial⟩ ?_
  exact lp_I_dig I J hL hs hsz _ _ ⟨rfl, rfl, rfl⟩
set_option maxRecDepth 100000 in
set_option maxHeartbeats 4000000 in
theorem c_I_dig0 (I : IntM) (J : LngM) {x n : Nat} (hL : LI x n) (hsz : I x 1 = -1) (h : Int64) : CtV 3 m_X3_digestInto [.ref x, .long h] I J (.long (31 * h + (-1 : Int32).toInt64)) I J := by
  refine CtV_of (by decide) rfl (Nat.le_of_ble_eq_true rfl) ?_
  obtain ⟨l1, l2, l3, l4⟩ := id hL
  refine V_cl i_X3_digestInto_0 ?_
  refine V_ll i_X3_digestInto_3 rfl ?_
  refine V_lmul i_X3_digestInto_4 ?_
  refine V_al i_X3_digestInto_5 rfl ?_
  refine V_getI i_X3_digestInto_6 (by first | assumption | rfl) ?_
  refine V_i2l i_X3_digestInto_9 ?_
  refine V_ladd i_X3_digestInto_10 ?_
  refine V_ls (L' := [(0, _), (3, _)]) i_X3_digestInto_11 (by decide) ⟨rfl, rfl, trivial⟩ ?_
  refine V_c i_X3_digestInto_12 ?_
  refine V_is (L' := [(0, _), (3, _), (5, _)]) i_X3_digestInto_13 (by decide) ⟨rfl, rfl, rfl, trivial⟩ ?_
  refine V_il i_X3_digestInto_15 rfl ?_
  refine V_al i_X3_digestInto_17 rfl ?_
  refine V_getI i_X3_digestInto_18 (by first | assumption | rfl) ?_
  refine V_ic_ge_t i_X3_digestInto_21 (by rw [hsz]; decide) ?_
  refine V_ll i_X3_digestInto_44 rfl ?_
  exact P_lret i_X3_digestInto_45 rfl ⟨by rw [hsz], rfl, rfl⟩
theorem fgr_le (f : Nat → Int32) : ∀ s, fgr f (s + 1) ≤ s
  | 0 => by unfold fgr; split <;> simp [fgr]
  | s + 1 => by
    unfold fgr
    have := fgr_le f s
    split
    · exact Nat.le_refl _
    · omega
set_option maxRecDepth 100000 in
set_option maxHeartbeats 4000000 in
theorem lp_I_fg (I : IntM) (J : LngM) {x n : Nat} (hL : LI x n) {s : Nat} (hs : s + 1 ≤ n) (hsz : I x 1 = nI (s + 1)) (Q : Option Value → IntM → LngM → Prop) (hq : Q (some (.int (nI (fgr (I (x + 1)) (s + 1))))) I J) : VP m_X3_firstGreatest 3 4 [(0, .ref x), (1, .int 0), (2, .int 1)] [] I J Q := by
  obtain ⟨l1, l2, l3, l4⟩ := id hL
  have key : ∀ i, i ≤ s → VP m_X3_firstGreatest 3 4 [(0, .ref x), (1, .int (nI (fgr (I (x + 1)) (i + 1)))), (2, .int (nI (i + 1)))] [] I J Q := by
    refine down s ?_ (fun i hi ih => ?_)
    · refine V_il i_X3_firstGreatest_4 rfl ?_
      refine V_al i_X3_firstGreatest_5 rfl ?_
      refine V_getI i_X3_firstGreatest_6 l1 ?_
      refine V_ic_ge_t i_X3_firstGreatest_9 (by rw [hsz]; exact Int32.le_refl _) ?_
      refine V_il i_X3_firstGreatest_33 rfl ?_
      exact P_iret i_X3_firstGreatest_34 rfl hq
    · have hi : i + 1 < s + 1 := by omega
      refine V_il i_X3_firstGreatest_4 rfl ?_
      refine V_al i_X3_firstGreatest_5 rfl ?_
      refine V_getI i_X3_firstGreatest_6 (by first | assumption | rfl) ?_
      refine V_ic_ge_f i_X3_firstGreatest_9 (by rw [hsz]; exact nI_ge hi (by omega)) ?_
      refine V_al i_X3_firstGreatest_12 rfl ?_
      refine V_il i_X3_firstGreatest_13 rfl ?_
      refine P_callV1v i_X3_firstGreatest_14 mi_X3_get (by first | assumption | rfl) ⟨_, _, rfl⟩ (by decide) (Nat.le_of_ble_eq_true rfl) (c_I_getN _ _ hL hsz rfl hi hs) ?_
      refine V_al i_X3_firstGreatest_17 rfl ?_
      refine V_il i_X3_firstGreatest_18 rfl ?_
      refine P_callV1v i_X3_firstGreatest_19 mi_X3_get (by first | assumption | rfl) ⟨_, _, rfl⟩ (by decide) (Nat.le_of_ble_eq_true rfl) (c_I_getN _ _ hL hsz rfl (by have := fgr_le (I (x + 1)) i; omega) hs) ?_
      refine V_ic_le i_X3_firstGreatest_22 (fun c22 => ?_) (fun c22 => ?_)
      · have ih := ih
        rw [show fgr (I (x + 1)) (i + 1 + 1) = fgr (I (x + 1)) (i + 1) from if_neg (Int32.not_lt.mpr c22)] at ih
        refine V_iinc (L' := [(0, _), (1, _), (2, _)]) (n' := 1) i_X3_firstGreatest_27 (by decide) rfl (by decide) ⟨rfl, rfl, rfl, trivial⟩ ?_
        refine V_goto i_X3_firstGreatest_30 ?_
        refine V_L (L' := [(0, _), (1, _), (2, _)]) ⟨rfl, rfl, rfl, trivial⟩ ?_
        rw [show nI (i + 1) + 1 = nI (i + 1 + 1) from nI_1 _]
        exact ih
      · have ih := ih
        rw [show fgr (I (x + 1)) (i + 1 + 1) = i + 1 from if_pos (Int32.not_le.mp c22)] at ih
        refine V_il i_X3_firstGreatest_25 rfl ?_
        refine V_is (L' := [(0, _), (1, _), (2, _)]) i_X3_firstGreatest_26 (by decide) ⟨rfl, rfl, rfl, trivial⟩ ?_
        refine V_iinc (L' := [(0, _), (1, _), (2, _)]) (n' := 1) i_X3_firstGreatest_27 (by decide) rfl (by decide) ⟨rfl, rfl, rfl, trivial⟩ ?_
        refine V_goto i_X3_firstGreatest_30 ?_
        refine V_L (L' := [(0, _), (1, _), (2, _)]) ⟨rfl, rfl, rfl, trivial⟩ ?_
        rw [show nI (i + 1) + 1 = nI (i + 1 + 1) from nI_1 _]
        exact ih
  have h0 := key 0 (Nat.zero_le _)
  rw [show fgr (I (x + 1)) (0 + 1) = 0 from if_neg Int32.lt_irrefl] at h0
  exact h0
set_option maxRecDepth 100000 in
set_option maxHeartbeats 4000000 in
theorem c_I_fg (I : IntM) (J : LngM) {x n : Nat} (hL : LI x n) {s : Nat} (hs : s + 1 ≤ n) (hsz : I x 1 = nI (s + 1)) : CtV 3 m_X3_firstGreatest [.ref x] I J (.int (nI (fgr (I (x + 1)) (s + 1)))) I J := by
  refine CtV_of (by decide) rfl (Nat.le_of_ble_eq_true rfl) ?_
  obtain ⟨l1, l2, l3, l4⟩ := id hL
  refine V_c i_X3_firstGreatest_0 ?_
  refine V_is (L' := [(0, _), (1, _)]) i_X3_firstGreatest_1 (by decide) ⟨rfl, rfl, trivial⟩ ?_
  refine V_c i_X3_firstGreatest_2 ?_
  refine V_is (L' := [(0, _), (1, _), (2, _)]) i_X3_firstGreatest_3 (by decide) ⟨rfl, rfl, rfl, trivial⟩ ?_
  refine V_L (L' := [(0, _), (1, _), (2, _)]) ⟨rfl, rfl, rfl, trivial⟩ ?_
  exact lp_I_fg I J hL hs hsz _ ⟨rfl, rfl, rfl⟩
theorem holdsv_yes {I : IntM} {x a c s : Nat} (h : I x 1 = nI s) (hc : a + c ≤ s) (hs : s ≤ 1000) : holdsv I x (nI a) (nI c) = 1 := by
  unfold holdsv
  rw [if_neg (nI_pos (by omega)), if_neg (nI_pos (by omega)), h, if_neg (nI_nlt (by omega) (by omega)), pk_sub (by omega), if_neg (nI_nlt (by omega) (by omega))]
set_option maxRecDepth 100000 in
set_option maxHeartbeats 4000000 in
theorem c_I_moveTo (I : IntM) (J : LngM) {x n y n2 : Nat} (hL : LI x n) (hL2 : LI y n2) {s t a b c : Nat} (h : I x 1 = nI s) (h2 : I y 1 = nI t) (hs : s ≤ n) (ht : t ≤ n2) (ha : a + c ≤ s) (hb : b + c ≤ t) : CtU 2 m_X3_moveTo [.ref x, .ref y, .int (nI a), .int (nI b), .int (nI c)] I J (cpI I (x + 1) a (y + 1) b c) J := by
  refine CtU_of (by decide) rfl (Nat.le_of_ble_eq_true rfl) ?_
  obtain ⟨l1, l2, l3, l4⟩ := id hL
  obtain ⟨r1, r2, r3, r4⟩ := id hL2
  refine V_al i_X3_moveTo_0 rfl ?_
  refine V_il i_X3_moveTo_1 rfl ?_
  refine V_il i_X3_moveTo_2 rfl ?_
  refine P_callV2v i_X3_moveTo_4 mi_X3_holds (by first | assumption | rfl) ⟨_, _, rfl⟩ (by decide) (Nat.le_of_ble_eq_true rfl) (c_I_holds _ _ hL _ _) ?_
  refine V_if_eq_f i_X3_moveTo_7 (by rw [holdsv_yes h (by omega) (by omega)]; decide) ?_
  refine V_al i_X3_moveTo_10 rfl ?_
  refine V_il i_X3_moveTo_11 rfl ?_
  refine V_il i_X3_moveTo_12 rfl ?_
  refine P_callV2v i_X3_moveTo_14 mi_X3_holds (by first | assumption | rfl) ⟨_, _, rfl⟩ (by decide) (Nat.le_of_ble_eq_true rfl) (c_I_holds _ _ hL2 _ _) ?_
  refine V_if_eq_f i_X3_moveTo_17 (by rw [holdsv_yes h2 (by omega) (by omega)]; decide) ?_
  refine V_al i_X3_moveTo_20 rfl ?_
  refine V_getR i_X3_moveTo_21 (by first | assumption | rfl) (by first | assumption | rfl) ?_
  refine V_il i_X3_moveTo_24 rfl ?_
  refine V_al i_X3_moveTo_25 rfl ?_
  refine V_getR i_X3_moveTo_26 (by first | assumption | rfl) (by first | assumption | rfl) ?_
  refine V_il i_X3_moveTo_29 rfl ?_
  refine V_il i_X3_moveTo_30 rfl ?_
  refine V_acopy i_X3_moveTo_32 w_ac l3 r3 (nI_pos (by omega)) (nI_pos (by omega)) (nI_pos (by omega)) (by rw [nI_clamp (by omega), nI_clamp (by omega)]; omega) (by rw [nI_clamp (by omega), nI_clamp (by omega)]; omega) (by decide) (Nat.le_of_ble_eq_true rfl) ?_
  exact P_vret i_X3_moveTo_35 rfl ⟨rfl, by rw [nI_clamp (by omega), nI_clamp (by omega), nI_clamp (by omega)], rfl⟩
set_option maxRecDepth 100000 in
set_option maxHeartbeats 4000000 in
theorem c_L_get (I : IntM) (J : LngM) {x n : Nat} (hL : LG x n) {k : Nat} (hk : k < n) : CtV 1 m_X4_get [.ref x, .int (nI k)] I J (.long (J (x + 1) k)) I J := by
  refine CtV_of (by decide) rfl (Nat.le_of_ble_eq_true rfl) ?_
  obtain ⟨l1, l2, l3, l4⟩ := id hL
  refine V_il i_X4_get_0 rfl ?_
  refine V_if_lt_f i_X4_get_1 (nI_pos (by omega)) ?_
  refine V_il i_X4_get_4 rfl ?_
  refine V_al i_X4_get_5 rfl ?_
  refine V_getR i_X4_get_6 (by first | assumption | rfl) (by first | assumption | rfl) ?_
  refine V_alenL (v := nI _) i_X4_get_9 (by first | assumption | rfl) rfl ?_
  refine V_ic_ge_f i_X4_get_10 (nI_ge hk (by omega)) ?_
  refine V_al i_X4_get_13 rfl ?_
  refine V_getR i_X4_get_14 (by first | assumption | rfl) (by first | assumption | rfl) ?_
  refine V_il i_X4_get_17 rfl ?_
  refine K_lald k i_X4_get_18 (by first | assumption | rfl) rfl (by omega) (by omega) ?_
  refine V_goto i_X4_get_19 ?_
  exact P_lret i_X4_get_23 rfl ⟨rfl, rfl, rfl⟩
set_option maxRecDepth 100000 in
set_option maxHeartbeats 4000000 in
theorem c_L_set (I : IntM) (J : LngM) {x n : Nat} (hL : LG x n) {k : Nat} (hk : k < n) (v : Int64) : CtU 1 m_X4_set [.ref x, .int (nI k), .long v] I J I (uJ J (x + 1) k v) := by
  refine CtU_of (by decide) rfl (Nat.le_of_ble_eq_true rfl) ?_
  obtain ⟨l1, l2, l3, l4⟩ := id hL
  refine V_il i_X4_set_0 rfl ?_
  refine V_if_lt_f i_X4_set_1 (nI_pos (by omega)) ?_
  refine V_il i_X4_set_4 rfl ?_
  refine V_al i_X4_set_5 rfl ?_
  refine V_getR i_X4_set_6 (by first | assumption | rfl) (by first | assumption | rfl) ?_
  refine V_alenL (v := nI _) i_X4_set_9 (by first | assumption | rfl) rfl ?_
  refine V_ic_ge_f i_X4_set_10 (nI_ge hk (by omega)) ?_
  refine V_al i_X4_set_13 rfl ?_
  refine V_getR i_X4_set_14 (by first | assumption | rfl) (by first | assumption | rfl) ?_
  refine V_il i_X4_set_17 rfl ?_
  refine V_ll i_X4_set_18 rfl ?_
  refine K_last k i_X4_set_19 (by first | assumption | rfl) rfl (by omega) (by omega) ?_
  exact P_vret i_X4_set_20 rfl ⟨rfl, rfl, rfl⟩
set_option maxRecDepth 100000 in
set_option maxHeartbeats 4000000 in
theorem lp_L_bl (I : IntM) (J : LngM) {x n : Nat} (hL : LG x n) {y : Nat} (hL2 : LG y n) (hxy : x ≠ y) (Q : Option Value → IntM → LngM → Prop) (hq : Q none I (putJ J (x + 1) n (J (y + 1)))) : VP m_X4_becomeLike 2 2 [(0, .ref x), (1, .ref y), (2, .int 0)] [] I J Q := by
  obtain ⟨l1, l2, l3, l4⟩ := id hL
  have r1 := hL2.1
  have key : ∀ i, i ≤ n → VP m_X4_becomeLike 2 2 [(0, .ref x), (1, .ref y), (2, .int (nI i))] [] I (putJ J (x + 1) i (J (y + 1))) Q := by
    refine down n ?_ (fun i hi ih => ?_)
    · refine V_il i_X4_becomeLike_2 rfl ?_
      refine V_al i_X4_becomeLike_3 rfl ?_
      refine V_getR i_X4_becomeLike_4 l1 l2 ?_
      refine V_alenL (v := nI n) i_X4_becomeLike_7 l3 rfl ?_
      refine V_ic_ge_t i_X4_becomeLike_8 (Int32.le_refl _) ?_
      exact P_vret i_X4_becomeLike_28 rfl hq
    · refine V_il i_X4_becomeLike_2 rfl ?_
      refine V_al i_X4_becomeLike_3 rfl ?_
      refine V_getR i_X4_becomeLike_4 (by first | assumption | rfl) (by first | assumption | rfl) ?_
      refine V_alenL (v := nI _) i_X4_becomeLike_7 (by first | assumption | rfl) rfl ?_
      refine V_ic_ge_f i_X4_becomeLike_8 (nI_ge hi (by omega)) ?_
      refine V_al i_X4_becomeLike_11 rfl ?_
      refine V_getR i_X4_becomeLike_12 (by first | assumption | rfl) (by first | assumption | rfl) ?_
      refine V_il i_X4_becomeLike_15 rfl ?_
      refine V_al i_X4_becomeLike_16 rfl ?_
      refine V_il i_X4_becomeLike_17 rfl ?_
      refine P_callV1v i_X4_becomeLike_18 mi_X4_get (by first | assumption | rfl) ⟨_, _, rfl⟩ (by decide) (Nat.le_of_ble_eq_true rfl) (c_L_get _ _ hL2 (by omega)) ?_
      refine K_last i i_X4_becomeLike_21 (by first | assumption | rfl) rfl (by omega) (by omega) ?_
      refine V_iinc (L' := [(0, _), (1, _), (2, _)]) (n' := 1) i_X4_becomeLike_22 (by decide) rfl (by decide) ⟨rfl, rfl, rfl, trivial⟩ ?_
      refine V_goto i_X4_becomeLike_25 ?_
      refine V_L (L' := [(0, _), (1, _), (2, _)]) ⟨rfl, rfl, rfl, trivial⟩ ?_
      rw [show nI i + 1 = nI (i + 1) from nI_1 i]
      have e : putJ J (x + 1) i (J (y + 1)) (y + 1) i = J (y + 1) i := by unfold putJ; rw [if_neg (by omega)]
      rw [e, putJ_s]
      exact ih
  have h0 := key 0 (Nat.zero_le _)
  rw [putJ_0] at h0
  exact h0
set_option maxRecDepth 100000 in
set_option maxHeartbeats 4000000 in
theorem c_L_becomeLike (I : IntM) (J : LngM) {x n : Nat} (hL : LG x n) {y : Nat} (hL2 : LG y n) (hxy : x ≠ y) : CtU 2 m_X4_becomeLike [.ref x, .ref y] I J I (putJ J (x + 1) n (J (y + 1))) := by
  refine CtU_of (by decide) rfl (Nat.le_of_ble_eq_true rfl) ?_
  obtain ⟨l1, l2, l3, l4⟩ := id hL
  refine V_c i_X4_becomeLike_0 ?_
  refine V_is (L' := [(0, _), (1, _), (2, _)]) i_X4_becomeLike_1 (by decide) ⟨rfl, rfl, rfl, trivial⟩ ?_
  refine V_L (L' := [(0, _), (1, _), (2, _)]) ⟨rfl, rfl, rfl, trivial⟩ ?_
  exact lp_L_bl I J hL hL2 hxy _ ⟨rfl, rfl, rfl⟩

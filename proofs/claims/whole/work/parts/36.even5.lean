
/-! ===== evenings kept ===== -/
def lkI (I : IntM) (x y : Nat) : IntM := cpI (uI (uI (uI I x 3 (I y 3)) x 4 (I y 4)) x 6 (I y 6)) (y + 2) 0 (x + 2) 0 7
def lkJ (J : LngM) (x y : Nat) : LngM := putJ (uJ J x 5 (J y 5)) (x + 4) 7 (J (y + 4))
def EZ (I : IntM) (x : Nat) : Prop := I (x + 1) 1 = nI 7

set_option maxRecDepth 100000 in
set_option maxHeartbeats 4000000 in
theorem c_E_like (I : IntM) (J : LngM) {x y : Nat} (hx : LE x) (hy : LE y) (hd : x + 5 ≤ y ∨ y + 5 ≤ x) (hzx : EZ I x) (hzy : EZ I y) : CtU 3 m_X2_becomeLike [.ref x, .ref y] I J (lkI I x y) (lkJ J x y) := by
  refine CtU_of (by decide) rfl (Nat.le_of_ble_eq_true rfl) ?_
  obtain ⟨sx, rx0, rx1, hlx, hgx⟩ := hx
  obtain ⟨sy, ry0, ry1, hly, hgy⟩ := hy
  refine V_al i_X2_becomeLike_0 rfl ?_
  refine V_al i_X2_becomeLike_1 rfl ?_
  refine V_getI i_X2_becomeLike_2 (by first | assumption | rfl) ?_
  refine V_putI i_X2_becomeLike_5 (by first | assumption | rfl) ?_
  refine V_al i_X2_becomeLike_8 rfl ?_
  refine V_al i_X2_becomeLike_9 rfl ?_
  refine V_getI i_X2_becomeLike_10 (by first | assumption | rfl) ?_
  rw [uI_ne _ _ (by intro z; injection z with z1 z2; omega)]
  refine V_putI i_X2_becomeLike_13 (by first | assumption | rfl) ?_
  refine V_al i_X2_becomeLike_16 rfl ?_
  refine V_al i_X2_becomeLike_17 rfl ?_
  refine V_getJ i_X2_becomeLike_18 (by first | assumption | rfl) ?_
  refine V_putJ i_X2_becomeLike_21 (by first | assumption | rfl) ?_
  refine V_al i_X2_becomeLike_24 rfl ?_
  refine V_al i_X2_becomeLike_25 rfl ?_
  refine V_getI i_X2_becomeLike_26 (by first | assumption | rfl) ?_
  rw [uI_ne _ _ (by intro z; injection z with z1 z2; omega), uI_ne _ _ (by intro z; injection z with z1 z2; omega)]
  refine V_putI i_X2_becomeLike_29 (by first | assumption | rfl) ?_
  refine V_al i_X2_becomeLike_32 rfl ?_
  refine V_getR i_X2_becomeLike_33 (by first | assumption | rfl) (by first | assumption | rfl) ?_
  refine V_al i_X2_becomeLike_36 rfl ?_
  refine V_getR i_X2_becomeLike_37 (by first | assumption | rfl) (by first | assumption | rfl) ?_
  refine P_callV1u i_X2_becomeLike_40 mi_X4_becomeLike hgx.1 ⟨_, _, rfl⟩ (by decide) (Nat.le_of_ble_eq_true rfl) (c_L_becomeLike _ _ hgx hgy (by omega)) ?_
  refine V_al i_X2_becomeLike_43 rfl ?_
  refine V_getR i_X2_becomeLike_44 (by first | assumption | rfl) (by first | assumption | rfl) ?_
  refine V_al i_X2_becomeLike_47 rfl ?_
  refine V_getR i_X2_becomeLike_48 (by first | assumption | rfl) (by first | assumption | rfl) ?_
  refine V_c i_X2_becomeLike_51 ?_
  refine V_c i_X2_becomeLike_52 ?_
  refine V_c i_X2_becomeLike_53 ?_
  rw [show (uJ J x 5 (J y 5)) (y + 3 + 1) = J (y + 4) from funext fun k => by rw [uJ_ne _ _ (by intro z; injection z with z1 z2; omega)]]
  refine P_callV4u i_X2_becomeLike_55 mi_X3_moveTo hly.1 ⟨_, _, rfl⟩ (by decide) (Nat.le_of_ble_eq_true rfl) (c_I_moveTo _ _ (x := y + 1) (y := x + 1) (s := 7) (t := 7) (a := 0) (b := 0) (c := 7) hly hlx (by rw [uI_ne _ _ (by intro z; injection z with z1 z2; omega), uI_ne _ _ (by intro z; injection z with z1 z2; omega), uI_ne _ _ (by intro z; injection z with z1 z2; omega)]; exact hzy) (by rw [uI_ne _ _ (by intro z; injection z with z1 z2; omega), uI_ne _ _ (by intro z; injection z with z1 z2; omega), uI_ne _ _ (by intro z; injection z with z1 z2; omega)]; exact hzx) (by decide) (by decide) (by decide) (by decide)) ?_
  exact P_vret i_X2_becomeLike_58 rfl ⟨rfl, rfl, rfl⟩
set_option maxRecDepth 100000 in
set_option maxHeartbeats 4000000 in
theorem c_keep0 (I : IntM) (J : LngM) {n : Nat} {kd nd od : Nat → Nat} {lw pot : Nat} (hK : CK I n kd nd od lw pot) {x : Int32} (h : hasC 3 x = 0) : CtP 4 m_X10_keep [.ref 0, .int x] I J (QC I J (.int (-1)) none none none) := by
  refine CtP_of (by decide) rfl (Nat.le_of_ble_eq_true rfl) ?_
  refine V_al i_X10_keep_0 rfl ?_
  refine V_il i_X10_keep_1 rfl ?_
  refine P_callV1v i_X10_keep_2 mi_X10_pickKept rfl ⟨_, _, rfl⟩ (by decide) (Nat.le_of_ble_eq_true rfl) (c_kept0 _ _ h) ?_
  refine V_asN (L' := [(0, _), (2, _)]) i_X10_keep_5 (by decide) ⟨rfl, rfl, trivial⟩ ?_
  refine V_alN i_X10_keep_6 rfl ?_
  refine V_ifnonnullN i_X10_keep_7 ?_
  refine V_c i_X10_keep_10 ?_
  exact P_iret i_X10_keep_11 rfl ⟨rfl, I, J, FrC.rf, hK.Z, rfl, rfl⟩
set_option maxRecDepth 100000 in
set_option maxHeartbeats 4000000 in
theorem c_keep1 (I : IntM) (J : LngM) {n : Nat} {kd nd od : Nat → Nat} {lw pot : Nat} (hK : CK I n kd nd od lw pot) {c : Nat} (hc : c < 3) (h0 : n = 0) : CtP 4 m_X10_keep [.ref 0, .int (nI c)] I J (QC I J (.int (-4)) none none none) := by
  refine CtP_of (by decide) rfl (Nat.le_of_ble_eq_true rfl) ?_
  refine V_al i_X10_keep_0 rfl ?_
  refine V_il i_X10_keep_1 rfl ?_
  refine P_callV1v i_X10_keep_2 mi_X10_pickKept rfl ⟨_, _, rfl⟩ (by decide) (Nat.le_of_ble_eq_true rfl) (c_kept _ _ hc) ?_
  refine V_as (L' := [(0, _), (2, _)]) i_X10_keep_5 (by decide) ⟨rfl, rfl, trivial⟩ ?_
  refine V_al i_X10_keep_6 rfl ?_
  refine V_ifnonnull i_X10_keep_7 ?_
  refine V_al i_X10_keep_12 rfl ?_
  refine V_getR i_X10_keep_13 rfl rfl ?_
  refine V_getI i_X10_keep_16 rfl ?_
  refine V_if_ne_f i_X10_keep_19 (by rw [hK.sz, h0]; rfl) ?_
  refine V_c i_X10_keep_22 ?_
  exact P_iret i_X10_keep_24 rfl ⟨rfl, I, J, FrC.rf, hK.Z, rfl, rfl⟩
set_option maxRecDepth 100000 in
set_option maxHeartbeats 4000000 in
theorem c_keep2 (I : IntM) (J : LngM) {n : Nat} {kd nd od : Nat → Nat} {lw pot : Nat} (hK : CK I n kd nd od lw pot) {e how gr : Nat} {ln te : Nat → Nat} (hE : EvOK n how e ln gr te) (hC : EvC I J 15 n how e ln gr te) {c : Nat} (hc : c < 3) (h0 : 0 < n) (hz1 : EZ I (131 + 5 * c)) (hz2 : EZ I 15) : CtV 4 m_X10_keep [.ref 0, .int (nI c)] I J (.int (nI e)) (uI (lkI I (131 + 5 * c) 15) (131 + 5 * c) 2 1) (lkJ J (131 + 5 * c) 15) := by
  refine CtV_of (by decide) rfl (Nat.le_of_ble_eq_true rfl) ?_
  obtain ⟨hh, hen, hPm, hgr, h24, hte⟩ := id hE
  obtain ⟨c1, c2, c3, c4, c5, c6⟩ := id hC
  refine V_al i_X10_keep_0 rfl ?_
  refine V_il i_X10_keep_1 rfl ?_
  refine P_callV1v i_X10_keep_2 mi_X10_pickKept rfl ⟨_, _, rfl⟩ (by decide) (Nat.le_of_ble_eq_true rfl) (c_kept _ _ hc) ?_
  refine V_as (L' := [(0, _), (2, _)]) i_X10_keep_5 (by decide) ⟨rfl, rfl, trivial⟩ ?_
  refine V_al i_X10_keep_6 rfl ?_
  refine V_ifnonnull i_X10_keep_7 ?_
  refine V_al i_X10_keep_12 rfl ?_
  refine V_getR i_X10_keep_13 rfl rfl ?_
  refine V_getI i_X10_keep_16 rfl ?_
  refine V_if_ne_t i_X10_keep_19 (by rw [hK.sz]; exact nI_ne0 h0 (by have := hK.n7; omega)) ?_
  refine V_al i_X10_keep_25 rfl ?_
  refine V_al i_X10_keep_26 rfl ?_
  refine V_getR i_X10_keep_27 rfl rfl ?_
  refine P_callV1u i_X10_keep_30 mi_X2_becomeLike (LE_k hc).1 ⟨_, _, rfl⟩ (by decide) (Nat.le_of_ble_eq_true rfl) (c_E_like I J (LE_k hc) LE_15 (by omega) hz1 hz2) ?_
  refine V_al i_X10_keep_33 rfl ?_
  refine V_c i_X10_keep_34 ?_
  refine V_putZ i_X10_keep_35 (LE_k hc).1 (by decide) ?_
  refine V_al i_X10_keep_38 rfl ?_
  refine V_getR i_X10_keep_39 rfl rfl ?_
  refine V_getI i_X10_keep_42 rfl ?_
  rw [uI_ne _ _ (by intro z; injection z with z1 z2; omega), show lkI I (131 + 5 * c) 15 15 4 = nI e from by unfold lkI cpI; rw [if_neg (by omega), uI_ne _ _ (by intro z; injection z with z1 z2; omega), uI_ne _ _ (by intro z; injection z with z1 z2; omega), uI_ne _ _ (by intro z; injection z with z1 z2; omega)]; exact c2]
  exact P_iret i_X10_keep_45 rfl ⟨rfl, rfl, rfl⟩
set_option maxRecDepth 100000 in
set_option maxHeartbeats 4000000 in
theorem c_on0 (I : IntM) (J : LngM) {n : Nat} {kd nd od : Nat → Nat} {lw pot : Nat} (hK : CK I n kd nd od lw pot) {x : Int32} (h : hasC 3 x = 0) : CtP 4 m_X10_on [.ref 0, .int x] I J (QC I J (.int (-1)) none none none) := by
  refine CtP_of (by decide) rfl (Nat.le_of_ble_eq_true rfl) ?_
  refine V_al i_X10_on_0 rfl ?_
  refine V_il i_X10_on_1 rfl ?_
  refine P_callV1v i_X10_on_2 mi_X10_pickKept rfl ⟨_, _, rfl⟩ (by decide) (Nat.le_of_ble_eq_true rfl) (c_kept0 _ _ h) ?_
  refine V_asN (L' := [(0, _), (2, _)]) i_X10_on_5 (by decide) ⟨rfl, rfl, trivial⟩ ?_
  refine V_alN i_X10_on_6 rfl ?_
  refine V_ifnonnullN i_X10_on_7 ?_
  refine V_c i_X10_on_10 ?_
  exact P_iret i_X10_on_11 rfl ⟨rfl, I, J, FrC.rf, hK.Z, rfl, rfl⟩
set_option maxRecDepth 100000 in
set_option maxHeartbeats 4000000 in
theorem c_on1 (I : IntM) (J : LngM) {n : Nat} {kd nd od : Nat → Nat} {lw pot : Nat} (hK : CK I n kd nd od lw pot) {c : Nat} (hc : c < 3) (ht : I (131 + 5 * c) 2 = 0) : CtP 4 m_X10_on [.ref 0, .int (nI c)] I J (QC I J (.int (-3)) none none (some 1)) := by
  refine CtP_of (by decide) rfl (Nat.le_of_ble_eq_true rfl) ?_
  refine V_al i_X10_on_0 rfl ?_
  refine V_il i_X10_on_1 rfl ?_
  refine P_callV1v i_X10_on_2 mi_X10_pickKept rfl ⟨_, _, rfl⟩ (by decide) (Nat.le_of_ble_eq_true rfl) (c_kept _ _ hc) ?_
  refine V_as (L' := [(0, _), (2, _)]) i_X10_on_5 (by decide) ⟨rfl, rfl, trivial⟩ ?_
  refine V_al i_X10_on_6 rfl ?_
  refine V_ifnonnull i_X10_on_7 ?_
  refine V_al i_X10_on_12 rfl ?_
  refine V_getZ i_X10_on_13 (LE_k hc).1 ?_
  refine V_if_ne_f i_X10_on_16 ht ?_
  refine V_al i_X10_on_19 rfl ?_
  refine V_c i_X10_on_20 ?_
  refine P_callV1v i_X10_on_21 mi_X10_refuse rfl ⟨_, _, rfl⟩ (by decide) (Nat.le_of_ble_eq_true rfl) (c_refuse I J (f := 1) (by decide)) ?_
  exact P_iret i_X10_on_24 rfl ⟨rfl, I, J, FrC.rf, hK.Z, rfl, rfl⟩
set_option maxRecDepth 100000 in
set_option maxHeartbeats 4000000 in
theorem c_on2 (I : IntM) (J : LngM) {c e : Nat} (hc : c < 3) (ht : I (131 + 5 * c) 2 = 1) (hE4 : I (131 + 5 * c) 4 = nI e) (hz1 : EZ I (131 + 5 * c)) (hz2 : EZ I 15) : CtV 4 m_X10_on [.ref 0, .int (nI c)] I J (.int (nI e)) (lkI I 15 (131 + 5 * c)) (lkJ J 15 (131 + 5 * c)) := by
  refine CtV_of (by decide) rfl (Nat.le_of_ble_eq_true rfl) ?_
  refine V_al i_X10_on_0 rfl ?_
  refine V_il i_X10_on_1 rfl ?_
  refine P_callV1v i_X10_on_2 mi_X10_pickKept rfl ⟨_, _, rfl⟩ (by decide) (Nat.le_of_ble_eq_true rfl) (c_kept _ _ hc) ?_
  refine V_as (L' := [(0, _), (2, _)]) i_X10_on_5 (by decide) ⟨rfl, rfl, trivial⟩ ?_
  refine V_al i_X10_on_6 rfl ?_
  refine V_ifnonnull i_X10_on_7 ?_
  refine V_al i_X10_on_12 rfl ?_
  refine V_getZ i_X10_on_13 (LE_k hc).1 ?_
  refine V_if_ne_t i_X10_on_16 (by rw [ht]; decide) ?_
  refine V_al i_X10_on_25 rfl ?_
  refine V_getR i_X10_on_26 rfl rfl ?_
  refine V_al i_X10_on_29 rfl ?_
  refine P_callV1u i_X10_on_30 mi_X2_becomeLike rfl ⟨_, _, rfl⟩ (by decide) (Nat.le_of_ble_eq_true rfl) (c_E_like I J LE_15 (LE_k hc) (by omega) hz2 hz1) ?_
  refine V_al i_X10_on_33 rfl ?_
  refine V_getR i_X10_on_34 rfl rfl ?_
  refine V_getI i_X10_on_37 rfl ?_
  rw [show lkI I 15 (131 + 5 * c) 15 4 = nI e from by unfold lkI cpI; rw [if_neg (by omega), uI_ne _ _ (by simp), uI_eq]; exact hE4]
  exact P_iret i_X10_on_40 rfl ⟨rfl, rfl, rfl⟩
def kpI (I : IntM) (c i : Nat) : IntM := fun y k => if y = 165 ∧ 7 * c ≤ k ∧ k < 7 * c + i then I 160 (k - 7 * c) else I y k
def kpJ (J : LngM) (c i : Nat) : LngM := fun y k => if y = 166 ∧ 7 * c ≤ k ∧ k < 7 * c + i then J 161 (k - 7 * c) else if y = 167 ∧ 7 * c ≤ k ∧ k < 7 * c + i then J 162 (k - 7 * c) else J y k
def ocI (I : IntM) (c i : Nat) : IntM := fun y k => if y = 160 ∧ k < i then I 165 (7 * c + k) else I y k
def ocJ (J : LngM) (c i : Nat) : LngM := fun y k => if y = 161 ∧ k < i then J 166 (7 * c + k) else if y = 162 ∧ k < i then J 167 (7 * c + k) else J y k
theorem kpI_0 (I : IntM) (c : Nat) : kpI I c 0 = I := by
  funext y k
  unfold kpI
  rw [if_neg (by omega)]
theorem kpJ_0 (J : LngM) (c : Nat) : kpJ J c 0 = J := by
  funext y k
  unfold kpJ
  rw [if_neg (by omega), if_neg (by omega)]
theorem ocI_0 (I : IntM) (c : Nat) : ocI I c 0 = I := by
  funext y k
  unfold ocI
  rw [if_neg (by omega)]
theorem ocJ_0 (J : LngM) (c : Nat) : ocJ J c 0 = J := by
  funext y k
  unfold ocJ
  rw [if_neg (by omega), if_neg (by omega)]
theorem kpI_s (I : IntM) (c i : Nat) : uI (kpI I c i) 165 (7 * c + i) (I 160 i) = kpI I c (i + 1) := by
  funext y k
  unfold uI kpI
  by_cases h1 : y = 165 ∧ k = 7 * c + i
  · rw [if_pos h1, if_pos (by omega), show k - 7 * c = i by omega]
  · rw [if_neg h1]
    by_cases h2 : y = 165 ∧ 7 * c ≤ k ∧ k < 7 * c + i
    · rw [if_pos h2, if_pos (by omega)]
    · rw [if_neg h2, if_neg (by omega)]
theorem kpJ_s (J : LngM) (c i : Nat) : uJ (uJ (kpJ J c i) 166 (7 * c + i) (J 161 i)) 167 (7 * c + i) (J 162 i) = kpJ J c (i + 1) := by
  funext y k
  unfold uJ kpJ
  by_cases h1 : y = 167 ∧ k = 7 * c + i
  · rw [if_pos h1, if_neg (by omega), if_pos (by omega), show k - 7 * c = i by omega]
  · rw [if_neg h1]
    by_cases h3 : y = 166 ∧ k = 7 * c + i
    · rw [if_pos h3, if_pos (by omega), show k - 7 * c = i by omega]
    · rw [if_neg h3]
      by_cases h2 : y = 166 ∧ 7 * c ≤ k ∧ k < 7 * c + i
      · rw [if_pos h2, if_pos (by omega)]
      · rw [if_neg h2]
        by_cases h4 : y = 167 ∧ 7 * c ≤ k ∧ k < 7 * c + i
        · rw [if_pos h4, if_neg (by omega), if_pos (by omega)]
        · rw [if_neg h4, if_neg (by omega), if_neg (by omega)]
theorem ocI_s (I : IntM) (c i : Nat) : uI (ocI I c i) 160 i (I 165 (7 * c + i)) = ocI I c (i + 1) := by
  funext y k
  unfold uI ocI
  by_cases h1 : y = 160 ∧ k = i
  · rw [if_pos h1, if_pos (by omega), h1.2]
  · rw [if_neg h1]
    by_cases h2 : y = 160 ∧ k < i
    · rw [if_pos h2, if_pos (by omega)]
    · rw [if_neg h2, if_neg (by omega)]
theorem ocJ_s (J : LngM) (c i : Nat) : uJ (uJ (ocJ J c i) 161 i (J 166 (7 * c + i))) 162 i (J 167 (7 * c + i)) = ocJ J c (i + 1) := by
  funext y k
  unfold uJ ocJ
  by_cases h1 : y = 162 ∧ k = i
  · rw [if_pos h1, if_neg (by omega), if_pos (by omega), h1.2]
  · rw [if_neg h1]
    by_cases h3 : y = 161 ∧ k = i
    · rw [if_pos h3, if_pos (by omega), h3.2]
    · rw [if_neg h3]
      by_cases h2 : y = 161 ∧ k < i
      · rw [if_pos h2, if_pos (by omega)]
      · rw [if_neg h2]
        by_cases h4 : y = 162 ∧ k < i
        · rw [if_pos h4, if_neg (by omega), if_pos (by omega)]
        · rw [if_neg h4, if_neg (by omega), if_neg (by omega)]
set_option maxRecDepth 100000 in
set_option maxHeartbeats 4000000 in
theorem lp_M_keep (I : IntM) (J : LngM) {n c : Nat} (hn : n ≤ 7) (hc : c < 3) (hsz : I 146 19 = nI n) (Q : Option Value → IntM → LngM → Prop) (hq : VP m_X11_keep 2 131 [(0, .ref 146)] [] (kpI I c n) (kpJ J c n) Q) : VP m_X11_keep 2 66 [(0, .ref 146), (1, .int (nI c)), (2, .int 0)] [] I J Q := by
  have hz : ∀ i, kpI I c i 146 19 = nI n := fun i => by unfold kpI; rw [if_neg (by omega)]; exact hsz
  have key : ∀ i, i ≤ n → VP m_X11_keep 2 66 [(0, .ref 146), (1, .int (nI c)), (2, .int (nI i))] [] (kpI I c i) (kpJ J c i) Q := by
    refine down n ?_ (fun i hi ih => ?_)
    · refine V_il i_X11_keep_66 rfl ?_
      refine V_al i_X11_keep_67 rfl ?_
      refine V_getI i_X11_keep_68 rfl ?_
      refine V_ic_ge_t i_X11_keep_71 (by rw [hz]; exact Int32.le_refl _) ?_
      exact V_L (L' := [(0, _)]) ⟨rfl, trivial⟩ hq
    · refine V_il i_X11_keep_66 rfl ?_
      refine V_al i_X11_keep_67 rfl ?_
      refine V_getI i_X11_keep_68 rfl ?_
      refine V_ic_ge_f i_X11_keep_71 (by rw [hz i]; exact nI_ge hi (by omega)) ?_
      refine V_al i_X11_keep_74 rfl ?_
      refine V_getR i_X11_keep_75 rfl rfl ?_
      refine V_c i_X11_keep_78 ?_
      refine V_il i_X11_keep_80 rfl ?_
      refine V_imul i_X11_keep_81 ?_
      refine V_il i_X11_keep_82 rfl ?_
      refine V_iadd i_X11_keep_83 ?_
      refine V_al i_X11_keep_84 rfl ?_
      refine V_getR i_X11_keep_85 rfl rfl ?_
      refine V_il i_X11_keep_88 rfl ?_
      refine K_iald i i_X11_keep_89 rfl rfl (by omega) (by omega) ?_
      rw [show kpI I c i 160 i = I 160 i from by unfold kpI; rw [if_neg (by omega)]]
      refine K_iast (7 * c + i) i_X11_keep_90 rfl (by rw [show (7 : Int32) = nI 7 from rfl, nI_mul, nI_add]) (by omega) (by omega) ?_
      refine V_al i_X11_keep_91 rfl ?_
      refine V_getR i_X11_keep_92 rfl rfl ?_
      refine V_c i_X11_keep_95 ?_
      refine V_il i_X11_keep_97 rfl ?_
      refine V_imul i_X11_keep_98 ?_
      refine V_il i_X11_keep_99 rfl ?_
      refine V_iadd i_X11_keep_100 ?_
      refine V_al i_X11_keep_101 rfl ?_
      refine V_getR i_X11_keep_102 rfl rfl ?_
      refine V_il i_X11_keep_105 rfl ?_
      refine K_lald i i_X11_keep_106 rfl rfl (by omega) (by omega) ?_
      rw [show kpJ J c i 161 i = J 161 i from by unfold kpJ; rw [if_neg (by omega), if_neg (by omega)]]
      refine K_last (7 * c + i) i_X11_keep_107 rfl (by rw [show (7 : Int32) = nI 7 from rfl, nI_mul, nI_add]) (by omega) (by omega) ?_
      refine V_al i_X11_keep_108 rfl ?_
      refine V_getR i_X11_keep_109 rfl rfl ?_
      refine V_c i_X11_keep_112 ?_
      refine V_il i_X11_keep_114 rfl ?_
      refine V_imul i_X11_keep_115 ?_
      refine V_il i_X11_keep_116 rfl ?_
      refine V_iadd i_X11_keep_117 ?_
      refine V_al i_X11_keep_118 rfl ?_
      refine V_getR i_X11_keep_119 rfl rfl ?_
      refine V_il i_X11_keep_122 rfl ?_
      refine K_lald i i_X11_keep_123 rfl rfl (by omega) (by omega) ?_
      rw [show uJ (kpJ J c i) 166 (7 * c + i) (J 161 i) 162 i = J 162 i from by rw [uJ_ne _ _ (by intro z; injection z with z1 z2; omega)]; unfold kpJ; rw [if_neg (by omega), if_neg (by omega)]]
      refine K_last (7 * c + i) i_X11_keep_124 rfl (by rw [show (7 : Int32) = nI 7 from rfl, nI_mul, nI_add]) (by omega) (by omega) ?_
      refine V_iinc (L' := [(0, _), (1, _), (2, _)]) (n' := 1) i_X11_keep_125 (by decide) rfl (by decide) ⟨rfl, rfl, rfl, trivial⟩ ?_
      refine V_goto i_X11_keep_128 ?_
      refine V_L (L' := [(0, _), (1, _), (2, _)]) ⟨rfl, rfl, rfl, trivial⟩ ?_
      rw [show nI i + 1 = nI (i + 1) from nI_1 i, kpI_s, kpJ_s]
      exact ih
  have h0 := key 0 (Nat.zero_le _)
  rw [kpI_0, kpJ_0] at h0
  exact h0
set_option maxRecDepth 100000 in
set_option maxHeartbeats 4000000 in
theorem lp_M_on (I : IntM) (J : LngM) {n c : Nat} (hn : n ≤ 7) (hc : c < 3) (hsz : I 146 19 = nI n) (Q : Option Value → IntM → LngM → Prop) (hq : VP m_X11_on 2 136 [(0, .ref 146)] [] (ocI I c n) (ocJ J c n) Q) : VP m_X11_on 2 71 [(0, .ref 146), (1, .int (nI c)), (2, .int 0)] [] I J Q := by
  have hz : ∀ i, ocI I c i 146 19 = nI n := fun i => by unfold ocI; rw [if_neg (by omega)]; exact hsz
  have key : ∀ i, i ≤ n → VP m_X11_on 2 71 [(0, .ref 146), (1, .int (nI c)), (2, .int (nI i))] [] (ocI I c i) (ocJ J c i) Q := by
    refine down n ?_ (fun i hi ih => ?_)
    · refine V_il i_X11_on_71 rfl ?_
      refine V_al i_X11_on_72 rfl ?_
      refine V_getI i_X11_on_73 rfl ?_
      refine V_ic_ge_t i_X11_on_76 (by rw [hz]; exact Int32.le_refl _) ?_
      exact V_L (L' := [(0, _)]) ⟨rfl, trivial⟩ hq
    · refine V_il i_X11_on_71 rfl ?_
      refine V_al i_X11_on_72 rfl ?_
      refine V_getI i_X11_on_73 rfl ?_
      refine V_ic_ge_f i_X11_on_76 (by rw [hz i]; exact nI_ge hi (by omega)) ?_
      refine V_al i_X11_on_79 rfl ?_
      refine V_getR i_X11_on_80 rfl rfl ?_
      refine V_il i_X11_on_83 rfl ?_
      refine V_al i_X11_on_84 rfl ?_
      refine V_getR i_X11_on_85 rfl rfl ?_
      refine V_c i_X11_on_88 ?_
      refine V_il i_X11_on_90 rfl ?_
      refine V_imul i_X11_on_91 ?_
      refine V_il i_X11_on_92 rfl ?_
      refine V_iadd i_X11_on_93 ?_
      refine K_iald (7 * c + i) i_X11_on_94 rfl (by rw [show (7 : Int32) = nI 7 from rfl, nI_mul, nI_add]) (by omega) (by omega) ?_
      rw [show ocI I c i 165 (7 * c + i) = I 165 (7 * c + i) from by unfold ocI; rw [if_neg (by omega)]]
      refine K_iast i i_X11_on_95 rfl rfl (by omega) (by omega) ?_
      refine V_al i_X11_on_96 rfl ?_
      refine V_getR i_X11_on_97 rfl rfl ?_
      refine V_il i_X11_on_100 rfl ?_
      refine V_al i_X11_on_101 rfl ?_
      refine V_getR i_X11_on_102 rfl rfl ?_
      refine V_c i_X11_on_105 ?_
      refine V_il i_X11_on_107 rfl ?_
      refine V_imul i_X11_on_108 ?_
      refine V_il i_X11_on_109 rfl ?_
      refine V_iadd i_X11_on_110 ?_
      refine K_lald (7 * c + i) i_X11_on_111 rfl (by rw [show (7 : Int32) = nI 7 from rfl, nI_mul, nI_add]) (by omega) (by omega) ?_
      rw [show ocJ J c i 166 (7 * c + i) = J 166 (7 * c + i) from by unfold ocJ; rw [if_neg (by omega), if_neg (by omega)]]
      refine K_last i i_X11_on_112 rfl rfl (by omega) (by omega) ?_
      refine V_al i_X11_on_113 rfl ?_
      refine V_getR i_X11_on_114 rfl rfl ?_
      refine V_il i_X11_on_117 rfl ?_
      refine V_al i_X11_on_118 rfl ?_
      refine V_getR i_X11_on_119 rfl rfl ?_
      refine V_c i_X11_on_122 ?_
      refine V_il i_X11_on_124 rfl ?_
      refine V_imul i_X11_on_125 ?_
      refine V_il i_X11_on_126 rfl ?_
      refine V_iadd i_X11_on_127 ?_
      refine K_lald (7 * c + i) i_X11_on_128 rfl (by rw [show (7 : Int32) = nI 7 from rfl, nI_mul, nI_add]) (by omega) (by omega) ?_
      rw [show uJ (ocJ J c i) 161 i (J 166 (7 * c + i)) 167 (7 * c + i) = J 167 (7 * c + i) from by rw [uJ_ne _ _ (by intro z; injection z with z1 z2; omega)]; unfold ocJ; rw [if_neg (by omega), if_neg (by omega)]]
      refine K_last i i_X11_on_129 rfl rfl (by omega) (by omega) ?_
      refine V_iinc (L' := [(0, _), (1, _), (2, _)]) (n' := 1) i_X11_on_130 (by decide) rfl (by decide) ⟨rfl, rfl, rfl, trivial⟩ ?_
      refine V_goto i_X11_on_133 ?_
      refine V_L (L' := [(0, _), (1, _), (2, _)]) ⟨rfl, rfl, rfl, trivial⟩ ?_
      rw [show nI i + 1 = nI (i + 1) from nI_1 i, ocI_s, ocJ_s]
      exact ih
  have h0 := key 0 (Nat.zero_le _)
  rw [ocI_0, ocJ_0] at h0
  exact h0
set_option maxRecDepth 100000 in
set_option maxHeartbeats 4000000 in
theorem m_keep0 (I : IntM) (J : LngM) {x : Int32} (h : hasC 3 x = 0) : CtP 2 m_X11_keep [.ref 146, .int x] I J (QM I J (.int (-1)) none none none) := by
  refine CtP_of (by decide) rfl (Nat.le_of_ble_eq_true rfl) ?_
  refine V_il i_X11_keep_0 rfl ?_
  refine V_i2l i_X11_keep_1 ?_
  refine V_cl i_X11_keep_2 ?_
  refine V_cl i_X11_keep_3 ?_
  refine P_callS3v i_X11_keep_6 ms_X11_in (by decide) (Nat.le_of_ble_eq_true rfl) (c_M_in _ _ _ _ _) ?_
  refine V_if_ne_f i_X11_keep_9 (by rw [show (2 : Int64) = lN 2 from rfl, in_lit (by decide)]; exact h) ?_
  refine V_c i_X11_keep_12 ?_
  exact P_iret i_X11_keep_13 rfl ⟨rfl, I, J, FrM.rf, rfl, rfl⟩
set_option maxRecDepth 100000 in
set_option maxHeartbeats 4000000 in
theorem m_on0 (I : IntM) (J : LngM) {x : Int32} (h : hasC 3 x = 0) : CtP 2 m_X11_on [.ref 146, .int x] I J (QM I J (.int (-1)) none none none) := by
  refine CtP_of (by decide) rfl (Nat.le_of_ble_eq_true rfl) ?_
  refine V_il i_X11_on_0 rfl ?_
  refine V_i2l i_X11_on_1 ?_
  refine V_cl i_X11_on_2 ?_
  refine V_cl i_X11_on_3 ?_
  refine P_callS3v i_X11_on_6 ms_X11_in (by decide) (Nat.le_of_ble_eq_true rfl) (c_M_in _ _ _ _ _) ?_
  refine V_if_ne_f i_X11_on_9 (by rw [show (2 : Int64) = lN 2 from rfl, in_lit (by decide)]; exact h) ?_
  refine V_c i_X11_on_12 ?_
  exact P_iret i_X11_on_13 rfl ⟨rfl, I, J, FrM.rf, rfl, rfl⟩
set_option maxRecDepth 100000 in
set_option maxHeartbeats 4000000 in
theorem m_keep1 (I : IntM) (J : LngM) {n : Nat} {kd nd od : Nat → Nat} {lw pot : Nat} (hK : MK I n kd nd od lw pot) {c : Nat} (hc : c < 3) (h0 : n = 0) : CtP 2 m_X11_keep [.ref 146, .int (nI c)] I J (QM I J (.int (-4)) none none none) := by
  refine CtP_of (by decide) rfl (Nat.le_of_ble_eq_true rfl) ?_
  refine V_il i_X11_keep_0 rfl ?_
  refine V_i2l i_X11_keep_1 ?_
  refine V_cl i_X11_keep_2 ?_
  refine V_cl i_X11_keep_3 ?_
  refine P_callS3v i_X11_keep_6 ms_X11_in (by decide) (Nat.le_of_ble_eq_true rfl) (c_M_in _ _ _ _ _) ?_
  refine V_if_ne_t i_X11_keep_9 (by rw [show (2 : Int64) = lN 2 from rfl, in_lit (by decide), hasN_nI (by decide) hc]; decide) ?_
  refine V_al i_X11_keep_14 rfl ?_
  refine V_getI i_X11_keep_15 rfl ?_
  refine V_if_ne_f i_X11_keep_18 (by rw [hK.sz, h0]; rfl) ?_
  refine V_c i_X11_keep_21 ?_
  exact P_iret i_X11_keep_23 rfl ⟨rfl, I, J, FrM.rf, rfl, rfl⟩
set_option maxRecDepth 100000 in
set_option maxHeartbeats 4000000 in
theorem m_on1 (I : IntM) (J : LngM) {c : Nat} (hc : c < 3) (ht : I 163 c = -1) : CtP 2 m_X11_on [.ref 146, .int (nI c)] I J (QM I J (.int (-3)) none none (some 1)) := by
  refine CtP_of (by decide) rfl (Nat.le_of_ble_eq_true rfl) ?_
  refine V_il i_X11_on_0 rfl ?_
  refine V_i2l i_X11_on_1 ?_
  refine V_cl i_X11_on_2 ?_
  refine V_cl i_X11_on_3 ?_
  refine P_callS3v i_X11_on_6 ms_X11_in (by decide) (Nat.le_of_ble_eq_true rfl) (c_M_in _ _ _ _ _) ?_
  refine V_if_ne_t i_X11_on_9 (by rw [show (2 : Int64) = lN 2 from rfl, in_lit (by decide), hasN_nI (by decide) hc]; decide) ?_
  refine V_al i_X11_on_14 rfl ?_
  refine V_getR i_X11_on_15 rfl rfl ?_
  refine V_il i_X11_on_18 rfl ?_
  refine K_iald c i_X11_on_19 rfl rfl hc (by omega) ?_
  refine V_if_ge_f i_X11_on_20 (by rw [ht]; decide) ?_
  refine V_al i_X11_on_23 rfl ?_
  refine V_c i_X11_on_24 ?_
  refine P_callV1v i_X11_on_25 mi_X11_found rfl ⟨_, _, rfl⟩ (by decide) (Nat.le_of_ble_eq_true rfl) (c_M_found I J (f := 1) (by decide)) ?_
  exact P_iret i_X11_on_28 rfl ⟨rfl, I, J, FrM.rf, rfl, rfl⟩
set_option maxRecDepth 100000 in
set_option maxHeartbeats 4000000 in
theorem m_keep2 (I : IntM) (J : LngM) {n : Nat} {kd nd od : Nat → Nat} {lw pot : Nat} (hK : MK I n kd nd od lw pot) {c : Nat} (hc : c < 3) (h0 : 0 < n) : CtV 2 m_X11_keep [.ref 146, .int (nI c)] I J (.int (I 146 32)) (kpI (uI (uI I 163 c (I 146 32)) 164 c (I 146 30)) c n) (kpJ (uJ (uJ J 168 c (J 146 35)) 169 c (J 146 36)) c n) := by
  refine CtV_of (by decide) rfl (Nat.le_of_ble_eq_true rfl) ?_
  refine V_il i_X11_keep_0 rfl ?_
  refine V_i2l i_X11_keep_1 ?_
  refine V_cl i_X11_keep_2 ?_
  refine V_cl i_X11_keep_3 ?_
  refine P_callS3v i_X11_keep_6 ms_X11_in (by decide) (Nat.le_of_ble_eq_true rfl) (c_M_in _ _ _ _ _) ?_
  refine V_if_ne_t i_X11_keep_9 (by rw [show (2 : Int64) = lN 2 from rfl, in_lit (by decide), hasN_nI (by decide) hc]; decide) ?_
  refine V_al i_X11_keep_14 rfl ?_
  refine V_getI i_X11_keep_15 rfl ?_
  refine V_if_ne_t i_X11_keep_18 (by rw [hK.sz]; exact nI_ne0 h0 (by have := hK.n7; omega)) ?_
  refine V_al i_X11_keep_24 rfl ?_
  refine V_getR i_X11_keep_25 rfl rfl ?_
  refine V_il i_X11_keep_28 rfl ?_
  refine V_al i_X11_keep_29 rfl ?_
  refine V_getI i_X11_keep_30 rfl ?_
  refine K_iast c i_X11_keep_33 rfl rfl hc (by omega) ?_
  refine V_al i_X11_keep_34 rfl ?_
  refine V_getR i_X11_keep_35 rfl rfl ?_
  refine V_il i_X11_keep_38 rfl ?_
  refine V_al i_X11_keep_39 rfl ?_
  refine V_getI i_X11_keep_40 rfl ?_
  rw [uI_ne _ _ (by simp)]
  refine K_iast c i_X11_keep_43 rfl rfl hc (by omega) ?_
  refine V_al i_X11_keep_44 rfl ?_
  refine V_getR i_X11_keep_45 rfl rfl ?_
  refine V_il i_X11_keep_48 rfl ?_
  refine V_al i_X11_keep_49 rfl ?_
  refine V_getJ i_X11_keep_50 rfl ?_
  refine K_last c i_X11_keep_53 rfl rfl hc (by omega) ?_
  refine V_al i_X11_keep_54 rfl ?_
  refine V_getR i_X11_keep_55 rfl rfl ?_
  refine V_il i_X11_keep_58 rfl ?_
  refine V_al i_X11_keep_59 rfl ?_
  refine V_getJ i_X11_keep_60 rfl ?_
  rw [uJ_ne _ _ (by simp)]
  refine K_last c i_X11_keep_63 rfl rfl hc (by omega) ?_
  refine V_c i_X11_keep_64 ?_
  refine V_is (L' := [(0, _), (1, _), (2, _)]) i_X11_keep_65 (by decide) ⟨rfl, rfl, rfl, trivial⟩ ?_
  refine V_L (L' := [(0, _), (1, _), (2, _)]) ⟨rfl, rfl, rfl, trivial⟩ ?_
  refine lp_M_keep (uI (uI I 163 c (I 146 32)) 164 c (I 146 30)) (uJ (uJ J 168 c (J 146 35)) 169 c (J 146 36)) hK.n7 hc (by rw [uI_ne _ _ (by simp), uI_ne _ _ (by simp)]; exact hK.sz) _ ?_
  refine V_al i_X11_keep_131 rfl ?_
  refine V_getI i_X11_keep_132 rfl ?_
  exact P_iret i_X11_keep_135 rfl ⟨by unfold kpI; rw [if_neg (by omega), uI_ne _ _ (by simp), uI_ne _ _ (by simp)], rfl, rfl⟩
set_option maxRecDepth 100000 in
set_option maxHeartbeats 4000000 in
theorem m_on2 (I : IntM) (J : LngM) {n : Nat} {kd nd od : Nat → Nat} {lw pot : Nat} (hK : MK I n kd nd od lw pot) {c : Nat} (hc : c < 3) (ht : 0 ≤ I 163 c) : CtV 2 m_X11_on [.ref 146, .int (nI c)] I J (.int (I 163 c)) (ocI (uI (uI I 146 32 (I 163 c)) 146 30 (I 164 c)) c n) (ocJ (uJ (uJ J 146 35 (J 168 c)) 146 36 (J 169 c)) c n) := by
  refine CtV_of (by decide) rfl (Nat.le_of_ble_eq_true rfl) ?_
  refine V_il i_X11_on_0 rfl ?_
  refine V_i2l i_X11_on_1 ?_
  refine V_cl i_X11_on_2 ?_
  refine V_cl i_X11_on_3 ?_
  refine P_callS3v i_X11_on_6 ms_X11_in (by decide) (Nat.le_of_ble_eq_true rfl) (c_M_in _ _ _ _ _) ?_
  refine V_if_ne_t i_X11_on_9 (by rw [show (2 : Int64) = lN 2 from rfl, in_lit (by decide), hasN_nI (by decide) hc]; decide) ?_
  refine V_al i_X11_on_14 rfl ?_
  refine V_getR i_X11_on_15 rfl rfl ?_
  refine V_il i_X11_on_18 rfl ?_
  refine K_iald c i_X11_on_19 rfl rfl hc (by omega) ?_
  refine V_if_ge_t i_X11_on_20 ht ?_
  refine V_al i_X11_on_29 rfl ?_
  refine V_al i_X11_on_30 rfl ?_
  refine V_getR i_X11_on_31 rfl rfl ?_
  refine V_il i_X11_on_34 rfl ?_
  refine K_iald c i_X11_on_35 rfl rfl hc (by omega) ?_
  refine V_putI i_X11_on_36 rfl ?_
  refine V_al i_X11_on_39 rfl ?_
  refine V_al i_X11_on_40 rfl ?_
  refine V_getR i_X11_on_41 rfl rfl ?_
  refine V_il i_X11_on_44 rfl ?_
  refine K_iald c i_X11_on_45 rfl rfl hc (by omega) ?_
  rw [uI_ne _ _ (by simp)]
  refine V_putI i_X11_on_46 rfl ?_
  refine V_al i_X11_on_49 rfl ?_
  refine V_al i_X11_on_50 rfl ?_
  refine V_getR i_X11_on_51 rfl rfl ?_
  refine V_il i_X11_on_54 rfl ?_
  refine K_lald c i_X11_on_55 rfl rfl hc (by omega) ?_
  refine V_putJ i_X11_on_56 rfl ?_
  refine V_al i_X11_on_59 rfl ?_
  refine V_al i_X11_on_60 rfl ?_
  refine V_getR i_X11_on_61 rfl rfl ?_
  refine V_il i_X11_on_64 rfl ?_
  refine K_lald c i_X11_on_65 rfl rfl hc (by omega) ?_
  rw [uJ_ne _ _ (by simp)]
  refine V_putJ i_X11_on_66 rfl ?_
  refine V_c i_X11_on_69 ?_
  refine V_is (L' := [(0, _), (1, _), (2, _)]) i_X11_on_70 (by decide) ⟨rfl, rfl, rfl, trivial⟩ ?_
  refine V_L (L' := [(0, _), (1, _), (2, _)]) ⟨rfl, rfl, rfl, trivial⟩ ?_
  refine lp_M_on (uI (uI I 146 32 (I 163 c)) 146 30 (I 164 c)) (uJ (uJ J 146 35 (J 168 c)) 146 36 (J 169 c)) hK.n7 hc (by rw [uI_ne _ _ (by simp), uI_ne _ _ (by simp)]; exact hK.sz) _ ?_
  refine V_al i_X11_on_136 rfl ?_
  refine V_getI i_X11_on_137 rfl ?_
  exact P_iret i_X11_on_140 rfl ⟨by unfold ocI; rw [if_neg (by omega), uI_ne _ _ (by simp), uI_eq], rfl, rfl⟩
theorem KeI.congr2 {I I' : IntM} {J J' : LngM} {n c : Nat} (hn : n ≤ 7) (hc : c < 3) (hI : ∀ x k, 131 + 5 * c ≤ x ∧ x ≤ 135 + 5 * c → I' x k = I x k) (hJ : ∀ x k, 131 + 5 * c ≤ x ∧ x ≤ 135 + 5 * c → J' x k = J x k) (h1 : I' 163 c = I 163 c) (h2 : I' 164 c = I 164 c) (h3 : ∀ p, p < 7 → I' 165 (7 * c + p) = I 165 (7 * c + p)) (h4 : J' 168 c = J 168 c) (h5 : J' 169 c = J 169 c) (h6 : ∀ p, p < 7 → J' 166 (7 * c + p) = J 166 (7 * c + p)) (h7 : ∀ p, p < 7 → J' 167 (7 * c + p) = J 167 (7 * c + p)) (h : KeI I J n c) : KeI I' J' n c := by
  obtain ⟨a1, a2⟩ := h
  refine ⟨by rw [hI _ _ (by omega)]; exact a1, ?_⟩
  rcases a2 with ⟨a3, a4⟩ | ⟨a3, a4, how, e, ln, gr, te, g1, g2, g3⟩
  · exact Or.inl ⟨by rw [hI _ _ (by omega)]; exact a3, by rw [h1]; exact a4⟩
  · exact Or.inr ⟨by rw [hI _ _ (by omega)]; exact a3, a4, how, e, ln, gr, te, g1, EvC.congr (fun k _ => hI _ _ (by omega)) (fun k => hI _ _ (by omega)) (hJ _ _ (by omega)) (fun k => hJ _ _ (by omega)) g2, KeM.congr hc g1.2.2.1.1 hn g1.2.1 h1 h2 h3 h4 h5 h6 h7 g3⟩
theorem Inv.ke {I I2 : IntM} {J J2 : LngM} {n : Nat} {kd nd od : Nat → Nat} {lw pot : Nat} (hP : InvP I J n kd nd od lw pot) (hT : ToI I J) (hZ : ISz I) (hI : ∀ x k, ¬ (131 ≤ x ∧ x ≤ 145) → ¬ (163 ≤ x ∧ x ≤ 165) → I2 x k = I x k) (hJ : ∀ x k, ¬ (131 ≤ x ∧ x ≤ 145) → ¬ (166 ≤ x ∧ x ≤ 169) → J2 x k = J x k) (hK : ∀ c, c < 3 → KeI I2 J2 n c) : Inv I2 J2 := by
  obtain ⟨h1, h2, h3, h4, h5, h6, h7, h8, h9⟩ := hP
  exact ⟨⟨n, kd, nd, od, lw, pot, CoI.congr (fun x k q => hI x k (by omega) (by omega)) h1, EvI.congr (fun x k q => hI x k (by omega) (by omega)) (fun x k q => hJ x k (by omega) (by omega)) h2, hK,
    RoI.congr (fun x k q => hI x k (by omega) (by omega)) h4, RoI.congr (fun x k q => hI x k (by omega) (by omega)) h5, FiI.congr (fun x k q => hI x k (by omega) (by omega)) h6,
    by rw [hI _ _ (by omega) (by omega)]; exact h7, by rw [hI _ _ (by omega) (by omega)]; exact h8, by rw [hI _ _ (by omega) (by omega)]; exact h9⟩, ⟨by rw [hI _ _ (by omega) (by omega), hI _ _ (by omega) (by omega)]; exact hT.1, by rw [hJ _ _ (by omega) (by omega), hJ _ _ (by omega) (by omega)]; exact hT.2.1, by rw [hJ _ _ (by omega) (by omega), hJ _ _ (by omega) (by omega)]; exact hT.2.2⟩, ISz.congr (fun x k q => hI x k (by omega) (by omega)) hZ⟩
theorem KeI.z {I : IntM} {J : LngM} {n c : Nat} (h : KeI I J n c) : EZ I (131 + 5 * c) := h.1
theorem lkI_ne {I : IntM} {x y a k : Nat} (h1 : ¬ (a = x ∧ (k = 3 ∨ k = 4 ∨ k = 6))) (h2 : a ≠ x + 2) : lkI I x y a k = I a k := by
  unfold lkI cpI uI
  rw [if_neg (by omega), if_neg (by omega), if_neg (by omega), if_neg (by omega)]
theorem lkJ_ne {J : LngM} {x y a k : Nat} (h1 : ¬ (a = x ∧ k = 5)) (h2 : a ≠ x + 4) : lkJ J x y a k = J a k := by
  unfold lkJ putJ uJ
  rw [if_neg (by omega), if_neg (by omega)]
theorem lk_ev {I : IntM} {J : LngM} {x y n how e : Nat} {ln : Nat → Nat} {gr : Nat} {te : Nat → Nat} (hn : n ≤ 7) (hd : x + 5 ≤ y ∨ y + 5 ≤ x) (hE : EvOK n how e ln gr te) (h : EvC I J y n how e ln gr te) : EvC (lkI I x y) (lkJ J x y) x n how e ln gr te := by
  obtain ⟨c1, c2, c3, c4, c5, c6⟩ := h
  have hl := hE.2.2.1.1
  have hen := hE.2.1
  refine ⟨?_, ?_, ?_, ?_, fun k hk => ?_, fun i hi => ?_⟩
  · unfold lkI cpI uI
    rw [if_neg (by omega), if_neg (by omega), if_neg (by omega), if_pos ⟨rfl, rfl⟩]
    exact c1
  · unfold lkI cpI uI
    rw [if_neg (by omega), if_neg (by omega), if_pos ⟨rfl, rfl⟩]
    exact c2
  · unfold lkJ putJ uJ
    rw [if_neg (by omega), if_pos ⟨rfl, rfl⟩]
    exact c3
  · unfold lkI cpI uI
    rw [if_neg (by omega), if_pos ⟨rfl, rfl⟩]
    exact c4
  · unfold lkI cpI uI
    rw [if_pos ⟨rfl, by omega, by omega⟩, if_neg (by omega), if_neg (by omega), if_neg (by omega), show 0 + (k - 0) = k by omega]
    exact c5 k hk
  · unfold lkJ putJ
    rw [if_pos ⟨rfl, by have := hl i (by omega); omega⟩]
    exact c6 i hi
theorem p_keep {I : IntM} {J : LngM} (h : Inv I J) (x : Int32) : Pair 4 m_X10_keep [.ref 0, .int x] 2 m_X11_keep [.ref 146, .int x] I J := by
  obtain ⟨n, kd, nd, od, lw, pot, hP, hK, hM⟩ := h.K
  by_cases hx : hasC 3 x = 0
  · exact Pair.q h (fun _ => no_f) (c_keep0 I J hK hx) (fun I1 J1 e1 e2 => m_keep0 I1 J1 hx)
  obtain ⟨c, hc, rfl⟩ := hasN_yes (by decide) hx
  rcases Nat.eq_zero_or_pos n with h0 | h0
  · exact Pair.q h (fun _ => no_f) (c_keep1 I J hK hc h0) (fun I1 J1 e1 e2 => m_keep1 I1 J1 (hM I1 e1) hc h0)
  obtain ⟨how, e, ln, gr, te, hE, hC, hV⟩ := hP.2.1
  have hz1 := (hP.2.2.1 c hc).z
  have hz2 : EZ I 15 := hP.2.2.2.2.2.2.2.2
  have g : ∀ x k, ¬ (131 + 5 * c ≤ x ∧ x ≤ 135 + 5 * c) → uI (lkI I (131 + 5 * c) 15) (131 + 5 * c) 2 1 x k = I x k := fun x k a => by
    rw [uI_ne _ _ (by intro z; injection z with z1 z2; omega), lkI_ne (by omega) (by omega)]
  have gj : ∀ x k, ¬ (131 + 5 * c ≤ x ∧ x ≤ 135 + 5 * c) → lkJ J (131 + 5 * c) 15 x k = J x k := fun x k a => lkJ_ne (by omega) (by omega)
  have hc2 := c_keep2 I J hK hE hC hc h0 hz1 hz2
  have hvC := lk_ev (x := 131 + 5 * c) hK.n7 (by omega) hE hC
  have hyC : uI (lkI I (131 + 5 * c) 15) (131 + 5 * c) 2 1 (131 + 5 * c) 2 = 1 := uI_eq
  have hkC : ∀ x k, ¬ (x = 131 + 5 * c ∧ k = 2) → uI (lkI I (131 + 5 * c) 15) (131 + 5 * c) 2 1 x k = lkI I (131 + 5 * c) 15 x k := fun x k a => uI_ne _ _ (fun z => a (by cases z; exact ⟨rfl, rfl⟩))
  generalize uI (lkI I (131 + 5 * c) 15) (131 + 5 * c) 2 1 = Ia at *
  generalize lkJ J (131 + 5 * c) 15 = Ja at *
  have hVa : EvM Ia Ja n how e ln gr te := EvM.to (fun x k hx => g x k (by omega)) (fun x k hx => gj x k (by omega)) hV
  obtain ⟨v1, v2, v3, v4, v5⟩ := id hVa
  have hm := m_keep2 Ia Ja (hM Ia (fun x k hx => g x k (by omega))) hc h0
  rw [v2] at hm
  refine Pair.m hc2 hm ?_
  have b1 : ∀ x k, x ≤ 162 → kpI (uI (uI Ia 163 c (nI e)) 164 c (Ia 146 30)) c n x k = Ia x k := fun x k a => by
    unfold kpI uI
    rw [if_neg (by omega), if_neg (by omega), if_neg (by omega)]
  have b2 : ∀ x k, x ≤ 165 → kpJ (uJ (uJ Ja 168 c (Ja 146 35)) 169 c (Ja 146 36)) c n x k = Ja x k := fun x k a => by
    unfold kpJ uJ
    rw [if_neg (by omega), if_neg (by omega), if_neg (by omega), if_neg (by omega)]
  refine Inv.ke hP h.2.1 hK.Z (fun x k a b => ?_) (fun x k a b => ?_) (fun c' hc' => ?_)
  · unfold kpI uI
    rw [if_neg (by omega), if_neg (by omega), if_neg (by omega)]
    exact g x k (by omega)
  · unfold kpJ uJ
    rw [if_neg (by omega), if_neg (by omega), if_neg (by omega), if_neg (by omega)]
    exact gj x k (by omega)
  · by_cases hcc : c' = c
    · subst hcc
      refine ⟨?_, Or.inr ⟨?_, h0, how, e, ln, gr, te, hE, ?_, ?_, ?_, ?_, fun p hp => ?_, fun i hi => ?_⟩⟩
      · rw [b1 _ _ (by omega), hkC _ _ (by omega), lkI_ne (by omega) (by omega)]
        exact hz1
      · rw [b1 _ _ (by omega)]
        exact hyC
      · exact EvC.congr (fun k hk => by rw [b1 _ _ (by omega)]; exact hkC _ _ (by omega)) (fun k => by rw [b1 _ _ (by omega)]; exact hkC _ _ (by omega)) (b2 _ _ (by omega)) (fun k => b2 _ _ (by omega)) hvC
      · unfold kpI uI
        rw [if_neg (by omega), if_neg (by omega), if_pos ⟨rfl, rfl⟩]
      · unfold kpI uI
        rw [if_neg (by omega), if_pos ⟨rfl, rfl⟩]
        exact v1
      · have f1 : kpJ (uJ (uJ Ja 168 c' (Ja 146 35)) 169 c' (Ja 146 36)) c' n 168 c' = Ja 146 35 := by
          unfold kpJ uJ
          rw [if_neg (by omega), if_neg (by omega), if_neg (by omega), if_pos ⟨rfl, rfl⟩]
        have f2 : kpJ (uJ (uJ Ja 168 c' (Ja 146 35)) 169 c' (Ja 146 36)) c' n 169 c' = Ja 146 36 := by
          unfold kpJ uJ
          rw [if_neg (by omega), if_neg (by omega), if_pos ⟨rfl, rfl⟩]
        rw [f1, f2]
        exact v3
      · unfold kpI uI
        rw [if_pos ⟨rfl, by omega, by omega⟩, if_neg (by omega), if_neg (by omega), show 7 * c' + p - 7 * c' = p by omega]
        exact v4 p hp
      · have hl := hE.2.2.1.1 i (by have := hE.2.1; omega)
        have f1 : kpJ (uJ (uJ Ja 168 c' (Ja 146 35)) 169 c' (Ja 146 36)) c' n 166 (7 * c' + ln i) = Ja 161 (ln i) := by
          unfold kpJ uJ
          rw [if_pos ⟨rfl, by omega, by omega⟩, if_neg (by omega), if_neg (by omega), show 7 * c' + ln i - 7 * c' = ln i by omega]
        have f2 : kpJ (uJ (uJ Ja 168 c' (Ja 146 35)) 169 c' (Ja 146 36)) c' n 167 (7 * c' + ln i) = Ja 162 (ln i) := by
          unfold kpJ uJ
          rw [if_neg (by omega), if_pos ⟨rfl, by omega, by omega⟩, if_neg (by omega), if_neg (by omega), show 7 * c' + ln i - 7 * c' = ln i by omega]
        rw [f1, f2]
        exact v5 i hi
    · have n7 := hK.n7
      have A1 : ∀ k, k ≠ c → kpI (uI (uI Ia 163 c (nI e)) 164 c (Ia 146 30)) c n 163 k = I 163 k := fun k a => by
        unfold kpI uI
        rw [if_neg (by omega), if_neg (by omega), if_neg (by omega)]
        exact g _ _ (by omega)
      have A2 : ∀ k, k ≠ c → kpI (uI (uI Ia 163 c (nI e)) 164 c (Ia 146 30)) c n 164 k = I 164 k := fun k a => by
        unfold kpI uI
        rw [if_neg (by omega), if_neg (by omega), if_neg (by omega)]
        exact g _ _ (by omega)
      have A3 : ∀ k, ¬ (7 * c ≤ k ∧ k < 7 * c + n) → kpI (uI (uI Ia 163 c (nI e)) 164 c (Ia 146 30)) c n 165 k = I 165 k := fun k a => by
        unfold kpI uI
        rw [if_neg (by omega), if_neg (by omega), if_neg (by omega)]
        exact g _ _ (by omega)
      have A4 : ∀ x k, ¬ ((x = 168 ∨ x = 169) ∧ k = c) → ¬ ((x = 166 ∨ x = 167) ∧ 7 * c ≤ k ∧ k < 7 * c + n) → 146 ≤ x → kpJ (uJ (uJ Ja 168 c (Ja 146 35)) 169 c (Ja 146 36)) c n x k = J x k := fun x k a1 a2 a3 => by
        unfold kpJ uJ
        rw [if_neg (by omega), if_neg (by omega), if_neg (by omega), if_neg (by omega)]
        exact gj _ _ (by omega)
      exact KeI.congr2 hK.n7 hc' (fun x k a => (b1 x k (by omega)).trans (g x k (by omega))) (fun x k a => (b2 x k (by omega)).trans (gj x k (by omega))) (A1 _ hcc) (A2 _ hcc) (fun p hp => A3 _ (by omega)) (A4 _ _ (by omega) (by omega) (by omega)) (A4 _ _ (by omega) (by omega) (by omega)) (fun p hp => A4 _ _ (by omega) (by omega) (by omega)) (fun p hp => A4 _ _ (by omega) (by omega) (by omega)) (hP.2.2.1 c' hc')
theorem p_on {I : IntM} {J : LngM} (h : Inv I J) (x : Int32) : Pair 4 m_X10_on [.ref 0, .int x] 2 m_X11_on [.ref 146, .int x] I J := by
  obtain ⟨n, kd, nd, od, lw, pot, hP, hK, hM⟩ := h.K
  by_cases hx : hasC 3 x = 0
  · exact Pair.q h (fun _ => no_f) (c_on0 I J hK hx) (fun I1 J1 e1 e2 => m_on0 I1 J1 hx)
  obtain ⟨c, hc, rfl⟩ := hasN_yes (by decide) hx
  have hz1 := (hP.2.2.1 c hc).z
  have hz2 : EZ I 15 := hP.2.2.2.2.2.2.2.2
  rcases (hP.2.2.1 c hc).2 with ⟨ht, hm1⟩ | ⟨ht, h0, how, e, ln, gr, te, hE, hC, hV⟩
  · exact Pair.q h (fun f9 h9 => by cases h9; decide) (c_on1 I J hK hc ht) (fun I1 J1 e1 e2 => m_on1 I1 J1 hc (by rw [e1 _ _ (by omega)]; exact hm1))
  have hc2 := c_on2 I J hc ht hC.2.1 hz1 hz2
  have g : ∀ x k, ¬ (15 ≤ x ∧ x ≤ 19) → lkI I 15 (131 + 5 * c) x k = I x k := fun x k a => lkI_ne (by omega) (by omega)
  have g2 : ∀ x k, x ≠ 15 → x ≠ 17 → lkI I 15 (131 + 5 * c) x k = I x k := fun x k a b => lkI_ne (by omega) (by omega)
  have gj : ∀ x k, ¬ (15 ≤ x ∧ x ≤ 19) → lkJ J 15 (131 + 5 * c) x k = J x k := fun x k a => lkJ_ne (by omega) (by omega)
  have hvC := lk_ev (x := 15) hK.n7 (by omega) hE hC
  generalize lkI I 15 (131 + 5 * c) = Ia at *
  generalize lkJ J 15 (131 + 5 * c) = Ja at *
  obtain ⟨v1, v2, v3, v4, v5⟩ := id hV
  have w1 : Ia 163 c = nI e := by rw [g _ _ (by omega)]; exact v1
  have hm := m_on2 Ia Ja (hM Ia (fun x k hx => g x k (by omega))) hc (by rw [w1]; exact nI_pos' (by have := hE.2.1; have := hK.n7; omega))
  rw [w1] at hm
  refine Pair.m hc2 hm ?_
  have b1 : ∀ x k, ¬ (x = 146 ∧ (k = 30 ∨ k = 32)) → x ≠ 160 → ocI (uI (uI Ia 146 32 (nI e)) 146 30 (Ia 164 c)) c n x k = Ia x k := fun x k a b => by
    unfold ocI uI
    rw [if_neg (by omega), if_neg (by omega), if_neg (by omega)]
  have b2 : ∀ x k, ¬ (x = 146 ∧ (k = 35 ∨ k = 36)) → ¬ (161 ≤ x ∧ x ≤ 162) → ocJ (uJ (uJ Ja 146 35 (Ja 168 c)) 146 36 (Ja 169 c)) c n x k = Ja x k := fun x k a b => by
    unfold ocJ uJ
    rw [if_neg (by omega), if_neg (by omega), if_neg (by omega), if_neg (by omega)]
  refine Inv.ev hP hK.Z (fun x k a1 a2 a3 a4 => (b1 x k (by omega) a4).trans (g2 x k (by omega) (by omega))) (fun x k a1 a2 a3 a4 a5 => (b2 x k (by omega) a5).trans (gj x k (by omega))) ⟨how, e, ln, gr, te, hE, EvC.congr (fun k hk => b1 _ _ (by omega) (by omega)) (fun k => b1 _ _ (by omega) (by omega)) (b2 _ _ (by omega) (by omega)) (fun k => b2 _ _ (by omega) (by omega)) hvC, ?_, ?_, ?_, fun p hp => ?_, fun i hi => ?_⟩ ⟨?_, ?_, ?_⟩
  · unfold ocI uI
    rw [if_neg (by omega), if_pos ⟨rfl, rfl⟩, g _ _ (by omega)]
    exact v2
  · unfold ocI uI
    rw [if_neg (by omega), if_neg (by omega), if_pos ⟨rfl, rfl⟩]
  · have f1 : ocJ (uJ (uJ Ja 146 35 (Ja 168 c)) 146 36 (Ja 169 c)) c n 146 35 = J 168 c := by
      unfold ocJ uJ
      rw [if_neg (by omega), if_neg (by omega), if_neg (by omega), if_pos ⟨rfl, rfl⟩]
      exact gj _ _ (by omega)
    have f2 : ocJ (uJ (uJ Ja 146 35 (Ja 168 c)) 146 36 (Ja 169 c)) c n 146 36 = J 169 c := by
      unfold ocJ uJ
      rw [if_neg (by omega), if_neg (by omega), if_pos ⟨rfl, rfl⟩]
      exact gj _ _ (by omega)
    rw [f1, f2]
    exact v3
  · unfold ocI uI
    rw [if_pos ⟨rfl, hp⟩, if_neg (by omega), if_neg (by omega), g _ _ (by omega)]
    exact v4 p hp
  · have hl := hE.2.2.1.1 i (by have := hE.2.1; omega)
    have f1 : ocJ (uJ (uJ Ja 146 35 (Ja 168 c)) 146 36 (Ja 169 c)) c n 161 (ln i) = J 166 (7 * c + ln i) := by
      unfold ocJ uJ
      rw [if_pos ⟨rfl, hl⟩, if_neg (by omega), if_neg (by omega)]
      exact gj _ _ (by omega)
    have f2 : ocJ (uJ (uJ Ja 146 35 (Ja 168 c)) 146 36 (Ja 169 c)) c n 162 (ln i) = J 167 (7 * c + ln i) := by
      unfold ocJ uJ
      rw [if_neg (by omega), if_pos ⟨rfl, hl⟩, if_neg (by omega), if_neg (by omega)]
      exact gj _ _ (by omega)
    rw [f1, f2]
    exact v5 i hi
  · rw [b1 _ _ (by omega) (by omega), b1 _ _ (by omega) (by omega), g2 _ _ (by omega) (by omega), g2 _ _ (by omega) (by omega)]
    exact h.2.1.1
  · rw [b2 _ _ (by omega) (by omega), b2 _ _ (by omega) (by omega), gj _ _ (by omega), gj _ _ (by omega)]
    exact h.2.1.2.1
  · rw [b2 _ _ (by omega) (by omega), b2 _ _ (by omega) (by omega), gj _ _ (by omega), gj _ _ (by omega)]
    exact h.2.1.2.2


/-! ===== a row that comes anew ===== -/
def RowC (I : IntM) (J : LngM) (r n : Nat) (F : Nat → Int32) (I1 : IntM) (J1 : LngM) : Prop := (∀ x k, ¬ (x = 3 ∨ x = 5 ∨ x = 7 ∨ (21 ≤ x ∧ x ≤ 109)) → ¬ (x = 111 + 2 * r ∨ x = 111 + 2 * r + 1) → I1 x k = I x k) ∧ (∀ x k, ¬ (21 ≤ x ∧ x ≤ 109) → J1 x k = J x k) ∧ ISz I1 ∧ I1 (111 + 2 * r) 1 = nI n ∧ ∀ k, k < n → I1 (111 + 2 * r + 1) k = F k
def RowM (I : IntM) (J : LngM) (r n : Nat) (F : Nat → Int32) (I1 : IntM) (J1 : LngM) : Prop := (∀ x k, pI x k ∨ x ≤ 145 ∨ (x = 146 ∧ k = 2) → ¬ (x = 148 ∧ k = r) → ¬ (x = 149 ∧ 60 * r ≤ k ∧ k < 60 * r + 60) → I1 x k = I x k) ∧ (∀ x k, pJ x k ∨ x ≤ 145 ∨ (x = 146 ∧ (k = 3 ∨ k = 4)) → J1 x k = J x k) ∧ I1 148 r = nI n ∧ ∀ k, k < n → I1 149 (60 * r + k) = F k
theorem Inv.rt3 {I I2 : IntM} {J J2 : LngM} (h : Inv I J) (hI : ∀ x k, pI x k → ¬ (111 ≤ x ∧ x ≤ 130) → ¬ (148 ≤ x ∧ x ≤ 151) → I2 x k = I x k) (hJ : ∀ x k, pJ x k → J2 x k = J x k) (hR : RoI I2 111 148 149 6) (hT : RoI I2 123 150 151 4) (ht : ToI I2 J2) (hZ : ISz I2) : Inv I2 J2 := by
  obtain ⟨⟨n, kd, nd, od, lw, pot, h1, h2, h3, h4, h5, h6, h7, h8, h9⟩, hTo, hZo⟩ := h
  exact ⟨⟨n, kd, nd, od, lw, pot, CoI.congr (fun x k q => hI x k (by unfold pI; omega) (by omega) (by omega)) h1, EvI.congr (fun x k q => hI x k (by unfold pI; omega) (by omega) (by omega)) (fun x k q => hJ x k (by unfold pJ; omega)) h2,
    fun c hc => KeI.congr h1.1.1 hc (fun x k q => hI x k (by unfold pI; omega) (by omega) (by omega)) (fun x k q => hJ x k (by unfold pJ; omega)) (h3 c hc), hR, hT, FiI.congr (fun x k q => hI x k (by unfold pI; omega) (by omega) (by omega)) h6,
    by rw [hI _ _ (by unfold pI; omega) (by omega) (by omega)]; exact h7, by rw [hI _ _ (by unfold pI; omega) (by omega) (by omega)]; exact h8, by rw [hI _ _ (by unfold pI; omega) (by omega) (by omega)]; exact h9⟩, ht, hZ⟩
theorem Pair.row {d1 d2 : Nat} {m1 m2 : Mth} {as1 as2 : List Value} {I : IntM} {J : LngM} {v : Value} {r n : Nat} {F : Nat → Int32} (h : Inv I J) (hr : r < 6) (hn : n ≤ 60) (hc : CtP d1 m1 as1 I J (fun q I1 J1 => q = some v ∧ RowC I J r n F I1 J1)) (hm : ∀ I1 J1, (∀ x k, 146 ≤ x → I1 x k = I x k) → (∀ x k, 146 ≤ x → J1 x k = J x k) → CtP d2 m2 as2 I1 J1 (fun q I2 J2 => q = some v ∧ RowM I1 J1 r n F I2 J2)) (hv : KV m1 v := by first | exact (show ∃ z : Int32, _ = Value.int z from ⟨_, rfl⟩) | exact (show ∃ z : Int64, _ = Value.long z from ⟨_, rfl⟩)) : Pair d1 m1 as1 d2 m2 as2 I J := by
  refine ⟨v, hv, CtP_mono hc (fun q I1 J1 z => ⟨z.1, ?_⟩)⟩
  obtain ⟨rfl, c1, c2, c3, c4, c5⟩ := z
  refine CtP_mono (hm I1 J1 (fun x k hx => c1 x k (by omega) (by omega)) (fun x k hx => c2 x k (by omega))) (fun q' I2 J2 z => ⟨z.1, ?_⟩)
  obtain ⟨rfl, m1, m2, m4, m5⟩ := z
  have key : ∀ x k, pI x k → ¬ (x = 148 ∧ k = r) → ¬ (x = 149 ∧ 60 * r ≤ k ∧ k < 60 * r + 60) → ¬ (x = 111 + 2 * r ∨ x = 111 + 2 * r + 1) → I2 x k = I x k := fun x k hp h1 h2 h3 => by
    rw [m1 x k (Or.inl hp) h1 h2]
    exact c1 x k (by unfold pI at hp; omega) h3
  obtain ⟨⟨n', kd, nd, od, lw, pot, -, -, -, hR, hT, -⟩, hTo, -⟩ := id h
  refine Inv.rt3 h (fun x k hp h1 h2 => key x k hp (by omega) (by omega) (by omega)) (fun x k hp => by rw [m2 x k (Or.inl hp)]; exact c2 x k (by unfold pJ at hp; omega)) ?_ ?_ ⟨?_, ?_, ?_⟩ ?_
  · refine RoI.up hR (fun q hq hqr => ⟨key _ _ (by unfold pI; omega) (by omega) (by omega) (by omega), key _ _ (by unfold pI; omega) (by omega) (by omega) (by omega), fun i hi => ⟨key _ _ (by unfold pI; omega) (by omega) (by omega) (by omega), key _ _ (by unfold pI; omega) (by omega) (by omega) (by omega)⟩⟩) ⟨?_, Or.inr ⟨n, hn, m4, fun i hi => ?_⟩⟩
    · rw [m1 _ _ (Or.inr (Or.inl (by omega))) (by omega) (by omega), c4, m4]
    · rw [m1 _ _ (Or.inr (Or.inl (by omega))) (by omega) (by omega), c5 i hi, m5 i hi]
  · exact RoI.congr (fun x k q => key x k (by unfold pI; omega) (by omega) (by omega) (by omega)) hT
  · rw [m1 _ _ (Or.inr (Or.inl (by decide))) (by omega) (by omega), c1 _ _ (by decide) (by omega), m1 _ _ (Or.inr (Or.inr ⟨rfl, rfl⟩)) (by omega) (by omega), c1 _ _ (by decide) (by omega)]
    exact hTo.1
  · rw [m2 _ _ (Or.inr (Or.inl (by decide))), c2 _ _ (by decide), m2 _ _ (Or.inr (Or.inr ⟨rfl, Or.inl rfl⟩)), c2 _ _ (by decide)]
    exact hTo.2.1
  · rw [m2 _ _ (Or.inr (Or.inl (by decide))), c2 _ _ (by decide), m2 _ _ (Or.inr (Or.inr ⟨rfl, Or.inr rfl⟩)), c2 _ _ (by decide)]
    exact hTo.2.2
  · exact ISz.congr (fun x k hx => m1 x k (Or.inr (Or.inl (by omega))) (by omega) (by omega)) c3
/-! ===== best ===== -/
theorem be_nn {kd nd : Nat → Nat} {lw how n : Nat} (h : (beT kd nd lw how n).1 ≤ 999) : nI (if (beT kd nd lw how n).1 = 1000 then 0 else (beT kd nd lw how n).1) = nI (beT kd nd lw how n).1 := by
  rw [if_neg (by omega)]

set_option maxRecDepth 100000 in
set_option maxHeartbeats 4000000 in
theorem c_best0 (I : IntM) (J : LngM) {n : Nat} {kd nd od : Nat → Nat} {lw pot : Nat} (hK : CK I n kd nd od lw pot) {x y : Int32} (h : hasC 6 y = 0) : CtP 7 m_X10_best [.ref 0, .int x, .int y] I J (QC I J (.int (-1)) none none none) := by
  refine CtP_of (by decide) rfl (Nat.le_of_ble_eq_true rfl) ?_
  refine V_al i_X10_best_0 rfl ?_
  refine V_getR i_X10_best_1 rfl rfl ?_
  refine V_il i_X10_best_4 rfl ?_
  refine P_callS2v i_X10_best_5 ms_X10_pick (by decide) (Nat.le_of_ble_eq_true rfl) (c_pick0 _ _ rfl (by decide) h) ?_
  refine V_asN (L' := [(0, _), (1, _), (3, _)]) i_X10_best_8 (by decide) ⟨rfl, rfl, rfl, trivial⟩ ?_
  refine V_alN i_X10_best_9 rfl ?_
  refine V_ifnullN i_X10_best_10 ?_
  refine V_c i_X10_best_20 ?_
  exact P_iret i_X10_best_21 rfl ⟨rfl, I, J, FrC.rf, hK.Z, rfl, rfl⟩
set_option maxRecDepth 100000 in
set_option maxHeartbeats 4000000 in
theorem c_best1 (I : IntM) (J : LngM) {n : Nat} {kd nd od : Nat → Nat} {lw pot : Nat} (hK : CK I n kd nd od lw pot) {x : Int32} {r : Nat} (hr : r < 6) (h : howv x = 0) : CtP 7 m_X10_best [.ref 0, .int x, .int (nI r)] I J (QC I J (.int (-1)) none none none) := by
  refine CtP_of (by decide) rfl (Nat.le_of_ble_eq_true rfl) ?_
  refine V_al i_X10_best_0 rfl ?_
  refine V_getR i_X10_best_1 rfl rfl ?_
  refine V_il i_X10_best_4 rfl ?_
  refine P_callS2v i_X10_best_5 ms_X10_pick (by decide) (Nat.le_of_ble_eq_true rfl) (c_pick _ _ rfl (by decide) hr (RF_row hr)) ?_
  refine V_as (L' := [(0, _), (1, _), (3, _)]) i_X10_best_8 (by decide) ⟨rfl, rfl, rfl, trivial⟩ ?_
  refine V_al i_X10_best_9 rfl ?_
  refine V_ifnull i_X10_best_10 ?_
  refine V_il i_X10_best_13 rfl ?_
  refine P_callS1v i_X10_best_14 ms_X10_isHow (by decide) (Nat.le_of_ble_eq_true rfl) (c_isHow _ _ _) ?_
  refine V_if_ne_f i_X10_best_17 h ?_
  refine V_c i_X10_best_20 ?_
  exact P_iret i_X10_best_21 rfl ⟨rfl, I, J, FrC.rf, hK.Z, rfl, rfl⟩
set_option maxRecDepth 100000 in
set_option maxHeartbeats 4000000 in
theorem c_best2 (I : IntM) (J : LngM) {n : Nat} {kd nd od : Nat → Nat} {lw pot : Nat} (hK : CK I n kd nd od lw pot) {how r : Nat} (hr : r < 6) (hh : how ≤ 1) (h0 : n = 0) : CtP 7 m_X10_best [.ref 0, .int (nI how), .int (nI r)] I J (QC I J (.int (-4)) none none none) := by
  refine CtP_of (by decide) rfl (Nat.le_of_ble_eq_true rfl) ?_
  refine V_al i_X10_best_0 rfl ?_
  refine V_getR i_X10_best_1 rfl rfl ?_
  refine V_il i_X10_best_4 rfl ?_
  refine P_callS2v i_X10_best_5 ms_X10_pick (by decide) (Nat.le_of_ble_eq_true rfl) (c_pick _ _ rfl (by decide) hr (RF_row hr)) ?_
  refine V_as (L' := [(0, _), (1, _), (3, _)]) i_X10_best_8 (by decide) ⟨rfl, rfl, rfl, trivial⟩ ?_
  refine V_al i_X10_best_9 rfl ?_
  refine V_ifnull i_X10_best_10 ?_
  refine V_il i_X10_best_13 rfl ?_
  refine P_callS1v i_X10_best_14 ms_X10_isHow (by decide) (Nat.le_of_ble_eq_true rfl) (c_isHow _ _ _) ?_
  refine V_if_ne_t i_X10_best_17 (by rw [howv_nI hh]; decide) ?_
  refine V_al i_X10_best_22 rfl ?_
  refine V_getR i_X10_best_23 rfl rfl ?_
  refine V_getI i_X10_best_26 rfl ?_
  refine V_if_ne_f i_X10_best_29 (by rw [hK.sz, h0]; rfl) ?_
  refine V_c i_X10_best_32 ?_
  exact P_iret i_X10_best_34 rfl ⟨rfl, I, J, FrC.rf, hK.Z, rfl, rfl⟩
set_option maxRecDepth 100000 in
set_option maxHeartbeats 4000000 in
theorem c_best3 (I : IntM) (J : LngM) {n : Nat} {kd nd od : Nat → Nat} {lw pot : Nat} (hK : CK I n kd nd od lw pot) {how r : Nat} (hr : r < 6) (hh : how ≤ 1) (h0 : 0 < n) (hw : (beT kd nd lw how n).1 = 1000) : CtP 7 m_X10_best [.ref 0, .int (nI how), .int (nI r)] I J (QC I J (.int (-9)) none none none) := by
  refine CtP_of (by decide) rfl (Nat.le_of_ble_eq_true rfl) ?_
  refine V_al i_X10_best_0 rfl ?_
  refine V_getR i_X10_best_1 rfl rfl ?_
  refine V_il i_X10_best_4 rfl ?_
  refine P_callS2v i_X10_best_5 ms_X10_pick (by decide) (Nat.le_of_ble_eq_true rfl) (c_pick _ _ rfl (by decide) hr (RF_row hr)) ?_
  refine V_as (L' := [(0, _), (1, _), (3, _)]) i_X10_best_8 (by decide) ⟨rfl, rfl, rfl, trivial⟩ ?_
  refine V_al i_X10_best_9 rfl ?_
  refine V_ifnull i_X10_best_10 ?_
  refine V_il i_X10_best_13 rfl ?_
  refine P_callS1v i_X10_best_14 ms_X10_isHow (by decide) (Nat.le_of_ble_eq_true rfl) (c_isHow _ _ _) ?_
  refine V_if_ne_t i_X10_best_17 (by rw [howv_nI hh]; decide) ?_
  refine V_al i_X10_best_22 rfl ?_
  refine V_getR i_X10_best_23 rfl rfl ?_
  refine V_getI i_X10_best_26 rfl ?_
  refine V_if_ne_t i_X10_best_29 (by rw [hK.sz]; exact nI_ne0 h0 (by have := hK.n7; omega)) ?_
  refine V_al i_X10_best_35 rfl ?_
  refine V_getR i_X10_best_36 rfl rfl ?_
  refine V_al i_X10_best_39 rfl ?_
  refine V_getR i_X10_best_40 rfl rfl ?_
  refine V_il i_X10_best_43 rfl ?_
  refine P_callV2 i_X10_best_44 mi_X5_leastOfOrders rfl ⟨_, _, rfl⟩ (by decide) (Nat.le_of_ble_eq_true rfl) (c_lo I J hK h0 hh) (fun r9 I1 J1 q => ?_)
  obtain ⟨rfl, c1, k1, a1⟩ := q
  refine V_is (L' := [(0, _), (3, _), (4, _)]) i_X10_best_47 (by decide) ⟨rfl, rfl, rfl, trivial⟩ ?_
  refine V_il i_X10_best_49 rfl ?_
  refine V_if_eq_t i_X10_best_51 (by rw [if_pos hw]; rfl) ?_
  refine V_il i_X10_best_86 rfl ?_
  rw [if_pos hw]
  refine P_callS1v i_X10_best_88 ms_X10_noneIfNought (by decide) (Nat.le_of_ble_eq_true rfl) (c_noneIf _ _ _) ?_
  exact P_iret i_X10_best_91 rfl ⟨rfl, I1, J1, c1, k1.Z, rfl, rfl⟩
set_option maxRecDepth 100000 in
set_option maxHeartbeats 4000000 in
theorem c_best4 (I : IntM) (J : LngM) {n : Nat} {kd nd od : Nat → Nat} {lw pot : Nat} (hK : CK I n kd nd od lw pot) {how r : Nat} (hr : r < 6) (hh : how ≤ 1) (h0 : 0 < n) (hw : (beT kd nd lw how n).1 ≤ 999) : CtP 7 m_X10_best [.ref 0, .int (nI how), .int (nI r)] I J (fun q I1 J1 => q = some (.int (nI (beT kd nd lw how n).1)) ∧ RowC I J r n (fun k => nI ((beT kd nd lw how n).2 k)) I1 J1) := by
  refine CtP_of (by decide) rfl (Nat.le_of_ble_eq_true rfl) ?_
  refine V_al i_X10_best_0 rfl ?_
  refine V_getR i_X10_best_1 rfl rfl ?_
  refine V_il i_X10_best_4 rfl ?_
  refine P_callS2v i_X10_best_5 ms_X10_pick (by decide) (Nat.le_of_ble_eq_true rfl) (c_pick _ _ rfl (by decide) hr (RF_row hr)) ?_
  refine V_as (L' := [(0, _), (1, _), (3, _)]) i_X10_best_8 (by decide) ⟨rfl, rfl, rfl, trivial⟩ ?_
  refine V_al i_X10_best_9 rfl ?_
  refine V_ifnull i_X10_best_10 ?_
  refine V_il i_X10_best_13 rfl ?_
  refine P_callS1v i_X10_best_14 ms_X10_isHow (by decide) (Nat.le_of_ble_eq_true rfl) (c_isHow _ _ _) ?_
  refine V_if_ne_t i_X10_best_17 (by rw [howv_nI hh]; decide) ?_
  refine V_al i_X10_best_22 rfl ?_
  refine V_getR i_X10_best_23 rfl rfl ?_
  refine V_getI i_X10_best_26 rfl ?_
  refine V_if_ne_t i_X10_best_29 (by rw [hK.sz]; exact nI_ne0 h0 (by have := hK.n7; omega)) ?_
  refine V_al i_X10_best_35 rfl ?_
  refine V_getR i_X10_best_36 rfl rfl ?_
  refine V_al i_X10_best_39 rfl ?_
  refine V_getR i_X10_best_40 rfl rfl ?_
  refine V_il i_X10_best_43 rfl ?_
  refine P_callV2 i_X10_best_44 mi_X5_leastOfOrders rfl ⟨_, _, rfl⟩ (by decide) (Nat.le_of_ble_eq_true rfl) (c_lo I J hK h0 hh) (fun r9 I1 J1 q => ?_)
  obtain ⟨rfl, c1, k1, a1⟩ := q
  refine V_is (L' := [(0, _), (3, _), (4, _)]) i_X10_best_47 (by decide) ⟨rfl, rfl, rfl, trivial⟩ ?_
  refine V_il i_X10_best_49 rfl ?_
  refine V_if_eq_f i_X10_best_51 (by rw [be_nn hw]; exact nI_ne0 (beT_b kd nd lw how n).1 (by omega)) ?_
  refine V_al i_X10_best_54 rfl ?_
  refine V_al i_X10_best_55 rfl ?_
  refine V_getR i_X10_best_56 rfl rfl ?_
  refine V_getI i_X10_best_59 rfl ?_
  rw [k1.sz]
  refine V_c i_X10_best_62 ?_
  refine P_callV2u i_X10_best_63 mi_X3_reset (LI_row hr).1 ⟨_, _, rfl⟩ (by decide) (Nat.le_of_ble_eq_true rfl) (c_I_reset _ _ (LI_row hr) (by have := hK.n7; omega) 0) ?_
  obtain ⟨I2, hI2⟩ : ∃ x, x = fillI (uI I1 (111 + 2 * r) 1 (nI n)) (111 + 2 * r + 1) n 0 := ⟨_, rfl⟩
  rw [← hI2]
  have x2 : ∀ x k, ¬ (x = 111 + 2 * r ∨ x = 111 + 2 * r + 1) → I2 x k = I1 x k := fun x k h => by
    rw [hI2]
    unfold fillI uI
    rw [if_neg (by omega), if_neg (by omega)]
  have z2 : I2 (111 + 2 * r) 1 = nI n := by
    rw [hI2]
    unfold fillI
    rw [if_neg (by omega), uI_eq]
  have k2 : CK I2 n kd nd od lw pot := CK.fr (fun x k q => x2 x k (by omega)) (ISz.congr (fun x k q => x2 x k (by omega)) k1.Z) k1
  refine V_al i_X10_best_66 rfl ?_
  refine V_getR i_X10_best_67 rfl rfl ?_
  refine V_getR i_X10_best_70 rfl rfl ?_
  refine V_al i_X10_best_73 rfl ?_
  refine V_c i_X10_best_74 ?_
  refine V_c i_X10_best_75 ?_
  refine V_al i_X10_best_76 rfl ?_
  refine V_getR i_X10_best_77 rfl rfl ?_
  refine V_getI i_X10_best_80 rfl ?_
  rw [k2.sz]
  refine P_callV4u i_X10_best_83 mi_X3_moveTo rfl ⟨_, _, rfl⟩ (by decide) (Nat.le_of_ble_eq_true rfl) (c_I_moveTo I2 J1 (x := 74) (n := 7) (y := 111 + 2 * r) (n2 := 60) (s := 7) (t := n) (a := 0) (b := 0) (c := n) ⟨rfl, rfl, rfl, by decide⟩ (LI_row hr) k2.Z.2.2.2.2.2.2.1 z2 (by decide) (by have := hK.n7; omega) (by have := hK.n7; omega) (by omega)) ?_
  refine V_il i_X10_best_86 rfl ?_
  rw [be_nn hw]
  refine P_callS1v i_X10_best_88 ms_X10_noneIfNought (by decide) (Nat.le_of_ble_eq_true rfl) (c_noneIf _ _ _) ?_
  exact P_iret i_X10_best_91 rfl ⟨congrArg (fun z => some (Value.int z)) (nnI_pos (beT_b kd nd lw how n).1 (by omega)), fun x k h1 h2 => by
    unfold cpI
    rw [if_neg (by omega), x2 x k h2]
    exact c1.1 x k h1, fun x k h1 => c1.2 x k h1, ISz.congr (fun x k q => by
      unfold cpI
      rw [if_neg (by omega)]) k2.Z, by
    unfold cpI
    rw [if_neg (by omega)]
    exact z2, fun k hk => by
    unfold cpI
    rw [if_pos ⟨rfl, Nat.zero_le _, by omega⟩, show 0 + (k - 0) = k by omega]
    show I2 75 k = _
    rw [x2 _ _ (by omega)]
    exact a1 hw k hk⟩
set_option maxRecDepth 100000 in
set_option maxHeartbeats 4000000 in
theorem lp_M_en (I : IntM) (J : LngM) {n : Nat} {kd nd od : Nat → Nat} {lw pot : Nat} (hK : MK I n kd nd od lw pot) {how p : Nat} (h1 : 1 ≤ n) (hh : how ≤ 1) (hp : p ≤ 999) {T : Option (Nat → Nat)} (Q : Option Value → IntM → LngM → Prop) (hq : ∀ I1 J1, FrM I J I1 J1 → (∀ g, T = some g → AtI I1 157 n g) → Q (some (.int (if T = none then 0 else 1))) I1 J1) : ∀ k f, ends n k f → Pm n f → fsC n (fun g => fdB kd nd lw how g n 1 p) k f = T → ∀ I1 J1, FrM I J I1 J1 → AtI I1 157 n f → VP m_X11_isEnough 7 6 [(0, .ref 146), (1, .int (nI how)), (2, .int (nI p)), (3, .int 1)] [] I1 J1 Q := by
  intro k
  induction k with
  | zero => intro f he; exact he.elim
  | succ k ih =>
    intro f he hPf hT I1 J1 f1 hA
    have k1 := FrM.K f1 hK
    refine V_il i_X11_isEnough_6 rfl ?_
    refine V_if_eq_f i_X11_isEnough_7 (by decide) ?_
    refine V_al i_X11_isEnough_10 rfl ?_
    refine V_il i_X11_isEnough_11 rfl ?_
    refine V_il i_X11_isEnough_12 rfl ?_
    refine V_al i_X11_isEnough_13 rfl ?_
    refine V_getI i_X11_isEnough_14 rfl ?_
    rw [k1.lw]
    refine V_c i_X11_isEnough_17 ?_
    refine P_callV4 i_X11_isEnough_18 mi_X11_goes rfl ⟨_, _, rfl⟩ (by decide) (Nat.le_of_ble_eq_true rfl) (m_goes0 I1 J1 k1 hh k1.l3 hp hA hPf) (fun r Ix J2 q => ?_)
    obtain ⟨rfl, rfl, j2, g2⟩ := q
    have f2 := FrM.tr f1 (FrJ.M I1 j2)
    refine V_al i_X11_isEnough_21 rfl ?_
    refine P_callV0v i_X11_isEnough_22 mi_X11_areAllFed rfl ⟨_, _, rfl⟩ (by decide) (Nat.le_of_ble_eq_true rfl) (m_allfed I1 J2 k1 hp g2) ?_
    refine V_if_eq i_X11_isEnough_25 (fun c25 => ?_) (fun c25 => ?_)
    · have d1 : ¬ fdB kd nd lw how f n 1 p = true := fun z => no01 c25 ((allF_1 hK.n7).mpr (fdB_iff.mp z))
      refine V_al i_X11_isEnough_30 rfl ?_
      refine P_callV0 i_X11_isEnough_31 mi_X11_nextSeats rfl ⟨_, _, rfl⟩ (by decide) (Nat.le_of_ble_eq_true rfl) (m_next I1 J2 k1 h1 hA hPf) (fun r I3 J3 q => ?_)
      rcases nx_or n f with hx | ⟨z, hx⟩
      · rw [hx] at q
        obtain ⟨rfl, f3, rfl⟩ := q
        refine V_is (L' := [(0, _), (1, _), (2, _), (3, _)]) i_X11_isEnough_34 (by decide) ⟨rfl, rfl, rfl, rfl, trivial⟩ ?_
        refine V_goto i_X11_isEnough_35 ?_
        refine V_L (L' := [(0, _), (1, _), (2, _), (3, _)]) ⟨rfl, rfl, rfl, rfl, trivial⟩ ?_
        rw [fsC_n (P := (fun g => fdB kd nd lw how g n 1 p)) d1 hx] at hT
        refine V_il i_X11_isEnough_6 rfl ?_
        refine V_if_eq_t i_X11_isEnough_7 rfl ?_
        refine V_c i_X11_isEnough_38 ?_
        exact P_zret i_X11_isEnough_39 rfl (Or.inl rfl) (by have h9 := hq I3 J2 (FrM.tr f2 f3); rw [← hT] at h9; exact h9 (fun g z => by cases z))
      · rw [hx] at q
        obtain ⟨rfl, f3, rfl, a3, hPz⟩ := q
        refine V_is (L' := [(0, _), (1, _), (2, _), (3, _)]) i_X11_isEnough_34 (by decide) ⟨rfl, rfl, rfl, rfl, trivial⟩ ?_
        refine V_goto i_X11_isEnough_35 ?_
        refine V_L (L' := [(0, _), (1, _), (2, _), (3, _)]) ⟨rfl, rfl, rfl, rfl, trivial⟩ ?_
        rw [fsC_s (P := (fun g => fdB kd nd lw how g n 1 p)) d1 hx] at hT
        exact ih z.2 (ends_s he hx) hPz hT I3 J2 (FrM.tr f2 f3) a3
    · have d1 : fdB kd nd lw how f n 1 p = true := fdB_iff.mpr ((allF_1 hK.n7).mp (yes01 c25))
      rw [fsC_t (P := (fun g => fdB kd nd lw how g n 1 p)) d1] at hT
      refine V_c i_X11_isEnough_28 ?_
      exact P_zret i_X11_isEnough_29 rfl (Or.inr rfl) (by have h9 := hq I1 J2 f2; rw [← hT] at h9; exact h9 (fun g z => by cases z; exact hA))
set_option maxRecDepth 100000 in
set_option maxHeartbeats 4000000 in
theorem m_en (I : IntM) (J : LngM) {n : Nat} {kd nd od : Nat → Nat} {lw pot : Nat} (hK : MK I n kd nd od lw pot) {how p : Nat} (h1 : 1 ≤ n) (hh : how ≤ 1) (hp : p ≤ 999) : CtP 7 m_X11_isEnough [.ref 146, .int (nI how), .int (nI p)] I J (fun r I1 J1 => r = some (.int (if (fsC n (fun g => fdB kd nd lw how g n 1 p) 5040 (fun i => i)) = none then 0 else 1)) ∧ FrM I J I1 J1 ∧ ∀ g, (fsC n (fun g => fdB kd nd lw how g n 1 p) 5040 (fun i => i)) = some g → AtI I1 157 n g) := by
  refine CtP_of (by decide) rfl (Nat.le_of_ble_eq_true rfl) ?_
  refine V_al i_X11_isEnough_0 rfl ?_
  refine P_callV0 i_X11_isEnough_1 mi_X11_firstSeats rfl ⟨_, _, rfl⟩ (by decide) (Nat.le_of_ble_eq_true rfl) (m_first I J hK) (fun r I1 Jx q => ?_)
  obtain ⟨rfl, f1, a1, rfl⟩ := q
  refine V_c i_X11_isEnough_4 ?_
  refine V_is (L' := [(0, _), (1, _), (2, _), (3, _)]) i_X11_isEnough_5 (by decide) ⟨rfl, rfl, rfl, rfl, trivial⟩ ?_
  refine V_L (L' := [(0, _), (1, _), (2, _), (3, _)]) ⟨rfl, rfl, rfl, rfl, trivial⟩ ?_
  exact lp_M_en I J hK h1 hh hp (T := (fsC n (fun g => fdB kd nd lw how g n 1 p) 5040 (fun i => i))) _ (fun I2 J2 f2 g2 => ⟨rfl, f2, g2⟩) 5040 (fun i => i) (ends_id h1 hK.n7) (Pm_id n) rfl I1 J f1 a1

theorem fs_P {kd nd : Nat → Nat} {lw how n p : Nat} (hn : n ≤ 7) (h1 : 1 ≤ p) (hp : p ≤ 999) (f : Nat → Nat) : fdB kd nd lw how f n 1 p = true ↔ 1 ≤ loL kd nd lw how n f ∧ loL kd nd lw how n f ≤ p := fdB_iff.trans (leP_iff hn h1 hp)
theorem en_no {kd nd : Nat → Nat} {lw how n p : Nat} (hn : n ≤ 7) (h1 : 1 ≤ p) (hp : p ≤ 999) (h : p < (beT kd nd lw how n).1) : fsC n (fun g => fdB kd nd lw how g n 1 p) 5040 (fun i => i) = none := fzA (fs_P hn h1 hp) 5040 (1000, fun i => i) _ h
theorem en_yes {kd nd : Nat → Nat} {lw how n p : Nat} (hn : n ≤ 7) (h1 : 1 ≤ p) (hp : p ≤ 999) (h : (beT kd nd lw how n).1 ≤ p) : ¬ fsC n (fun g => fdB kd nd lw how g n 1 p) 5040 (fun i => i) = none := fzB (fs_P hn h1 hp) 5040 (1000, fun i => i) _ h (by show (beT kd nd lw how n).1 < 1000; omega)
theorem en_is {kd nd : Nat → Nat} {lw how n : Nat} (hn : n ≤ 7) (h : (beT kd nd lw how n).1 ≤ 999) : fsC n (fun g => fdB kd nd lw how g n 1 (beT kd nd lw how n).1) 5040 (fun i => i) = some (beT kd nd lw how n).2 := fzG (fs_P hn (beT_b kd nd lw how n).1 h) 5040 (1000, fun i => i) _ rfl (by show (beT kd nd lw how n).1 < 1000; omega)

set_option maxRecDepth 100000 in
set_option maxHeartbeats 4000000 in
theorem m_best0 (I : IntM) (J : LngM) {n : Nat} {kd nd od : Nat → Nat} {lw pot : Nat} (hK : MK I n kd nd od lw pot) {x y : Int32} (h : howv x = 0 ∨ hasC 6 y = 0) : CtP 8 m_X11_best [.ref 146, .int x, .int y] I J (QM I J (.int (-1)) none none none) := by
  refine CtP_of (by decide) rfl (Nat.le_of_ble_eq_true rfl) ?_
  refine V_il i_X11_best_0 rfl ?_
  refine P_callS1v i_X11_best_1 ms_X11_isHow (by decide) (Nat.le_of_ble_eq_true rfl) (c_M_isHow _ _ _) ?_
  refine V_if_eq i_X11_best_4 (fun c4 => ?_) (fun c4 => ?_)
  · refine V_c i_X11_best_14 ?_
    exact P_iret i_X11_best_15 rfl ⟨rfl, I, J, FrM.rf, rfl, rfl⟩
  · refine V_il i_X11_best_7 rfl ?_
    refine P_callS1v i_X11_best_8 ms_X11_isRow (by decide) (Nat.le_of_ble_eq_true rfl) (c_M_isRow _ _ _) ?_
    refine V_if_ne_f i_X11_best_11 (by rcases h with h | h; exact absurd h c4; exact h) ?_
    refine V_c i_X11_best_14 ?_
    exact P_iret i_X11_best_15 rfl ⟨rfl, I, J, FrM.rf, rfl, rfl⟩
set_option maxRecDepth 100000 in
set_option maxHeartbeats 4000000 in
theorem m_best2 (I : IntM) (J : LngM) {n : Nat} {kd nd od : Nat → Nat} {lw pot : Nat} (hK : MK I n kd nd od lw pot) {how r : Nat} (hr : r < 6) (hh : how ≤ 1) (h0 : n = 0) : CtP 8 m_X11_best [.ref 146, .int (nI how), .int (nI r)] I J (QM I J (.int (-4)) none none none) := by
  refine CtP_of (by decide) rfl (Nat.le_of_ble_eq_true rfl) ?_
  refine V_il i_X11_best_0 rfl ?_
  refine P_callS1v i_X11_best_1 ms_X11_isHow (by decide) (Nat.le_of_ble_eq_true rfl) (c_M_isHow _ _ _) ?_
  refine V_if_eq_f i_X11_best_4 (by rw [howv_nI hh]; decide) ?_
  refine V_il i_X11_best_7 rfl ?_
  refine P_callS1v i_X11_best_8 ms_X11_isRow (by decide) (Nat.le_of_ble_eq_true rfl) (c_M_isRow _ _ _) ?_
  refine V_if_ne_t i_X11_best_11 (by rw [hasN_nI (by decide) hr]; decide) ?_
  refine V_al i_X11_best_16 rfl ?_
  refine V_getI i_X11_best_17 rfl ?_
  refine V_if_ne_f i_X11_best_20 (by rw [hK.sz, h0]; rfl) ?_
  refine V_c i_X11_best_23 ?_
  exact P_iret i_X11_best_25 rfl ⟨rfl, I, J, FrM.rf, rfl, rfl⟩
set_option maxRecDepth 100000 in
set_option maxHeartbeats 4000000 in
theorem m_best3 (I : IntM) (J : LngM) {n : Nat} {kd nd od : Nat → Nat} {lw pot : Nat} (hK : MK I n kd nd od lw pot) {how r : Nat} (hr : r < 6) (hh : how ≤ 1) (h0 : 0 < n) (hw : (beT kd nd lw how n).1 = 1000) : CtP 8 m_X11_best [.ref 146, .int (nI how), .int (nI r)] I J (QM I J (.int (-9)) none none none) := by
  refine CtP_of (by decide) rfl (Nat.le_of_ble_eq_true rfl) ?_
  refine V_il i_X11_best_0 rfl ?_
  refine P_callS1v i_X11_best_1 ms_X11_isHow (by decide) (Nat.le_of_ble_eq_true rfl) (c_M_isHow _ _ _) ?_
  refine V_if_eq_f i_X11_best_4 (by rw [howv_nI hh]; decide) ?_
  refine V_il i_X11_best_7 rfl ?_
  refine P_callS1v i_X11_best_8 ms_X11_isRow (by decide) (Nat.le_of_ble_eq_true rfl) (c_M_isRow _ _ _) ?_
  refine V_if_ne_t i_X11_best_11 (by rw [hasN_nI (by decide) hr]; decide) ?_
  refine V_al i_X11_best_16 rfl ?_
  refine V_getI i_X11_best_17 rfl ?_
  refine V_if_ne_t i_X11_best_20 (by rw [hK.sz]; exact nI_ne0 h0 (by have := hK.n7; omega)) ?_
  refine V_al i_X11_best_26 rfl ?_
  refine V_il i_X11_best_27 rfl ?_
  refine V_c i_X11_best_28 ?_
  refine P_callV2 i_X11_best_31 mi_X11_isEnough rfl ⟨_, _, rfl⟩ (by decide) (Nat.le_of_ble_eq_true rfl) (m_en (p := 999) I J hK h0 hh (by decide)) (fun r9 I1 J1 q => ?_)
  obtain ⟨rfl, f1, g1⟩ := q
  refine V_if_ne_f i_X11_best_34 (by rw [en_no hK.n7 (by decide) (by decide) (by omega)]; rfl) ?_
  refine V_c i_X11_best_37 ?_
  exact P_iret i_X11_best_39 rfl ⟨rfl, I1, J1, f1, rfl, rfl⟩
set_option maxRecDepth 100000 in
set_option maxHeartbeats 4000000 in
theorem lp_M_best (I : IntM) (J : LngM) {n : Nat} {kd nd od : Nat → Nat} {lw pot : Nat} (hK : MK I n kd nd od lw pot) {how r : Nat} (hh : how ≤ 1) (h0 : 0 < n) (hw : (beT kd nd lw how n).1 ≤ 999) (Q : Option Value → IntM → LngM → Prop) (hq : ∀ I1 J1, FrM I J I1 J1 → VP m_X11_best 8 86 [(0, .ref 146), (1, .int (nI how)), (2, .int (nI r)), (4, .int (nI (beT kd nd lw how n).1))] [] I1 J1 Q) : ∀ d lo hi, hi - lo ≤ d → lo < (beT kd nd lw how n).1 → (beT kd nd lw how n).1 ≤ hi → hi ≤ 999 → ∀ I1 J1, FrM I J I1 J1 → VP m_X11_best 8 47 [(0, .ref 146), (1, .int (nI how)), (2, .int (nI r)), (3, .int (nI lo)), (4, .int (nI hi))] [] I1 J1 Q := by
  intro d
  induction d with
  | zero => intro lo hi hd h1 h2; omega
  | succ d ih =>
    intro lo hi hd h1 h2 h3 I1 J1 f1
    have k1 := FrM.K f1 hK
    have e9 : nI hi - nI lo = nI (hi - lo) := pk_sub (by omega)
    refine V_il i_X11_best_47 rfl ?_
    refine V_il i_X11_best_49 rfl ?_
    refine V_isub i_X11_best_50 ?_
    rw [e9]
    refine V_c i_X11_best_51 ?_
    refine V_ic_le i_X11_best_52 (fun c52 => ?_) (fun c52 => ?_)
    · have d1 : hi - lo ≤ 1 := (nI_leI (a := hi - lo) (b := 1) (by omega) (by decide)).mp c52
      refine V_L (L' := [(0, _), (1, _), (2, _), (4, _)]) ⟨rfl, rfl, rfl, rfl, trivial⟩ ?_
      have h9 := hq I1 J1 f1
      rw [show (beT kd nd lw how n).1 = hi by omega] at h9
      exact h9
    · have d1 : ¬ hi - lo ≤ 1 := fun z => c52 ((nI_leI (a := hi - lo) (b := 1) (by omega) (by decide)).mpr z)
      refine V_il i_X11_best_55 rfl ?_
      refine V_il i_X11_best_56 rfl ?_
      refine V_iadd i_X11_best_58 ?_
      refine V_c i_X11_best_59 ?_
      refine V_idiv i_X11_best_60 (by decide) ?_
      rw [nI_add, show (2 : Int32) = nI 2 from rfl, pk_div (by omega) (by decide) (by decide)]
      refine V_is (L' := [(0, _), (1, _), (2, _), (3, _), (4, _), (5, _)]) i_X11_best_61 (by decide) ⟨rfl, rfl, rfl, rfl, rfl, rfl, trivial⟩ ?_
      refine V_al i_X11_best_63 rfl ?_
      refine V_il i_X11_best_64 rfl ?_
      refine V_il i_X11_best_65 rfl ?_
      refine P_callV2 i_X11_best_67 mi_X11_isEnough rfl ⟨_, _, rfl⟩ (by decide) (Nat.le_of_ble_eq_true rfl) (m_en (p := (lo + hi) / 2) I1 J1 k1 h0 hh (by omega)) (fun r9 I2 J2 q => ?_)
      obtain ⟨rfl, f2, g2⟩ := q
      refine V_if_eq i_X11_best_70 (fun c70 => ?_) (fun c70 => ?_)
      · have d2 : (lo + hi) / 2 < (beT kd nd lw how n).1 := by
          rcases Nat.lt_or_ge ((lo + hi) / 2) (beT kd nd lw how n).1 with z | z
          · exact z
          · rw [if_neg (en_yes hK.n7 (by omega) (by omega) z)] at c70
            exact absurd c70 (by decide)
        refine V_il i_X11_best_80 rfl ?_
        refine V_is (L' := [(0, _), (1, _), (2, _), (3, _), (4, _)]) i_X11_best_82 (by decide) ⟨rfl, rfl, rfl, rfl, rfl, trivial⟩ ?_
        refine V_goto i_X11_best_83 ?_
        refine V_L (L' := [(0, _), (1, _), (2, _), (3, _), (4, _)]) ⟨rfl, rfl, rfl, rfl, rfl, trivial⟩ ?_
        exact ih ((lo + hi) / 2) hi (by omega) d2 h2 h3 I2 J2 (FrM.tr f1 f2)
      · have d2 : (beT kd nd lw how n).1 ≤ (lo + hi) / 2 := by
          rcases Nat.lt_or_ge ((lo + hi) / 2) (beT kd nd lw how n).1 with z | z
          · rw [if_pos (en_no hK.n7 (by omega) (by omega) z)] at c70
            exact absurd rfl c70
          · exact z
        refine V_il i_X11_best_73 rfl ?_
        refine V_is (L' := [(0, _), (1, _), (2, _), (3, _), (4, _)]) i_X11_best_75 (by decide) ⟨rfl, rfl, rfl, rfl, rfl, trivial⟩ ?_
        refine V_goto i_X11_best_77 ?_
        refine V_goto i_X11_best_83 ?_
        refine V_L (L' := [(0, _), (1, _), (2, _), (3, _), (4, _)]) ⟨rfl, rfl, rfl, rfl, rfl, trivial⟩ ?_
        exact ih lo ((lo + hi) / 2) (by omega) h1 d2 (by omega) I2 J2 (FrM.tr f1 f2)
set_option maxRecDepth 100000 in
set_option maxHeartbeats 4000000 in
theorem lp_M_bcp (I : IntM) (J : LngM) {n r : Nat} {G : Nat → Nat} {v : Int32} (hn : n ≤ 7) (hr : r < 6) (hsz : I 146 19 = nI n) (hA : AtI I 157 n G) (Q : Option Value → IntM → LngM → Prop) (hq : ∀ I1 : IntM, (∀ x k, ¬ (x = 149 ∧ 60 * r ≤ k ∧ k < 60 * r + 60) → I1 x k = I x k) → (∀ k, k < n → I1 149 (60 * r + k) = nI (G k)) → Q (some (.int v)) I1 J) : VP m_X11_best 8 107 [(0, .ref 146), (2, .int (nI r)), (4, .int v), (5, .int 1), (6, .int 0)] [] I J Q := by
  have key : ∀ i, i ≤ n → ∀ I1 : IntM, (∀ x k, ¬ (x = 149 ∧ 60 * r ≤ k ∧ k < 60 * r + 60) → I1 x k = I x k) → (∀ k, k < i → I1 149 (60 * r + k) = nI (G k)) → VP m_X11_best 8 107 [(0, .ref 146), (2, .int (nI r)), (4, .int v), (5, .int 1), (6, .int (nI i))] [] I1 J Q := by
    refine down n ?_ (fun i hi ih => ?_)
    · intro I1 fr h1
      refine V_il i_X11_best_107 rfl ?_
      refine V_al i_X11_best_109 rfl ?_
      refine V_getI i_X11_best_110 rfl ?_
      refine V_ic_ge_t i_X11_best_113 (by rw [fr _ _ (by omega), hsz]; exact Int32.le_refl _) ?_
      refine V_il i_X11_best_146 rfl ?_
      exact P_iret i_X11_best_148 rfl (hq I1 fr h1)
    · intro I1 fr h1
      refine V_il i_X11_best_107 rfl ?_
      refine V_al i_X11_best_109 rfl ?_
      refine V_getI i_X11_best_110 rfl ?_
      refine V_ic_ge_f i_X11_best_113 (by rw [fr _ _ (by omega), hsz]; exact nI_ge hi (by omega)) ?_
      refine V_il i_X11_best_116 rfl ?_
      refine V_if_eq_f i_X11_best_118 (by decide) ?_
      refine V_al i_X11_best_121 rfl ?_
      refine V_getR i_X11_best_122 rfl rfl ?_
      refine V_c i_X11_best_125 ?_
      refine V_il i_X11_best_127 rfl ?_
      refine V_imul i_X11_best_128 ?_
      refine V_il i_X11_best_129 rfl ?_
      refine V_iadd i_X11_best_131 ?_
      refine V_al i_X11_best_132 rfl ?_
      refine V_getR i_X11_best_133 rfl rfl ?_
      refine V_il i_X11_best_136 rfl ?_
      refine K_iald i i_X11_best_138 rfl rfl (by omega) (by omega) ?_
      rw [show I1 157 i = nI (G i) from by rw [fr _ _ (by omega)]; exact hA i hi, show (60 : Int32) = nI 60 from rfl, pk_mul, nI_add]
      refine K_iast (60 * r + i) i_X11_best_139 rfl rfl (by omega) (by omega) ?_
      refine V_iinc (L' := [(0, _), (2, _), (4, _), (5, _), (6, _)]) (n' := 1) i_X11_best_140 (by decide) rfl (by decide) ⟨rfl, rfl, rfl, rfl, rfl, trivial⟩ ?_
      refine V_goto i_X11_best_143 ?_
      refine V_L (L' := [(0, _), (2, _), (4, _), (5, _), (6, _)]) ⟨rfl, rfl, rfl, rfl, rfl, trivial⟩ ?_
      rw [show nI i + 1 = nI (i + 1) from nI_1 i]
      exact ih _ (fun x k h => by rw [uI_ne _ _ (by intro z; cases z; omega)]; exact fr x k h) (fun k hk => by
        by_cases hki : k = i
        · rw [hki, uI_eq]
        · rw [uI_nk (by omega)]; exact h1 k (by omega))
  exact key 0 (Nat.zero_le _) I (fun _ _ _ => rfl) (fun k hk => absurd hk (Nat.not_lt_zero k))
set_option maxRecDepth 100000 in
set_option maxHeartbeats 4000000 in
theorem m_best4 (I : IntM) (J : LngM) {n : Nat} {kd nd od : Nat → Nat} {lw pot : Nat} (hK : MK I n kd nd od lw pot) {how r : Nat} (hr : r < 6) (hh : how ≤ 1) (h0 : 0 < n) (hw : (beT kd nd lw how n).1 ≤ 999) : CtP 8 m_X11_best [.ref 146, .int (nI how), .int (nI r)] I J (fun q I1 J1 => q = some (.int (nI (beT kd nd lw how n).1)) ∧ RowM I J r n (fun k => nI ((beT kd nd lw how n).2 k)) I1 J1) := by
  refine CtP_of (by decide) rfl (Nat.le_of_ble_eq_true rfl) ?_
  refine V_il i_X11_best_0 rfl ?_
  refine P_callS1v i_X11_best_1 ms_X11_isHow (by decide) (Nat.le_of_ble_eq_true rfl) (c_M_isHow _ _ _) ?_
  refine V_if_eq_f i_X11_best_4 (by rw [howv_nI hh]; decide) ?_
  refine V_il i_X11_best_7 rfl ?_
  refine P_callS1v i_X11_best_8 ms_X11_isRow (by decide) (Nat.le_of_ble_eq_true rfl) (c_M_isRow _ _ _) ?_
  refine V_if_ne_t i_X11_best_11 (by rw [hasN_nI (by decide) hr]; decide) ?_
  refine V_al i_X11_best_16 rfl ?_
  refine V_getI i_X11_best_17 rfl ?_
  refine V_if_ne_t i_X11_best_20 (by rw [hK.sz]; exact nI_ne0 h0 (by have := hK.n7; omega)) ?_
  refine V_al i_X11_best_26 rfl ?_
  refine V_il i_X11_best_27 rfl ?_
  refine V_c i_X11_best_28 ?_
  refine P_callV2 i_X11_best_31 mi_X11_isEnough rfl ⟨_, _, rfl⟩ (by decide) (Nat.le_of_ble_eq_true rfl) (m_en (p := 999) I J hK h0 hh (by decide)) (fun r9 I1 J1 q => ?_)
  obtain ⟨rfl, f1, g1⟩ := q
  have k1 := FrM.K f1 hK
  refine V_if_ne_t i_X11_best_34 (by rw [if_neg (en_yes hK.n7 (by decide) (by decide) hw)]; decide) ?_
  refine V_c i_X11_best_40 ?_
  refine V_is (L' := [(0, _), (1, _), (2, _), (3, _)]) i_X11_best_41 (by decide) ⟨rfl, rfl, rfl, rfl, trivial⟩ ?_
  refine V_c i_X11_best_42 ?_
  refine V_is (L' := [(0, _), (1, _), (2, _), (3, _), (4, _)]) i_X11_best_45 (by decide) ⟨rfl, rfl, rfl, rfl, rfl, trivial⟩ ?_
  refine V_L (L' := [(0, _), (1, _), (2, _), (3, _), (4, _)]) ⟨rfl, rfl, rfl, rfl, rfl, trivial⟩ ?_
  refine lp_M_best I1 J1 k1 hh h0 hw _ (fun I2 J2 f2 => ?_) 999 0 999 (by decide) (beT_b kd nd lw how n).1 hw (by decide) I1 J1 FrM.rf
  have k2 := FrM.K f2 k1
  refine V_al i_X11_best_86 rfl ?_
  refine V_il i_X11_best_87 rfl ?_
  refine V_il i_X11_best_88 rfl ?_
  refine P_callV2 i_X11_best_90 mi_X11_isEnough rfl ⟨_, _, rfl⟩ (by decide) (Nat.le_of_ble_eq_true rfl) (m_en (p := (beT kd nd lw how n).1) I2 J2 k2 h0 hh hw) (fun r9 I3 J3 q => ?_)
  obtain ⟨rfl, f3, g3⟩ := q
  have k3 := FrM.K f3 k2
  have f9 := FrM.tr f1 (FrM.tr f2 f3)
  rw [if_neg (en_yes hK.n7 (beT_b kd nd lw how n).1 hw (Nat.le_refl _))]
  refine V_is (L' := [(0, _), (2, _), (4, _), (5, _)]) i_X11_best_93 (by decide) ⟨rfl, rfl, rfl, rfl, trivial⟩ ?_
  refine V_al i_X11_best_95 rfl ?_
  refine V_il i_X11_best_96 rfl ?_
  refine V_al i_X11_best_97 rfl ?_
  refine V_getI i_X11_best_98 rfl ?_
  rw [k3.sz]
  refine P_callV2u i_X11_best_101 mi_X11_makeRow rfl ⟨_, _, rfl⟩ (by decide) (Nat.le_of_ble_eq_true rfl) (c_M_makeRow _ _ hr) ?_
  refine V_c i_X11_best_104 ?_
  refine V_is (L' := [(0, _), (2, _), (4, _), (5, _), (6, _)]) i_X11_best_105 (by decide) ⟨rfl, rfl, rfl, rfl, rfl, trivial⟩ ?_
  refine V_L (L' := [(0, _), (2, _), (4, _), (5, _), (6, _)]) ⟨rfl, rfl, rfl, rfl, rfl, trivial⟩ ?_
  refine lp_M_bcp _ J3 hK.n7 hr (G := (beT kd nd lw how n).2) ?_ ?_ _ (fun I5 fr5 h5 => ⟨rfl, fun x k h1 h2 h3 => ?_, fun x k h1 => f9.2 x k h1, ?_, h5⟩)
  · unfold fillR uI
    rw [if_neg (by omega), if_neg (by omega)]
    exact k3.sz
  · intro p hp
    unfold fillR uI
    rw [if_neg (by omega), if_neg (by omega)]
    exact g3 _ (en_is hK.n7 hw) p hp
  · rw [fr5 x k h3]
    unfold fillR uI
    rw [if_neg (by omega), if_neg (by omega)]
    exact f9.1 x k h1
  · rw [fr5 _ _ (by omega)]
    unfold fillR
    rw [if_neg (by omega), uI_eq]
theorem p_best {I : IntM} {J : LngM} (h : Inv I J) (x y : Int32) : Pair 7 m_X10_best [.ref 0, .int x, .int y] 8 m_X11_best [.ref 146, .int x, .int y] I J := by
  obtain ⟨n, kd, nd, od, lw, pot, hP, hK, hM⟩ := h.K
  by_cases hy : hasC 6 y = 0
  · exact Pair.q h (fun _ => no_f) (c_best0 I J hK hy) (fun I1 J1 e1 e2 => m_best0 I1 J1 (hM I1 e1) (Or.inr hy))
  obtain ⟨r, hr, rfl⟩ := hasN_yes (by decide) hy
  by_cases hx : howv x = 0
  · exact Pair.q h (fun _ => no_f) (c_best1 I J hK hr hx) (fun I1 J1 e1 e2 => m_best0 I1 J1 (hM I1 e1) (Or.inl hx))
  obtain ⟨how, hh, rfl⟩ := howv_yes hx
  rcases Nat.eq_zero_or_pos n with h0 | h0
  · exact Pair.q h (fun _ => no_f) (c_best2 I J hK hr hh h0) (fun I1 J1 e1 e2 => m_best2 I1 J1 (hM I1 e1) hr hh h0)
  have hb := beT_b kd nd lw how n
  by_cases hw : (beT kd nd lw how n).1 = 1000
  · exact Pair.q h (fun _ => no_f) (c_best3 I J hK hr hh h0 hw) (fun I1 J1 e1 e2 => m_best3 I1 J1 (hM I1 e1) hr hh h0 hw)
  have hw : (beT kd nd lw how n).1 ≤ 999 := by omega
  exact Pair.row h hr (by have := hK.n7; omega) (c_best4 I J hK hr hh h0 hw) (fun I1 J1 e1 e2 => m_best4 I1 J1 (hM I1 e1) hr hh h0 hw)

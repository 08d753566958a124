
/-! ===== table: the class ===== -/
theorem SH_kept {k : Nat} (hk : k < 3) : SH[131 + 5 * k]? = some (0, 2) := by
  obtain rfl | rfl | rfl : k = 0 ∨ k = 1 ∨ k = 2 := by omega
  · rfl
  · rfl
  · rfl
def SitQ (I I1 : IntM) (m l P : Nat) (kd nd : Nat → Nat) : Prop := (∀ x k, ¬ (x = 8 ∧ 3 ≤ k ∧ k ≤ 5) → x ≠ 10 → x ≠ 12 → x ≠ 14 → I1 x k = I x k) ∧ I1 8 3 = nI m ∧ I1 8 4 = nI l ∧ I1 8 5 = nI P ∧ AtI I1 10 m kd ∧ AtI I1 12 m nd ∧ AtI I1 14 m (fun i => i)

set_option maxRecDepth 100000 in
set_option maxHeartbeats 4000000 in
theorem lp_sit (I : IntM) (J : LngM) {m : Nat} {kd nd : Nat → Nat} (hm : m ≤ 7) (z4 : I 4 1 = nI 7) (z6 : I 6 1 = nI 7) (z9 : I 9 1 = nI 7) (z11 : I 11 1 = nI 7) (z13 : I 13 1 = nI 7) (h5 : AtI I 5 m kd) (h7 : AtI I 7 m nd) (z8 : I 8 3 = nI m) (Q : Option Value → IntM → LngM → Prop) (hq : ∀ I1 : IntM, (∀ x k, x ≠ 10 → x ≠ 12 → x ≠ 14 → I1 x k = I x k) → AtI I1 10 m kd → AtI I1 12 m nd → AtI I1 14 m (fun i => i) → Q none I1 J) : VP m_X0_sitDown 3 26 [(0, .ref 8), (1, .ref 3), (2, .int 0)] [] I J Q := by
  have key : ∀ i, i ≤ m → ∀ I1 : IntM, (∀ x k, x ≠ 10 → x ≠ 12 → x ≠ 14 → I1 x k = I x k) → AtI I1 10 i kd → AtI I1 12 i nd → AtI I1 14 i (fun i => i) → VP m_X0_sitDown 3 26 [(0, .ref 8), (1, .ref 3), (2, .int (nI i))] [] I1 J Q := by
    refine down m ?_ (fun i hi ih => ?_)
    · intro I1 fr a1 a2 a3
      refine V_il i_X0_sitDown_26 rfl ?_
      refine V_al i_X0_sitDown_27 rfl ?_
      refine V_getI i_X0_sitDown_28 rfl ?_
      refine V_ic_ge_t i_X0_sitDown_31 (by rw [fr _ _ (by decide) (by decide) (by decide), z8]; exact Int32.le_refl _) ?_
      exact P_vret i_X0_sitDown_81 rfl (hq I1 fr a1 a2 a3)
    · intro I1 fr a1 a2 a3
      refine V_il i_X0_sitDown_26 rfl ?_
      refine V_al i_X0_sitDown_27 rfl ?_
      refine V_getI i_X0_sitDown_28 rfl ?_
      refine V_ic_ge_f i_X0_sitDown_31 (by rw [fr _ _ (by decide) (by decide) (by decide), z8]; exact nI_ge hi (by omega)) ?_
      refine V_al i_X0_sitDown_34 rfl ?_
      refine V_getR i_X0_sitDown_35 rfl rfl ?_
      refine V_il i_X0_sitDown_38 rfl ?_
      refine V_al i_X0_sitDown_39 rfl ?_
      refine V_getR i_X0_sitDown_40 rfl rfl ?_
      refine V_il i_X0_sitDown_43 rfl ?_
      refine P_callV1v i_X0_sitDown_44 mi_X3_get rfl ⟨_, _, rfl⟩ (by decide) (Nat.le_of_ble_eq_true rfl) (c_I_getN (x := 4) (n := 7) (s := 7) (k := i) _ _ ⟨rfl, rfl, rfl, by decide⟩ (by rw [fr _ _ (by decide) (by decide) (by decide)]; exact z4) rfl (by omega) (by decide)) ?_
      rw [show I1 (4 + 1) i = nI (kd i) from by rw [fr _ _ (by decide) (by decide) (by decide)]; exact h5 i hi]
      refine P_callV2u i_X0_sitDown_47 mi_X3_set rfl ⟨_, _, rfl⟩ (by decide) (Nat.le_of_ble_eq_true rfl) (c_I_setN _ _ (x := 9) (n := 7) (s := 7) (k := i) _ ⟨rfl, rfl, rfl, by decide⟩ (by rw [fr _ _ (by decide) (by decide) (by decide)]; exact z9) rfl (by omega) (by decide)) ?_
      refine V_al i_X0_sitDown_50 rfl ?_
      refine V_getR i_X0_sitDown_51 rfl rfl ?_
      refine V_il i_X0_sitDown_54 rfl ?_
      refine V_al i_X0_sitDown_55 rfl ?_
      refine V_getR i_X0_sitDown_56 rfl rfl ?_
      refine V_il i_X0_sitDown_59 rfl ?_
      refine P_callV1v i_X0_sitDown_60 mi_X3_get rfl ⟨_, _, rfl⟩ (by decide) (Nat.le_of_ble_eq_true rfl) (c_I_getN (x := 6) (n := 7) (s := 7) (k := i) _ _ ⟨rfl, rfl, rfl, by decide⟩ (by rw [uI_nx (by decide), fr _ _ (by decide) (by decide) (by decide)]; exact z6) rfl (by omega) (by decide)) ?_
      rw [uI_nx (show 6 + 1 ≠ 9 + 1 by decide), show I1 (6 + 1) i = nI (nd i) from by rw [fr _ _ (by decide) (by decide) (by decide)]; exact h7 i hi]
      refine P_callV2u i_X0_sitDown_63 mi_X3_set rfl ⟨_, _, rfl⟩ (by decide) (Nat.le_of_ble_eq_true rfl) (c_I_setN _ _ (x := 11) (n := 7) (s := 7) (k := i) _ ⟨rfl, rfl, rfl, by decide⟩ (by rw [uI_nx (by decide), fr _ _ (by decide) (by decide) (by decide)]; exact z11) rfl (by omega) (by decide)) ?_
      refine V_al i_X0_sitDown_66 rfl ?_
      refine V_getR i_X0_sitDown_67 rfl rfl ?_
      refine V_il i_X0_sitDown_70 rfl ?_
      refine V_il i_X0_sitDown_71 rfl ?_
      refine P_callV2u i_X0_sitDown_72 mi_X3_set rfl ⟨_, _, rfl⟩ (by decide) (Nat.le_of_ble_eq_true rfl) (c_I_setN _ _ (x := 13) (n := 7) (s := 7) (k := i) _ ⟨rfl, rfl, rfl, by decide⟩ (by rw [uI_nx (by decide), uI_nx (by decide), fr _ _ (by decide) (by decide) (by decide)]; exact z13) rfl (by omega) (by decide)) ?_
      refine V_iinc (L' := [(0, _), (1, _), (2, _)]) (n' := 1) i_X0_sitDown_75 (by decide) rfl (by decide) ⟨rfl, rfl, rfl, trivial⟩ ?_
      refine V_goto i_X0_sitDown_78 ?_
      refine V_L (L' := [(0, _), (1, _), (2, _)]) ⟨rfl, rfl, rfl, trivial⟩ ?_
      rw [show nI i + 1 = nI (i + 1) from nI_1 i]
      refine ih _ (fun x k a b c => by rw [uI_nx (show x ≠ 13 + 1 from c), uI_nx (show x ≠ 11 + 1 from b), uI_nx (show x ≠ 9 + 1 from a)]; exact fr x k a b c) (fun k hk => ?_) (fun k hk => ?_) (fun k hk => ?_)
      · rw [uI_nx (by decide), uI_nx (by decide)]
        by_cases e : k = i
        · rw [e, show (10 : Nat) = 9 + 1 from rfl, uI_eq]
        · rw [uI_nk e]; exact a1 k (by omega)
      · rw [uI_nx (by decide)]
        by_cases e : k = i
        · rw [e, show (12 : Nat) = 11 + 1 from rfl, uI_eq]
        · rw [uI_nk e, uI_nx (by decide)]; exact a2 k (by omega)
      · by_cases e : k = i
        · rw [e, show (14 : Nat) = 13 + 1 from rfl, uI_eq]
        · rw [uI_nk e, uI_nx (by decide), uI_nx (by decide)]; exact a3 k (by omega)
  exact key 0 (Nat.zero_le _) I (fun _ _ _ _ _ => rfl) (fun k hk => absurd hk (Nat.not_lt_zero k)) (fun k hk => absurd hk (Nat.not_lt_zero k)) (fun k hk => absurd hk (Nat.not_lt_zero k))
set_option maxRecDepth 100000 in
set_option maxHeartbeats 4000000 in
theorem c_sit (I : IntM) (J : LngM) {m : Nat} {kd nd : Nat → Nat} (hm : m ≤ 7) (z4 : I 4 1 = nI 7) (z6 : I 6 1 = nI 7) (z9 : I 9 1 = nI 7) (z11 : I 11 1 = nI 7) (z13 : I 13 1 = nI 7) (h5 : AtI I 5 m kd) (h7 : AtI I 7 m nd) {l P : Nat} (r2 : I 3 2 = nI m) (r3 : I 3 3 = nI P) (r4 : I 3 4 = nI l) : CtP 3 m_X0_sitDown [.ref 8, .ref 3] I J (fun r I1 J1 => r = none ∧ J1 = J ∧ SitQ I I1 m l P kd nd) := by
  refine CtP_of (by decide) rfl (Nat.le_of_ble_eq_true rfl) ?_
  refine V_al i_X0_sitDown_0 rfl ?_
  refine V_al i_X0_sitDown_1 rfl ?_
  refine V_getI i_X0_sitDown_2 rfl ?_
  rw [r2]
  refine V_putI i_X0_sitDown_5 rfl ?_
  refine V_al i_X0_sitDown_8 rfl ?_
  refine V_al i_X0_sitDown_9 rfl ?_
  refine V_getI i_X0_sitDown_10 rfl ?_
  rw [uI_nx (show (3 : Nat) ≠ 8 by decide), r4]
  refine V_putI i_X0_sitDown_13 rfl ?_
  refine V_al i_X0_sitDown_16 rfl ?_
  refine V_al i_X0_sitDown_17 rfl ?_
  refine V_getI i_X0_sitDown_18 rfl ?_
  rw [uI_nx (show (3 : Nat) ≠ 8 by decide), uI_nx (show (3 : Nat) ≠ 8 by decide), r3]
  refine V_putI i_X0_sitDown_21 rfl ?_
  obtain ⟨I1, hI1⟩ : ∃ y, y = uI (uI (uI I 8 3 (nI m)) 8 4 (nI l)) 8 5 (nI P) := ⟨_, rfl⟩
  rw [← hI1]
  have x1 : ∀ x k, ¬ (x = 8 ∧ 3 ≤ k ∧ k ≤ 5) → I1 x k = I x k := fun x k h => by
    rw [hI1]
    unfold uI
    rw [if_neg (by omega), if_neg (by omega), if_neg (by omega)]
  refine V_c i_X0_sitDown_24 ?_
  refine V_is (L' := [(0, _), (1, _), (2, _)]) i_X0_sitDown_25 (by decide) ⟨rfl, rfl, rfl, trivial⟩ ?_
  refine V_L (L' := [(0, _), (1, _), (2, _)]) ⟨rfl, rfl, rfl, trivial⟩ ?_
  refine lp_sit I1 J hm ((x1 _ _ (by decide)).trans z4) ((x1 _ _ (by decide)).trans z6) ((x1 _ _ (by decide)).trans z9) ((x1 _ _ (by decide)).trans z11) ((x1 _ _ (by decide)).trans z13) (AtI.congr (fun k => x1 _ _ (by omega)) h5) (AtI.congr (fun k => x1 _ _ (by omega)) h7) (by rw [hI1, uI_nk (by decide), uI_nk (by decide), uI_eq]) _ (fun I2 fr a1 a2 a3 => ⟨rfl, rfl, fun x k h b1 b2 b3 => (fr x k b1 b2 b3).trans (x1 x k h), ?_, ?_, ?_, a1, a2, a3⟩)
  · rw [fr _ _ (by decide) (by decide) (by decide), hI1, uI_nk (by decide), uI_nk (by decide), uI_eq]
  · rw [fr _ _ (by decide) (by decide) (by decide), hI1, uI_nk (by decide), uI_eq]
  · rw [fr _ _ (by decide) (by decide) (by decide), hI1, uI_eq]
set_option maxRecDepth 100000 in
set_option maxHeartbeats 4000000 in
theorem lp_tk (I : IntM) (J : LngM) (Q : Option Value → IntM → LngM → Prop) (hq : ∀ I1 : IntM, (∀ x k, ¬ (∃ c, c < 3 ∧ x = 131 + 5 * c ∧ k = 2) → I1 x k = I x k) → (∀ c, c < 3 → I1 (131 + 5 * c) 2 = 0) → VP m_X10_table 6 90 [(0, .ref 0)] [] I1 J Q) : VP m_X10_table 6 65 [(0, .ref 0), (3, .ref 20), (4, .int (nI 3)), (5, .int 0)] [] I J Q := by
  have key : ∀ i, i ≤ 3 → ∀ I1 : IntM, (∀ x k, ¬ (∃ c, c < 3 ∧ x = 131 + 5 * c ∧ k = 2) → I1 x k = I x k) → (∀ c, c < i → I1 (131 + 5 * c) 2 = 0) → VP m_X10_table 6 65 [(0, .ref 0), (3, .ref 20), (4, .int (nI 3)), (5, .int (nI i))] [] I1 J Q := by
    refine down 3 ?_ (fun i hi ih => ?_)
    · intro I1 fr h1
      refine V_il i_X10_table_65 rfl ?_
      refine V_il i_X10_table_67 rfl ?_
      refine V_ic_ge_t i_X10_table_69 (Int32.le_refl _) ?_
      exact V_L (L' := [(0, _)]) ⟨rfl, trivial⟩ (hq I1 fr h1)
    · intro I1 fr h1
      refine V_il i_X10_table_65 rfl ?_
      refine V_il i_X10_table_67 rfl ?_
      refine V_ic_ge_f i_X10_table_69 (nI_ge (b := 3) hi (by decide)) ?_
      refine V_al i_X10_table_72 rfl ?_
      refine V_il i_X10_table_73 rfl ?_
      refine K_aald i i_X10_table_75 rfl (by decide) rfl (by omega) (by omega) (RF_kept hi) ?_
      refine V_as (L' := [(0, _), (3, _), (4, _), (5, _), (6, _)]) i_X10_table_76 (by decide) ⟨rfl, rfl, rfl, rfl, rfl, trivial⟩ ?_
      refine V_al i_X10_table_78 rfl ?_
      refine V_c i_X10_table_80 ?_
      refine V_putZ i_X10_table_81 (SH_kept hi) (by decide) ?_
      refine V_iinc (L' := [(0, _), (3, _), (4, _), (5, _)]) (n' := 1) i_X10_table_84 (by decide) rfl (by decide) ⟨rfl, rfl, rfl, rfl, trivial⟩ ?_
      refine V_goto i_X10_table_87 ?_
      refine V_L (L' := [(0, _), (3, _), (4, _), (5, _)]) ⟨rfl, rfl, rfl, rfl, trivial⟩ ?_
      rw [show nI i + 1 = nI (i + 1) from nI_1 i]
      refine ih _ (fun x k h => ?_) (fun c hc => ?_)
      · rw [uI_ne _ _ (by intro z; cases z; exact h ⟨i, hi, rfl, rfl⟩)]
        exact fr x k h
      · by_cases e : c = i
        · rw [e, uI_eq]
        · rw [uI_nx (by omega)]
          exact h1 c (by omega)
  exact key 0 (Nat.zero_le _) I (fun _ _ _ => rfl) (fun c hc => absurd hc (Nat.not_lt_zero c))

def TabC (I : IntM) (J : LngM) (P l m : Nat) (kd nd : Nat → Nat) (I1 : IntM) (J1 : LngM) : Prop := (∀ x k, ¬ (x = 3 ∨ x = 5 ∨ x = 7) → ¬ (x = 8 ∧ 3 ≤ k ∧ k ≤ 5) → x ≠ 10 → x ≠ 12 → x ≠ 14 → x ≠ 15 → x ≠ 17 → ¬ ((x = 131 ∨ x = 136 ∨ x = 141) ∧ k = 2) → I1 x k = I x k) ∧ (∀ x k, ¬ (x = 15 ∧ k = 5) → J1 x k = J x k) ∧ (I1 8 3 = nI m ∧ I1 8 4 = nI l ∧ I1 8 5 = nI P ∧ AtI I1 10 m kd ∧ AtI I1 12 m nd ∧ AtI I1 14 m (fun i => i)) ∧ (I1 15 3 = 0 ∧ I1 15 4 = 0 ∧ I1 15 6 = 0 ∧ AtI I1 17 m (fun i => i) ∧ J1 15 5 = lN (P * un 0)) ∧ ∀ c, c < 3 → I1 (131 + 5 * c) 2 = 0

set_option maxRecDepth 100000 in
set_option maxHeartbeats 4000000 in
theorem c_table2 (I : IntM) (J : LngM) (hZ : ISz I) {t s : Nat} (ht : t < 4) (hs : s ≤ 60) (hz : I (123 + 2 * t) 1 = nI s) (z4 : I 4 1 = nI 7) (z6 : I 6 1 = nI 7) {p : Nat} (he : paT (I (123 + 2 * t + 1)) s = .inl p) : CtP 6 m_X10_table [.ref 0, .int (nI t)] I J (QC I J (.int (-4)) none none none) := by
  refine CtP_of (by decide) rfl (Nat.le_of_ble_eq_true rfl) ?_
  refine V_al i_X10_table_0 rfl ?_
  refine V_getR i_X10_table_1 rfl rfl ?_
  refine V_il i_X10_table_4 rfl ?_
  refine P_callS2v i_X10_table_5 ms_X10_pick (by decide) (Nat.le_of_ble_eq_true rfl) (c_pick _ _ rfl (by decide) ht (RF_text ht)) ?_
  refine V_as (L' := [(0, _), (2, _)]) i_X10_table_8 (by decide) ⟨rfl, rfl, trivial⟩ ?_
  refine V_al i_X10_table_9 rfl ?_
  refine V_ifnonnull i_X10_table_10 ?_
  refine V_al i_X10_table_15 rfl ?_
  refine P_callV0v i_X10_table_16 mi_X3_missing (LI_text ht).1 ⟨_, _, rfl⟩ (by decide) (Nat.le_of_ble_eq_true rfl) (c_I_missing _ _ (LI_text ht)) ?_
  refine V_if_eq_t i_X10_table_19 (by rw [hz, if_neg (nI_pos (by omega))]) ?_
  refine V_al i_X10_table_28 rfl ?_
  refine V_getR i_X10_table_29 rfl rfl ?_
  refine V_al i_X10_table_32 rfl ?_
  refine P_callV1 i_X10_table_33 mi_X6_read rfl ⟨_, _, rfl⟩ (by decide) (Nat.le_of_ble_eq_true rfl) (c_read I J (LI_text ht) (by omega) hs hz z4 z6) (fun r9 I1 J1 q => ?_)
  obtain ⟨rfl, f1, h1⟩ := q
  have hok := pa_ok (I (123 + 2 * t + 1)) s
  rw [he] at h1 hok
  change r9 = some (.int (nI p)) at h1
  change p ≤ s at hok
  subst h1
  refine V_if_lt_f i_X10_table_36 (nI_pos (by omega)) ?_
  refine V_c i_X10_table_39 ?_
  exact P_iret i_X10_table_41 rfl ⟨rfl, I1, _, RdF.C _ f1, RdF.Z f1 hZ, rfl, rfl⟩
set_option maxRecDepth 100000 in
set_option maxHeartbeats 4000000 in
theorem c_table3 (I : IntM) (J : LngM) (hZ : ISz I) (z9 : I 9 1 = nI 7) (z11 : I 11 1 = nI 7) (z13 : I 13 1 = nI 7) (z16 : I 16 1 = nI 7) {t s : Nat} (ht : t < 4) (hs : s ≤ 60) (hz : I (123 + 2 * t) 1 = nI s) (z4 : I 4 1 = nI 7) (z6 : I 6 1 = nI 7) {q : Nat × Nat × Nat × (Nat → Nat) × (Nat → Nat)} (he : paT (I (123 + 2 * t + 1)) s = .inr q) : CtP 6 m_X10_table [.ref 0, .int (nI t)] I J (fun r I9 J9 => r = some (.int (nI q.2.2.1)) ∧ TabC I J q.1 q.2.1 q.2.2.1 q.2.2.2.1 q.2.2.2.2 I9 J9) := by
  refine CtP_of (by decide) rfl (Nat.le_of_ble_eq_true rfl) ?_
  refine V_al i_X10_table_0 rfl ?_
  refine V_getR i_X10_table_1 rfl rfl ?_
  refine V_il i_X10_table_4 rfl ?_
  refine P_callS2v i_X10_table_5 ms_X10_pick (by decide) (Nat.le_of_ble_eq_true rfl) (c_pick _ _ rfl (by decide) ht (RF_text ht)) ?_
  refine V_as (L' := [(0, _), (2, _)]) i_X10_table_8 (by decide) ⟨rfl, rfl, trivial⟩ ?_
  refine V_al i_X10_table_9 rfl ?_
  refine V_ifnonnull i_X10_table_10 ?_
  refine V_al i_X10_table_15 rfl ?_
  refine P_callV0v i_X10_table_16 mi_X3_missing (LI_text ht).1 ⟨_, _, rfl⟩ (by decide) (Nat.le_of_ble_eq_true rfl) (c_I_missing _ _ (LI_text ht)) ?_
  refine V_if_eq_t i_X10_table_19 (by rw [hz, if_neg (nI_pos (by omega))]) ?_
  refine V_al i_X10_table_28 rfl ?_
  refine V_getR i_X10_table_29 rfl rfl ?_
  refine V_al i_X10_table_32 rfl ?_
  refine P_callV1 i_X10_table_33 mi_X6_read rfl ⟨_, _, rfl⟩ (by decide) (Nat.le_of_ble_eq_true rfl) (c_read I J (LI_text ht) (by omega) hs hz z4 z6) (fun r9 I1 J1 q9 => ?_)
  obtain ⟨rfl, f1, h1⟩ := q9
  have hok := pa_ok (I (123 + 2 * t + 1)) s
  rw [he] at h1 hok
  obtain ⟨rfl, b1, b2, b3, b4, b5⟩ := h1
  obtain ⟨o1, o2, o3, o4, o5, o6⟩ := hok
  refine V_if_lt_t i_X10_table_36 (by decide) ?_
  refine V_al i_X10_table_42 rfl ?_
  refine V_getR i_X10_table_43 rfl rfl ?_
  refine V_al i_X10_table_46 rfl ?_
  refine V_getR i_X10_table_47 rfl rfl ?_
  refine P_callV1 i_X10_table_50 mi_X0_sitDown rfl ⟨_, _, rfl⟩ (by decide) (Nat.le_of_ble_eq_true rfl) (c_sit I1 J1 (m := q.2.2.1) (kd := q.2.2.2.1) (nd := q.2.2.2.2) (l := q.2.1) (P := q.1) o4 ((f1 _ _ (by decide)).trans z4) ((f1 _ _ (by decide)).trans z6) ((f1 _ _ (by decide)).trans z9) ((f1 _ _ (by decide)).trans z11) ((f1 _ _ (by decide)).trans z13) b4 b5 b1 b2 b3) (fun r9 I2 J2 q9 => ?_)
  obtain ⟨rfl, rfl, x2, s1, s2, s3, s4, s5, s6⟩ := q9
  refine V_al i_X10_table_53 rfl ?_
  refine V_getR i_X10_table_54 rfl rfl ?_
  refine V_as (L' := [(0, _), (3, _)]) i_X10_table_57 (by decide) ⟨rfl, rfl, trivial⟩ ?_
  refine V_al i_X10_table_58 rfl ?_
  refine V_alen4 (v := nI _) i_X10_table_59 rfl rfl ?_
  refine V_is (L' := [(0, _), (3, _), (4, _)]) i_X10_table_60 (by decide) ⟨rfl, rfl, rfl, trivial⟩ ?_
  refine V_c i_X10_table_62 ?_
  refine V_is (L' := [(0, _), (3, _), (4, _), (5, _)]) i_X10_table_63 (by decide) ⟨rfl, rfl, rfl, rfl, trivial⟩ ?_
  refine V_L (L' := [(0, _), (3, _), (4, _), (5, _)]) ⟨rfl, rfl, rfl, rfl, trivial⟩ ?_
  refine lp_tk I2 J2 _ (fun I3 x3 g3 => ?_)
  have y3 : ∀ x k, ¬ (x = 3 ∨ x = 5 ∨ x = 7) → ¬ (x = 8 ∧ 3 ≤ k ∧ k ≤ 5) → x ≠ 10 → x ≠ 12 → x ≠ 14 → ¬ (∃ c, c < 3 ∧ x = 131 + 5 * c ∧ k = 2) → I3 x k = I x k := fun x k h1 h2 h3 h4 h5 h6 => (x3 x k h6).trans ((x2 x k h2 h3 h4 h5).trans (f1 x k h1))
  have w3 : ∀ x k, x ≤ 14 → I3 x k = I2 x k := fun x k h => x3 x k (fun z => by obtain ⟨c, hc, e1, e2⟩ := z; omega)
  have k3 : CK I3 q.2.2.1 q.2.2.2.1 q.2.2.2.2 (fun i => i) q.2.1 q.1 := ⟨⟨o4, o5, o6, fun i hi => hi, fun i j _ _ e => e⟩, o3, o2, ⟨(w3 _ _ (by decide)).trans s1, AtI.congr (fun k => w3 _ _ (by decide)) s4, AtI.congr (fun k => w3 _ _ (by decide)) s5, AtI.congr (fun k => w3 _ _ (by decide)) s6, (y3 _ _ (by decide) (by decide) (by decide) (by decide) (by decide) (fun z => by obtain ⟨c, hc, e1, e2⟩ := z; omega)).trans z9, (y3 _ _ (by decide) (by decide) (by decide) (by decide) (by decide) (fun z => by obtain ⟨c, hc, e1, e2⟩ := z; omega)).trans z11, (y3 _ _ (by decide) (by decide) (by decide) (by decide) (by decide) (fun z => by obtain ⟨c, hc, e1, e2⟩ := z; omega)).trans z13⟩, (w3 _ _ (by decide)).trans s2, (w3 _ _ (by decide)).trans s3, ISz.congr (fun x k h => y3 x k (by omega) (by omega) (by omega) (by omega) (by omega) (fun z => by obtain ⟨c, hc, e1, e2⟩ := z; omega)) hZ⟩
  refine V_al i_X10_table_90 rfl ?_
  refine V_getR i_X10_table_91 rfl rfl ?_
  refine V_al i_X10_table_94 rfl ?_
  refine V_getR i_X10_table_95 rfl rfl ?_
  refine V_c i_X10_table_98 ?_
  refine P_callV2u i_X10_table_99 mi_X2_start rfl ⟨_, _, rfl⟩ (by decide) (Nat.le_of_ble_eq_true rfl) (c_E_start I3 J2 k3 ((y3 _ _ (by decide) (by decide) (by decide) (by decide) (by decide) (fun z => by obtain ⟨c, hc, e1, e2⟩ := z; omega)).trans z16) (how := 0) (by decide)) ?_
  refine V_al i_X10_table_102 rfl ?_
  refine V_getR i_X10_table_103 rfl rfl ?_
  refine V_getI i_X10_table_106 rfl ?_
  obtain ⟨I5, hI5⟩ : ∃ y, y = cpI (uI (uI (uI I3 15 3 (nI 0)) 15 4 0) 15 6 0) 14 0 17 0 q.2.2.1 := ⟨_, rfl⟩
  rw [← hI5]
  have x5 : ∀ x k, x ≠ 15 → x ≠ 17 → I5 x k = I3 x k := fun x k h1 h2 => by
    rw [hI5]
    unfold cpI
    rw [if_neg (fun z => h2 z.1), uI_nx h1, uI_nx h1, uI_nx h1]
  rw [x5 8 3 (by decide) (by decide), k3.sz]
  refine P_iret i_X10_table_109 rfl ⟨rfl, fun x k h1 h2 h3 h4 h5 h6 h7 h8 => by
    rw [x5 x k h6 h7, y3 x k h1 h2 h3 h4 h5 (fun z => by obtain ⟨c, hc, e1, e2⟩ := z; omega)], fun x k h => by
    unfold uJ
    rw [if_neg h], ⟨?_, ?_, ?_, ?_, ?_, ?_⟩, ⟨?_, ?_, ?_, ?_, ?_⟩, fun c hc => ?_⟩
  · rw [x5 _ _ (by decide) (by decide)]; exact k3.sz
  · rw [x5 _ _ (by decide) (by decide)]; exact k3.lw
  · rw [x5 _ _ (by decide) (by decide)]; exact k3.pt
  · exact AtI.congr (fun k => x5 _ _ (by decide) (by decide)) k3.C.2.1
  · exact AtI.congr (fun k => x5 _ _ (by decide) (by decide)) k3.C.2.2.1
  · exact AtI.congr (fun k => x5 _ _ (by decide) (by decide)) k3.od
  · rw [hI5]; unfold cpI; rw [if_neg (by omega), uI_nk (by decide), uI_nk (by decide), uI_eq]; rfl
  · rw [hI5]; unfold cpI; rw [if_neg (by omega), uI_nk (by decide), uI_eq]
  · rw [hI5]; unfold cpI; rw [if_neg (by omega), uI_eq]
  · intro k hk
    rw [hI5]; unfold cpI; rw [if_pos ⟨rfl, Nat.zero_le _, by omega⟩, show 0 + (k - 0) = k by omega, uI_nx (by decide), uI_nx (by decide), uI_nx (by decide)]
    exact k3.od k hk
  · exact uJ_eq
  · rw [x5 _ _ (by omega) (by omega)]; exact g3 c hc

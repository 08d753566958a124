
/-! ===== the reference: fault and table; both are paired ===== -/
theorem FfF.M {I I1 : IntM} (J : LngM) (h : FfF I I1) : FrM I J I1 J := ⟨fun x k q => h x k (by unfold pI at q; omega) (by unfold pI at q; omega) (by unfold pI at q; omega), fun _ _ _ => rfl⟩
theorem AtI.up {I : IntM} {a i : Nat} {f : Nat → Nat} (h : AtI I a i f) : AtI (uI I a i (nI (f i))) a (i + 1) f := by
  intro k hk
  by_cases e : k = i
  · rw [e, uI_eq]
  · rw [uI_nk e]
    exact h k (by omega)
theorem AtI.ne {I : IntM} {a b i n : Nat} {f : Nat → Nat} {x : Int32} (hb : a ≠ b) (h : AtI I a n f) : AtI (uI I b i x) a n f := fun k hk => by rw [uI_nx hb]; exact h k hk
def SiM (I I1 : IntM) (m : Nat) (kd nd : Nat → Nat) : Prop := (∀ x k, x ≠ 154 → x ≠ 155 → x ≠ 156 → I1 x k = I x k) ∧ AtI I1 154 m kd ∧ AtI I1 155 m nd ∧ AtI I1 156 m (fun i => i)
theorem SiM.s {I I1 : IntM} {i : Nat} {kd nd : Nat → Nat} {a b : Int32} (h : SiM I I1 i kd nd) (ha : a = nI (kd i)) (hb : b = nI (nd i)) : SiM I (uI (uI (uI I1 154 i a) 155 i b) 156 i (nI i)) (i + 1) kd nd := by
  obtain ⟨h0, h1, h2, h3⟩ := h
  subst ha hb
  exact ⟨fun x k q1 q2 q3 => by rw [uI_nx q3, uI_nx q2, uI_nx q1]; exact h0 x k q1 q2 q3, AtI.ne (by decide) (AtI.ne (by decide) (AtI.up h1)), AtI.ne (by decide) (AtI.up (AtI.ne (by decide) h2)), AtI.up (f := fun i => i) (AtI.ne (by decide) (AtI.ne (by decide) h3))⟩

set_option maxRecDepth 100000 in
set_option maxHeartbeats 4000000 in
theorem m_fault0 (I : IntM) (J : LngM) {x : Int32} (h : hasC 4 x = 0) : CtP 5 m_X11_fault [.ref 146, .int x] I J (QM I J (.int (-1)) none none none) := by
  refine CtP_of (by decide) rfl (Nat.le_of_ble_eq_true rfl) ?_
  refine V_il i_X11_fault_0 rfl ?_
  refine P_callS1v i_X11_fault_1 ms_X11_isText (by decide) (Nat.le_of_ble_eq_true rfl) (c_M_isText _ _ _) ?_
  refine V_if_ne_f i_X11_fault_4 h ?_
  refine V_c i_X11_fault_7 ?_
  exact P_iret i_X11_fault_8 rfl ⟨rfl, I, J, FrM.rf, rfl, rfl⟩
set_option maxRecDepth 100000 in
set_option maxHeartbeats 4000000 in
theorem m_fault1 (I : IntM) (J : LngM) {t : Nat} (ht : t < 4) (hz : I 150 t = -1) : CtP 5 m_X11_fault [.ref 146, .int (nI t)] I J (QM I J (.int (-3)) none none (some 1)) := by
  refine CtP_of (by decide) rfl (Nat.le_of_ble_eq_true rfl) ?_
  refine V_il i_X11_fault_0 rfl ?_
  refine P_callS1v i_X11_fault_1 ms_X11_isText (by decide) (Nat.le_of_ble_eq_true rfl) (c_M_isText _ _ _) ?_
  refine V_if_ne_t i_X11_fault_4 (by rw [hasN_nI (by decide) ht]; decide) ?_
  refine V_al i_X11_fault_9 rfl ?_
  refine V_getR i_X11_fault_10 rfl rfl ?_
  refine V_il i_X11_fault_13 rfl ?_
  refine K_iald t i_X11_fault_14 rfl rfl ht (by omega) ?_
  refine V_if_ge_f i_X11_fault_15 (by rw [hz]; decide) ?_
  refine V_al i_X11_fault_18 rfl ?_
  refine V_c i_X11_fault_19 ?_
  refine P_callV1v i_X11_fault_20 mi_X11_found rfl ⟨_, _, rfl⟩ (by decide) (Nat.le_of_ble_eq_true rfl) (c_M_found I J (f := 1) (by decide)) ?_
  refine V_goto i_X11_fault_23 ?_
  exact P_iret i_X11_fault_31 rfl ⟨rfl, I, J, FrM.rf, rfl, rfl⟩
set_option maxRecDepth 100000 in
set_option maxHeartbeats 4000000 in
theorem m_table0 (I : IntM) (J : LngM) {x : Int32} (h : hasC 4 x = 0) : CtP 5 m_X11_table [.ref 146, .int x] I J (QM I J (.int (-1)) none none none) := by
  refine CtP_of (by decide) rfl (Nat.le_of_ble_eq_true rfl) ?_
  refine V_il i_X11_table_0 rfl ?_
  refine P_callS1v i_X11_table_1 ms_X11_isText (by decide) (Nat.le_of_ble_eq_true rfl) (c_M_isText _ _ _) ?_
  refine V_if_ne_f i_X11_table_4 h ?_
  refine V_c i_X11_table_7 ?_
  exact P_iret i_X11_table_8 rfl ⟨rfl, I, J, FrM.rf, rfl, rfl⟩
set_option maxRecDepth 100000 in
set_option maxHeartbeats 4000000 in
theorem m_table1 (I : IntM) (J : LngM) {t : Nat} (ht : t < 4) (hz : I 150 t = -1) : CtP 5 m_X11_table [.ref 146, .int (nI t)] I J (QM I J (.int (-3)) none none (some 1)) := by
  refine CtP_of (by decide) rfl (Nat.le_of_ble_eq_true rfl) ?_
  refine V_il i_X11_table_0 rfl ?_
  refine P_callS1v i_X11_table_1 ms_X11_isText (by decide) (Nat.le_of_ble_eq_true rfl) (c_M_isText _ _ _) ?_
  refine V_if_ne_t i_X11_table_4 (by rw [hasN_nI (by decide) ht]; decide) ?_
  refine V_al i_X11_table_9 rfl ?_
  refine V_getR i_X11_table_10 rfl rfl ?_
  refine V_il i_X11_table_13 rfl ?_
  refine K_iald t i_X11_table_14 rfl rfl ht (by omega) ?_
  refine V_if_ge_f i_X11_table_15 (by rw [hz]; decide) ?_
  refine V_al i_X11_table_18 rfl ?_
  refine V_c i_X11_table_19 ?_
  refine P_callV1v i_X11_table_20 mi_X11_found rfl ⟨_, _, rfl⟩ (by decide) (Nat.le_of_ble_eq_true rfl) (c_M_found I J (f := 1) (by decide)) ?_
  exact P_iret i_X11_table_23 rfl ⟨rfl, I, J, FrM.rf, rfl, rfl⟩
set_option maxRecDepth 100000 in
set_option maxHeartbeats 4000000 in
theorem m_fault2 (I : IntM) (J : LngM) {t s : Nat} {v : Nat → Int32} (ht : t < 4) (hs : s ≤ 60) (hz : I 150 t = nI s) (hv : ∀ k, k < s → I 151 (60 * t + k) = v k) : CtP 5 m_X11_fault [.ref 146, .int (nI t)] I J (QM I J (.int (faV (paT v s))) none none none) := by
  refine CtP_of (by decide) rfl (Nat.le_of_ble_eq_true rfl) ?_
  refine V_il i_X11_fault_0 rfl ?_
  refine P_callS1v i_X11_fault_1 ms_X11_isText (by decide) (Nat.le_of_ble_eq_true rfl) (c_M_isText _ _ _) ?_
  refine V_if_ne_t i_X11_fault_4 (by rw [hasN_nI (by decide) ht]; decide) ?_
  refine V_al i_X11_fault_9 rfl ?_
  refine V_getR i_X11_fault_10 rfl rfl ?_
  refine V_il i_X11_fault_13 rfl ?_
  refine K_iald t i_X11_fault_14 rfl rfl ht (by omega) ?_
  refine V_if_ge_t i_X11_fault_15 (by rw [hz]; exact nI_pos' (by omega)) ?_
  refine V_al i_X11_fault_26 rfl ?_
  refine V_il i_X11_fault_27 rfl ?_
  refine P_callV1 i_X11_fault_28 mi_X11_findFault rfl ⟨_, _, rfl⟩ (by decide) (Nat.le_of_ble_eq_true rfl) (m_ff9 I J ht hs hz hv) (fun r9 I1 J1 q => ?_)
  obtain ⟨rfl, f1, h1⟩ := q
  rcases he : paT v s with p | w
  · rw [he] at h1
    change r9 = some (.int (nI p)) at h1
    subst h1
    exact P_iret i_X11_fault_31 rfl ⟨rfl, I1, _, FfF.M _ f1, rfl, rfl⟩
  · rw [he] at h1
    obtain ⟨rfl, b1⟩ := h1
    exact P_iret i_X11_fault_31 rfl ⟨rfl, I1, _, FfF.M _ f1, rfl, rfl⟩
set_option maxRecDepth 100000 in
set_option maxHeartbeats 4000000 in
theorem m_table2 (I : IntM) (J : LngM) {t s : Nat} {v : Nat → Int32} (ht : t < 4) (hs : s ≤ 60) (hz : I 150 t = nI s) (hv : ∀ k, k < s → I 151 (60 * t + k) = v k) {p : Nat} (he : paT v s = .inl p) : CtP 5 m_X11_table [.ref 146, .int (nI t)] I J (QM I J (.int (-4)) none none none) := by
  refine CtP_of (by decide) rfl (Nat.le_of_ble_eq_true rfl) ?_
  refine V_il i_X11_table_0 rfl ?_
  refine P_callS1v i_X11_table_1 ms_X11_isText (by decide) (Nat.le_of_ble_eq_true rfl) (c_M_isText _ _ _) ?_
  refine V_if_ne_t i_X11_table_4 (by rw [hasN_nI (by decide) ht]; decide) ?_
  refine V_al i_X11_table_9 rfl ?_
  refine V_getR i_X11_table_10 rfl rfl ?_
  refine V_il i_X11_table_13 rfl ?_
  refine K_iald t i_X11_table_14 rfl rfl ht (by omega) ?_
  refine V_if_ge_t i_X11_table_15 (by rw [hz]; exact nI_pos' (by omega)) ?_
  refine V_al i_X11_table_24 rfl ?_
  refine V_il i_X11_table_25 rfl ?_
  refine P_callV1 i_X11_table_26 mi_X11_findFault rfl ⟨_, _, rfl⟩ (by decide) (Nat.le_of_ble_eq_true rfl) (m_ff9 I J ht hs hz hv) (fun r9 I1 J1 q => ?_)
  obtain ⟨rfl, f1, h1⟩ := q
  rw [he] at h1
  change r9 = some (.int (nI p)) at h1
  subst h1
  have hp : p ≤ s := by have := pa_ok v s; rw [he] at this; exact this
  refine V_c i_X11_table_29 ?_
  refine V_ic_eq_f i_X11_table_31 (by intro z; have := congrArg Int32.toInt z; rw [nI_toInt (by omega)] at this; have e9 : (-9 : Int32).toInt = -9 := rfl; omega) ?_
  refine V_c i_X11_table_34 ?_
  exact P_iret i_X11_table_36 rfl ⟨rfl, I1, _, FfF.M _ f1, rfl, rfl⟩
set_option maxRecDepth 100000 in
set_option maxHeartbeats 4000000 in
theorem lp_M_sit (I : IntM) (J : LngM) {m : Nat} {kd nd : Nat → Nat} (hm : m ≤ 7) (hz : I 146 19 = nI m) (h5 : AtI I 152 m kd) (h7 : AtI I 153 m nd) (Q : Option Value → IntM → LngM → Prop) (hq : ∀ I2, SiM I I2 m kd nd → VP m_X11_table 5 108 [(0, .ref 146)] [] I2 J Q) : ∀ k i, i + k = m → ∀ I1, SiM I I1 i kd nd → VP m_X11_table 5 63 [(0, .ref 146), (2, .int (nI i))] [] I1 J Q := by
  intro k
  induction k with
  | zero =>
    intro i hi I1 h1
    have e : i = m := by omega
    subst e
    refine V_il i_X11_table_63 rfl ?_
    refine V_al i_X11_table_64 rfl ?_
    refine V_getI i_X11_table_65 rfl ?_
    rw [show I1 146 19 = nI i from (h1.1 _ _ (by decide) (by decide) (by decide)).trans hz]
    refine V_ic_ge_t i_X11_table_68 (Int32.le_refl _) ?_
    refine V_L (L' := [(0, _)]) ⟨rfl, trivial⟩ ?_
    exact hq I1 h1
  | succ k ih =>
    intro i hi I1 h1
    refine V_il i_X11_table_63 rfl ?_
    refine V_al i_X11_table_64 rfl ?_
    refine V_getI i_X11_table_65 rfl ?_
    rw [show I1 146 19 = nI m from (h1.1 _ _ (by decide) (by decide) (by decide)).trans hz]
    refine V_ic_ge_f i_X11_table_68 (nI_ge (by omega) (by omega)) ?_
    refine V_al i_X11_table_71 rfl ?_
    refine V_getR i_X11_table_72 rfl rfl ?_
    refine V_il i_X11_table_75 rfl ?_
    refine V_al i_X11_table_76 rfl ?_
    refine V_getR i_X11_table_77 rfl rfl ?_
    refine V_il i_X11_table_80 rfl ?_
    refine K_iald i i_X11_table_81 rfl rfl (by omega) (by omega) ?_
    refine K_iast i i_X11_table_82 rfl rfl (by omega) (by omega) ?_
    refine V_al i_X11_table_83 rfl ?_
    refine V_getR i_X11_table_84 rfl rfl ?_
    refine V_il i_X11_table_87 rfl ?_
    refine V_al i_X11_table_88 rfl ?_
    refine V_getR i_X11_table_89 rfl rfl ?_
    refine V_il i_X11_table_92 rfl ?_
    refine K_iald i i_X11_table_93 rfl rfl (by omega) (by omega) ?_
    refine K_iast i i_X11_table_94 rfl rfl (by omega) (by omega) ?_
    refine V_al i_X11_table_95 rfl ?_
    refine V_getR i_X11_table_96 rfl rfl ?_
    refine V_il i_X11_table_99 rfl ?_
    refine V_il i_X11_table_100 rfl ?_
    refine K_iast i i_X11_table_101 rfl rfl (by omega) (by omega) ?_
    refine V_iinc (L' := [(0, _), (2, _)]) (n' := 1) i_X11_table_102 (by decide) rfl (by decide) ⟨rfl, rfl, trivial⟩ ?_
    refine V_goto i_X11_table_105 ?_
    refine V_L (L' := [(0, _), (2, _)]) ⟨rfl, rfl, trivial⟩ ?_
    rw [nI_1]
    refine ih (i + 1) (by omega) _ (SiM.s h1 ?_ ?_)
    · exact (h1.1 _ _ (by decide) (by decide) (by decide)).trans (h5 i (by omega))
    · rw [uI_nx (by decide)]
      exact (h1.1 _ _ (by decide) (by decide) (by decide)).trans (h7 i (by omega))

def KpM (I I1 : IntM) (i : Nat) : Prop := (∀ x k, x ≠ 163 → I1 x k = I x k) ∧ ∀ c, c < i → I1 163 c = -1
theorem KpM.s {I I1 : IntM} {i : Nat} (h : KpM I I1 i) : KpM I (uI I1 163 i (-1)) (i + 1) := by
  refine ⟨fun x k q => by rw [uI_nx q]; exact h.1 x k q, fun c hc => ?_⟩
  by_cases e : c = i
  · rw [e, uI_eq]
  · rw [uI_nk e]
    exact h.2 c (by omega)

set_option maxRecDepth 100000 in
set_option maxHeartbeats 4000000 in
theorem lp_M_tkeep (I : IntM) (J : LngM) (Q : Option Value → IntM → LngM → Prop) (hq : ∀ I2, KpM I I2 3 → VP m_X11_table 5 128 [(0, .ref 146)] [] I2 J Q) : ∀ k i, i + k = 3 → ∀ I1, KpM I I1 i → VP m_X11_table 5 110 [(0, .ref 146), (2, .int (nI i))] [] I1 J Q := by
  intro k
  induction k with
  | zero =>
    intro i hi I1 h1
    have e : i = 3 := by omega
    subst e
    refine V_il i_X11_table_110 rfl ?_
    refine V_c i_X11_table_111 ?_
    refine V_ic_ge_t i_X11_table_112 (Int32.le_refl _) ?_
    refine V_L (L' := [(0, _)]) ⟨rfl, trivial⟩ ?_
    exact hq I1 h1
  | succ k ih =>
    intro i hi I1 h1
    refine V_il i_X11_table_110 rfl ?_
    refine V_c i_X11_table_111 ?_
    refine V_ic_ge_f i_X11_table_112 (nI_ge (b := 3) (by omega) (by decide)) ?_
    refine V_al i_X11_table_115 rfl ?_
    refine V_getR i_X11_table_116 rfl rfl ?_
    refine V_il i_X11_table_119 rfl ?_
    refine V_c i_X11_table_120 ?_
    refine K_iast i i_X11_table_121 rfl rfl (by omega) (by omega) ?_
    refine V_iinc (L' := [(0, _), (2, _)]) (n' := 1) i_X11_table_122 (by decide) rfl (by decide) ⟨rfl, rfl, trivial⟩ ?_
    refine V_goto i_X11_table_125 ?_
    refine V_L (L' := [(0, _), (2, _)]) ⟨rfl, rfl, trivial⟩ ?_
    rw [nI_1]
    exact ih (i + 1) (by omega) _ (KpM.s h1)

def TabM (I : IntM) (J : LngM) (P l m : Nat) (kd nd : Nat → Nat) (I1 : IntM) (J1 : LngM) : Prop := (∀ x k, ¬ (x = 146 ∧ ((9 ≤ k ∧ k ≤ 14) ∨ (17 ≤ k ∧ k ≤ 19) ∨ k = 30 ∨ k = 32)) → ¬ (152 ≤ x ∧ x ≤ 156) → x ≠ 160 → x ≠ 163 → I1 x k = I x k) ∧ (∀ x k, ¬ (x = 146 ∧ (k = 35 ∨ k = 36)) → J1 x k = J x k) ∧ (I1 146 17 = nI P ∧ I1 146 18 = nI l ∧ I1 146 19 = nI m ∧ AtI I1 154 m kd ∧ AtI I1 155 m nd ∧ AtI I1 156 m (fun i => i)) ∧ (I1 146 30 = 0 ∧ I1 146 32 = 0 ∧ AtI I1 160 m (fun i => i) ∧ J1 146 35 = lN P ∧ J1 146 36 = 1) ∧ ∀ c, c < 3 → I1 163 c = -1

set_option maxRecDepth 100000 in
set_option maxHeartbeats 4000000 in
theorem m_table3 (I : IntM) (J : LngM) {t s : Nat} {v : Nat → Int32} (ht : t < 4) (hs : s ≤ 60) (hz : I 150 t = nI s) (hv : ∀ k, k < s → I 151 (60 * t + k) = v k) {q : Nat × Nat × Nat × (Nat → Nat) × (Nat → Nat)} (he : paT v s = .inr q) : CtP 5 m_X11_table [.ref 146, .int (nI t)] I J (fun r I9 J9 => r = some (.int (nI q.2.2.1)) ∧ TabM I J q.1 q.2.1 q.2.2.1 q.2.2.2.1 q.2.2.2.2 I9 J9) := by
  refine CtP_of (by decide) rfl (Nat.le_of_ble_eq_true rfl) ?_
  refine V_il i_X11_table_0 rfl ?_
  refine P_callS1v i_X11_table_1 ms_X11_isText (by decide) (Nat.le_of_ble_eq_true rfl) (c_M_isText _ _ _) ?_
  refine V_if_ne_t i_X11_table_4 (by rw [hasN_nI (by decide) ht]; decide) ?_
  refine V_al i_X11_table_9 rfl ?_
  refine V_getR i_X11_table_10 rfl rfl ?_
  refine V_il i_X11_table_13 rfl ?_
  refine K_iald t i_X11_table_14 rfl rfl ht (by omega) ?_
  refine V_if_ge_t i_X11_table_15 (by rw [hz]; exact nI_pos' (by omega)) ?_
  refine V_al i_X11_table_24 rfl ?_
  refine V_il i_X11_table_25 rfl ?_
  refine P_callV1 i_X11_table_26 mi_X11_findFault rfl ⟨_, _, rfl⟩ (by decide) (Nat.le_of_ble_eq_true rfl) (m_ff9 I J ht hs hz hv) (fun r9 I1 J1 q9 => ?_)
  obtain ⟨rfl, f1, h1⟩ := q9
  have hok := pa_ok v s
  rw [he] at h1 hok
  obtain ⟨rfl, hP, hl, hm, h5, h7⟩ := h1
  obtain ⟨p1, p9, l3, m7, kd5, nd99⟩ := hok
  refine V_c i_X11_table_29 ?_
  refine V_ic_eq_t i_X11_table_31 rfl ?_
  refine V_al i_X11_table_37 rfl ?_
  refine V_al i_X11_table_38 rfl ?_
  refine V_getI i_X11_table_39 rfl ?_
  rw [hP]
  refine V_putI i_X11_table_42 rfl ?_
  refine V_al i_X11_table_45 rfl ?_
  refine V_al i_X11_table_46 rfl ?_
  refine V_getI i_X11_table_47 rfl ?_
  rw [uI_nk (by decide), hl]
  refine V_putI i_X11_table_50 rfl ?_
  refine V_al i_X11_table_53 rfl ?_
  refine V_al i_X11_table_54 rfl ?_
  refine V_getI i_X11_table_55 rfl ?_
  rw [uI_nk (by decide), uI_nk (by decide), hm]
  obtain ⟨I2, hI2⟩ : ∃ y, y = uI (uI (uI I1 146 17 (nI q.1)) 146 18 (nI q.2.1)) 146 19 (nI q.2.2.1) := ⟨_, rfl⟩
  refine V_putI i_X11_table_58 rfl ?_
  refine V_c i_X11_table_61 ?_
  refine V_is (L' := [(0, _), (2, _)]) i_X11_table_62 (by decide) ⟨rfl, rfl, trivial⟩ ?_
  refine V_L (L' := [(0, _), (2, _)]) ⟨rfl, rfl, trivial⟩ ?_
  rw [← hI2]
  have f2 : ∀ x k, ¬ (x = 146 ∧ 17 ≤ k ∧ k ≤ 19) → I2 x k = I1 x k := fun x k h => by rw [hI2, uI_ne _ _ (by intro z; cases z; omega), uI_ne _ _ (by intro z; cases z; omega), uI_ne _ _ (by intro z; cases z; omega)]
  have hP2 : I2 146 17 = nI q.1 := by rw [hI2, uI_nk (by decide), uI_nk (by decide), uI_eq]
  have hl2 : I2 146 18 = nI q.2.1 := by rw [hI2, uI_nk (by decide), uI_eq]
  have hm2 : I2 146 19 = nI q.2.2.1 := by rw [hI2, uI_eq]
  refine lp_M_sit I2 _ m7 hm2 (AtI.congr (fun k => f2 _ _ (by omega)) h5) (AtI.congr (fun k => f2 _ _ (by omega)) h7) _ (fun I3 s3 => ?_) q.2.2.1 0 (Nat.zero_add _) I2 ⟨fun _ _ _ _ _ => rfl, fun k hk => absurd hk (Nat.not_lt_zero k), fun k hk => absurd hk (Nat.not_lt_zero k), fun k hk => absurd hk (Nat.not_lt_zero k)⟩
  refine V_c i_X11_table_108 ?_
  refine V_is (L' := [(0, _), (2, _)]) i_X11_table_109 (by decide) ⟨rfl, rfl, trivial⟩ ?_
  refine V_L (L' := [(0, _), (2, _)]) ⟨rfl, rfl, trivial⟩ ?_
  refine lp_M_tkeep I3 _ _ (fun I4 s4 => ?_) 3 0 rfl I3 ⟨fun _ _ _ => rfl, fun c hc => absurd hc (Nat.not_lt_zero c)⟩
  have x4 : ∀ x k, x ≠ 163 → x ≠ 154 → x ≠ 155 → x ≠ 156 → I4 x k = I2 x k := fun x k a b c d => (s4.1 x k a).trans (s3.1 x k b c d)
  have a4 := AtI.congr (fun k => s4.1 154 k (by decide)) s3.2.1
  have a5 := AtI.congr (fun k => s4.1 155 k (by decide)) s3.2.2.1
  have a6 := AtI.congr (fun k => s4.1 156 k (by decide)) s3.2.2.2
  have n4 : I4 146 19 = nI q.2.2.1 := (x4 _ _ (by decide) (by decide) (by decide) (by decide)).trans hm2
  have hK : MK I4 q.2.2.1 q.2.2.2.1 q.2.2.2.2 (fun i => i) q.2.1 q.1 := ⟨⟨m7, kd5, nd99, fun i hi => hi, fun i j _ _ e => e⟩, l3, p9, ⟨n4, a4, a5⟩, a6, (x4 _ _ (by decide) (by decide) (by decide) (by decide)).trans hl2, (x4 _ _ (by decide) (by decide) (by decide) (by decide)).trans hP2⟩
  have x9 : ∀ x k, ¬ (x = 146 ∧ (k = 30 ∨ k = 32)) → x ≠ 160 → (putI (uI (uI I4 146 30 (nI 0)) 146 32 0) 160 q.2.2.1 ((uI (uI I4 146 30 (nI 0)) 146 32 0) 156)) x k = I4 x k := fun x k a b => by unfold putI; rw [if_neg (by omega), uI_ne _ _ (by intro z; cases z; omega), uI_ne _ _ (by intro z; cases z; omega)]
  have g19 := (x9 146 19 (by decide) (by decide)).trans n4
  refine V_al i_X11_table_128 rfl ?_
  refine V_c i_X11_table_129 ?_
  refine P_callV1u i_X11_table_130 mi_X11_begins rfl ⟨_, _, rfl⟩ (by decide) (Nat.le_of_ble_eq_true rfl) (c_M_begins (how := 0) I4 _ hK) ?_
  refine V_al i_X11_table_133 rfl ?_
  refine V_getI i_X11_table_134 rfl ?_
  rw [show (putI (uI (uI I4 146 30 (nI 0)) 146 32 0) 160 q.2.2.1 ((uI (uI I4 146 30 (nI 0)) 146 32 0) 156)) 146 19 = nI q.2.2.1 from g19]
  refine P_iret i_X11_table_137 rfl ⟨rfl, fun x k a b c d => (x9 x k (by omega) c).trans ((x4 x k d (by omega) (by omega) (by omega)).trans ((f2 x k (by omega)).trans (f1 x k (by omega) (by omega) (by omega)))), fun x k a => by rw [uJ_ne _ _ (by intro z; cases z; omega), uJ_ne _ _ (by intro z; cases z; omega)], ⟨(x9 _ _ (by decide) (by decide)).trans ((x4 _ _ (by decide) (by decide) (by decide) (by decide)).trans hP2), (x9 _ _ (by decide) (by decide)).trans ((x4 _ _ (by decide) (by decide) (by decide) (by decide)).trans hl2), g19, AtI.congr (fun k => x9 _ _ (by omega) (by decide)) a4, AtI.congr (fun k => x9 _ _ (by omega) (by decide)) a5, AtI.congr (fun k => x9 _ _ (by omega) (by decide)) a6⟩, ⟨rfl, rfl, ?_, rfl, rfl⟩, fun c hc => (x9 _ _ (by omega) (by decide)).trans (s4.2 c hc)⟩
  intro k hk
  show (if 160 = 160 ∧ k < q.2.2.1 then _ else _) = _
  rw [if_pos ⟨rfl, hk⟩, uI_nx (by decide), uI_nx (by decide)]
  exact a6 k hk

theorem Pair.sem {d1 d2 : Nat} {m1 m2 : Mth} {as1 as2 : List Value} {I : IntM} {J : LngM} {v : Value} {C M : IntM → LngM → IntM → LngM → Prop} (hc : CtP d1 m1 as1 I J (fun r I1 J1 => r = some v ∧ C I J I1 J1)) (hm : ∀ I1 J1, C I J I1 J1 → CtP d2 m2 as2 I1 J1 (fun r I2 J2 => r = some v ∧ M I1 J1 I2 J2)) (h : ∀ I1 J1 I2 J2, C I J I1 J1 → M I1 J1 I2 J2 → Inv I2 J2) (hv : KV m1 v := by first | exact (show ∃ z : Int32, _ = Value.int z from ⟨_, rfl⟩) | exact (show ∃ z : Int64, _ = Value.long z from ⟨_, rfl⟩)) : Pair d1 m1 as1 d2 m2 as2 I J :=
  ⟨v, hv, CtP_mono hc (fun r I1 J1 q => ⟨q.1, CtP_mono (hm I1 J1 q.2) (fun r' I2 J2 q' => ⟨q'.1, h I1 J1 I2 J2 q.2 q'.2⟩)⟩)⟩
theorem Inv.text {I : IntM} {J : LngM} (h : Inv I J) {t : Nat} (ht : t < 4) : (I (123 + 2 * t) 1 = -1 ∧ I 150 t = -1) ∨ ∃ s, s ≤ 60 ∧ I (123 + 2 * t) 1 = nI s ∧ I 150 t = nI s ∧ ∀ i, i < s → I (123 + 2 * t + 1) i = I 151 (60 * t + i) := by
  obtain ⟨⟨n, kd, nd, od, lw, pot, hP⟩, -⟩ := h
  exact ro_size hP.2.2.2.2.1 ht
theorem p_fault {I : IntM} {J : LngM} (h : Inv I J) (x : Int32) : Pair 6 m_X10_fault [.ref 0, .int x] 5 m_X11_fault [.ref 146, .int x] I J := by
  obtain ⟨n, kd, nd, od, lw, pot, hP⟩ := h.1
  by_cases hx : hasC 4 x = 0
  · exact Pair.q h (fun _ => no_f) (c_fault0 I J h.2.2 hx) (fun I1 J1 e1 e2 => m_fault0 I1 J1 hx)
  obtain ⟨t, ht, rfl⟩ := hasC_yes (by decide) hx
  rcases h.text ht with ⟨g1, g2⟩ | ⟨s, hs, g1, g2, g3⟩
  · exact Pair.q h (fun f q => by cases q; decide) (c_fault1 I J h.2.2 ht g1) (fun I1 J1 e1 e2 => m_fault1 I1 J1 ht ((e1 _ _ (by decide)).trans g2))
  · exact Pair.q h (fun _ => no_f) (c_fault2 I J h.2.2 ht hs g1 hP.2.2.2.2.2.2.1 hP.2.2.2.2.2.2.2.1) (fun I1 J1 e1 e2 => m_fault2 I1 J1 ht hs ((e1 _ _ (by decide)).trans g2) (fun k hk => (e1 _ _ (by decide)).trans (g3 k hk).symm))
theorem Inv.table {I I1 I2 : IntM} {J J1 J2 : LngM} {P l m : Nat} {kd nd : Nat → Nat} (hok : 1 ≤ P ∧ P ≤ 999 ∧ l ≤ 3 ∧ m ≤ 7 ∧ (∀ i, i < m → kd i ≤ 5) ∧ ∀ i, i < m → nd i ≤ 99) (h : Inv I J) (hc : TabC I J P l m kd nd I1 J1) (hm : TabM I1 J1 P l m kd nd I2 J2) : Inv I2 J2 := by
  obtain ⟨⟨n, kd0, nd0, od0, lw0, pot0, hK, hE, hV, hR, hT4, hF, z4, z6, z16⟩, hT, hZ⟩ := h
  obtain ⟨p1, p9, l3, m7, kd5, nd99⟩ := hok
  obtain ⟨c1, c2, ⟨c3, c4, c5, c6, c7, c8⟩, ⟨e1, e2, e3, e4, e5⟩, ck⟩ := hc
  obtain ⟨m1, m2, ⟨m3, m4, m5, m6, m7', m8⟩, ⟨u1, u2, u3, u4, u5⟩, mk⟩ := hm
  have kI : ∀ x k, x < 146 → I2 x k = I1 x k := fun x k a => m1 x k (by omega) (by omega) (by omega) (by omega)
  have kJ : ∀ x k, x < 146 → J2 x k = J1 x k := fun x k a => m2 x k (by omega)
  have oI : ∀ x k, ¬ (x = 3 ∨ x = 5 ∨ x = 7) → ¬ (x = 8 ∧ 3 ≤ k ∧ k ≤ 5) → x ≠ 10 → x ≠ 12 → x ≠ 14 → x ≠ 15 → x ≠ 17 → ¬ ((x = 131 ∨ x = 136 ∨ x = 141) ∧ k = 2) → ¬ (x = 146 ∧ ((9 ≤ k ∧ k ≤ 14) ∨ (17 ≤ k ∧ k ≤ 19) ∨ k = 30 ∨ k = 32)) → ¬ (152 ≤ x ∧ x ≤ 156) → x ≠ 160 → x ≠ 163 → I2 x k = I x k := fun x k a1 a2 a3 a4 a5 a6 a7 a8 a9 a10 a11 a12 => (m1 x k a9 a10 a11 a12).trans (c1 x k a1 a2 a3 a4 a5 a6 a7 a8)
  have oJ : ∀ x k, ¬ (x = 15 ∧ k = 5) → ¬ (x = 146 ∧ (k = 35 ∨ k = 36)) → J2 x k = J x k := fun x k a b => (m2 x k b).trans (c2 x k a)
  have s9 : CSz I2 := by
    obtain ⟨-, -, -, ⟨-, -, -, -, a, b, c⟩, -⟩ := hK
    exact ⟨(oI _ _ (by decide) (by decide) (by decide) (by decide) (by decide) (by decide) (by decide) (by decide) (by decide) (by decide) (by decide) (by decide)).trans a, (oI _ _ (by decide) (by decide) (by decide) (by decide) (by decide) (by decide) (by decide) (by decide) (by decide) (by decide) (by decide) (by decide)).trans b, (oI _ _ (by decide) (by decide) (by decide) (by decide) (by decide) (by decide) (by decide) (by decide) (by decide) (by decide) (by decide) (by decide)).trans c⟩
  have hC : CoOK m kd nd (fun i => i) := ⟨m7, kd5, nd99, fun i hi => hi, fun i j _ _ e => e⟩
  refine ⟨⟨m, kd, nd, (fun i => i), l, P, ⟨hC, l3, p9, ⟨(kI _ _ (by decide)).trans c3, AtI.congr (fun k => kI _ _ (by decide)) c6, AtI.congr (fun k => kI _ _ (by decide)) c7, AtI.congr (fun k => kI _ _ (by decide)) c8, s9⟩, (kI _ _ (by decide)).trans c4, (kI _ _ (by decide)).trans c5, ⟨m5, m6, m7'⟩, m8, m4, m3⟩, ?_, ?_, ?_, ?_, ?_, ?_, ?_, ?_⟩, ?_, ?_⟩
  · refine ⟨0, 0, (fun i => i), P * un 0, (fun _ => 0), ⟨by decide, Nat.zero_le _, ⟨fun i hi => hi, fun i j _ _ e => e⟩, Nat.mul_le_mul_right _ p9, fun _ => ?_, fun i hi => absurd hi (Nat.not_lt_zero i)⟩, ⟨(kI _ _ (by decide)).trans e1, (kI _ _ (by decide)).trans e2, (kJ _ _ (by decide)).trans e5, (kI _ _ (by decide)).trans e3, AtI.congr (fun k => kI _ _ (by decide)) e4, fun i hi => absurd hi (Nat.not_lt_zero i)⟩, ⟨u1, u2, ?_, u3, fun i hi => absurd hi (Nat.not_lt_zero i)⟩⟩
    · rw [un0]
      exact Nat.dvd_mul_left _ _
    · rw [u4, u5]
      exact Fr.of_pot 0 P
  · intro c hc
    refine ⟨?_, Or.inl ⟨?_, mk c hc⟩⟩
    · exact (oI _ _ (by omega) (by omega) (by omega) (by omega) (by omega) (by omega) (by omega) (by omega) (by omega) (by omega) (by omega) (by omega)).trans (hV c hc).1
    · exact (kI _ _ (by omega)).trans (ck c hc)
  · exact RoI.congr (fun x k q => oI x k (by omega) (by omega) (by omega) (by omega) (by omega) (by omega) (by omega) (by omega) (by omega) (by omega) (by omega) (by omega)) hR
  · exact RoI.congr (fun x k q => oI x k (by omega) (by omega) (by omega) (by omega) (by omega) (by omega) (by omega) (by omega) (by omega) (by omega) (by omega) (by omega)) hT4
  · exact FiI.congr (fun x k q => oI x k (by omega) (by omega) (by omega) (by omega) (by omega) (by omega) (by omega) (by omega) (by omega) (by omega) (by omega) (by omega)) hF
  · exact (oI _ _ (by decide) (by decide) (by decide) (by decide) (by decide) (by decide) (by decide) (by decide) (by decide) (by decide) (by decide) (by decide)).trans z4
  · exact (oI _ _ (by decide) (by decide) (by decide) (by decide) (by decide) (by decide) (by decide) (by decide) (by decide) (by decide) (by decide) (by decide)).trans z6
  · exact (oI _ _ (by decide) (by decide) (by decide) (by decide) (by decide) (by decide) (by decide) (by decide) (by decide) (by decide) (by decide) (by decide)).trans z16
  · obtain ⟨t1, t2, t3⟩ := hT
    exact ⟨by rw [oI 0 13 (by decide) (by decide) (by decide) (by decide) (by decide) (by decide) (by decide) (by decide) (by decide) (by decide) (by decide) (by decide), oI 146 2 (by decide) (by decide) (by decide) (by decide) (by decide) (by decide) (by decide) (by decide) (by decide) (by decide) (by decide) (by decide)]; exact t1, by rw [oJ 0 14 (by decide) (by decide), oJ 146 3 (by decide) (by decide)]; exact t2, by rw [oJ 0 15 (by decide) (by decide), oJ 146 4 (by decide) (by decide)]; exact t3⟩
  · exact ISz.congr (fun x k q => oI x k (by omega) (by omega) (by omega) (by omega) (by omega) (by omega) (by omega) (by omega) (by omega) (by omega) (by omega) (by omega)) hZ
theorem p_table {I : IntM} {J : LngM} (h : Inv I J) (x : Int32) : Pair 6 m_X10_table [.ref 0, .int x] 5 m_X11_table [.ref 146, .int x] I J := by
  obtain ⟨n, kd, nd, od, lw, pot, hP⟩ := h.1
  have z4 := hP.2.2.2.2.2.2.1
  have z6 := hP.2.2.2.2.2.2.2.1
  by_cases hx : hasC 4 x = 0
  · exact Pair.q h (fun _ => no_f) (c_table0 I J h.2.2 hx) (fun I1 J1 e1 e2 => m_table0 I1 J1 hx)
  obtain ⟨t, ht, rfl⟩ := hasC_yes (by decide) hx
  rcases h.text ht with ⟨g1, g2⟩ | ⟨s, hs, g1, g2, g3⟩
  · exact Pair.q h (fun f q => by cases q; decide) (c_table1 I J h.2.2 ht g1) (fun I1 J1 e1 e2 => m_table1 I1 J1 ht ((e1 _ _ (by decide)).trans g2))
  cases he : paT (I (123 + 2 * t + 1)) s with
  | inl p => exact Pair.q h (fun _ => no_f) (c_table2 I J h.2.2 ht hs g1 z4 z6 he) (fun I1 J1 e1 e2 => m_table2 I1 J1 ht hs ((e1 _ _ (by decide)).trans g2) (fun k hk => (e1 _ _ (by decide)).trans (g3 k hk).symm) he)
  | inr q =>
    have hok := pa_ok (I (123 + 2 * t + 1)) s
    rw [he] at hok
    obtain ⟨s9, s11, s13⟩ := hP.1.2.2.2.1.2.2.2.2
    refine Pair.sem (C := fun I J I1 J1 => TabC I J q.1 q.2.1 q.2.2.1 q.2.2.2.1 q.2.2.2.2 I1 J1) (M := fun I J I1 J1 => TabM I J q.1 q.2.1 q.2.2.1 q.2.2.2.1 q.2.2.2.2 I1 J1) (c_table3 I J h.2.2 s9 s11 s13 hP.2.2.2.2.2.2.2.2 ht hs g1 z4 z6 he) (fun I1 J1 hc => ?_) (fun I1 J1 I2 J2 hc hm => Inv.table hok h hc hm)
    have e1 : ∀ x k, 146 ≤ x → I1 x k = I x k := fun x k a => hc.1 x k (by omega) (by omega) (by omega) (by omega) (by omega) (by omega) (by omega) (by omega)
    exact m_table3 I1 J1 ht hs ((e1 _ _ (by decide)).trans g2) (fun k hk => (e1 _ _ (by decide)).trans (g3 k hk).symm) he



/-! ===== even: the class ===== -/
theorem nI_addb {a : Nat} {b : Bool} : nI a + (if b = true then nI 1 else nI 0) = nI (a + if b = true then 1 else 0) := by
  cases b
  · exact Int32.add_zero _
  · exact nI_1 a
theorem minI_nI {a b : Nat} (ha : a < 2 ^ 31) (hb : b < 2 ^ 31) : minI (nI a) (nI b) = nI (min a b) := by
  unfold minI
  by_cases h : b < a
  · rw [if_pos ((nI_ltI hb ha).mpr h), Nat.min_eq_right (by omega)]
  · rw [if_neg (fun z => h ((nI_ltI hb ha).mp z)), Nat.min_eq_left (by omega)]
theorem fdD_le {n : Nat} {c : Nat → Nat} : ∀ m, fdD n c m ≤ m
  | 0 => Nat.le_refl _
  | m + 1 => by
    have ih := fdD_le (n := n) (c := c) m
    unfold fdD
    split <;> omega
theorem tmN_le {fb c : Nat → Nat} {k : Nat} : ∀ d, tmN fb c d k ≤ d
  | 0 => Nat.le_refl _
  | d + 1 => by
    have ih := tmN_le (fb := fb) (c := c) (k := k) d
    unfold tmN at ih ⊢
    show sumN _ d + (if (fb (c d)).testBit k = true then 1 else 0) ≤ d + 1
    split <;> omega

set_option maxRecDepth 100000 in
set_option maxHeartbeats 4000000 in
theorem lp_lof1 (I : IntM) (J : LngM) {n d : Nat} {fb c : Nat → Nat} (hn : n ≤ 7) (hd : d ≤ 4) (z1 : I 106 1 = nI 4) (z2 : I 104 1 = nI 7) (hc : AtI I 107 d c) (hcn : ∀ i, i < d → c i < n) (hf : AtI I 105 n fb) (hfb : ∀ t, t < n → fb t < 128) {k l : Nat} (hk : k < n) (Q : Option Value → IntM → LngM → Prop) (hq : VP m_X1_leastOftenFed 3 55 [(0, .ref 90), (1, .int (nI n)), (2, .int (nI d)), (3, .int (nI l)), (4, .int (nI k)), (5, .int (nI (tmN fb c d k)))] [] I J Q) : VP m_X1_leastOftenFed 3 17 [(0, .ref 90), (1, .int (nI n)), (2, .int (nI d)), (3, .int (nI l)), (4, .int (nI k)), (5, .int 0), (6, .int 0)] [] I J Q := by
  have key : ∀ i, i ≤ d → VP m_X1_leastOftenFed 3 17 [(0, .ref 90), (1, .int (nI n)), (2, .int (nI d)), (3, .int (nI l)), (4, .int (nI k)), (5, .int (nI (tmN fb c i k))), (6, .int (nI i))] [] I J Q := by
    refine down d ?_ (fun i hi ih => ?_)
    · refine V_il i_X1_leastOftenFed_17 rfl ?_
      refine V_il i_X1_leastOftenFed_19 rfl ?_
      refine V_ic_ge_t i_X1_leastOftenFed_20 (Int32.le_refl _) ?_
      exact V_L (L' := [(0, _), (1, _), (2, _), (3, _), (4, _), (5, _)]) ⟨rfl, rfl, rfl, rfl, rfl, rfl, trivial⟩ hq
    · refine V_il i_X1_leastOftenFed_17 rfl ?_
      refine V_il i_X1_leastOftenFed_19 rfl ?_
      refine V_ic_ge_f i_X1_leastOftenFed_20 (nI_ge hi (by omega)) ?_
      refine V_il i_X1_leastOftenFed_23 rfl ?_
      refine V_al i_X1_leastOftenFed_25 rfl ?_
      refine V_getR i_X1_leastOftenFed_26 rfl rfl ?_
      refine V_al i_X1_leastOftenFed_29 rfl ?_
      refine V_getR i_X1_leastOftenFed_30 rfl rfl ?_
      refine V_il i_X1_leastOftenFed_33 rfl ?_
      refine P_callV1v i_X1_leastOftenFed_35 mi_X3_get rfl ⟨_, _, rfl⟩ (by decide) (Nat.le_of_ble_eq_true rfl) (c_I_getN (x := 106) (n := 4) (s := 4) (k := i) _ _ ⟨rfl, rfl, rfl, by decide⟩ z1 rfl (by omega) (by decide)) ?_
      rw [show I (106 + 1) i = nI (c i) from hc i hi]
      refine P_callV1v i_X1_leastOftenFed_38 mi_X3_get rfl ⟨_, _, rfl⟩ (by decide) (Nat.le_of_ble_eq_true rfl) (c_I_getN (x := 104) (n := 7) (s := 7) (k := c i) _ _ ⟨rfl, rfl, rfl, by decide⟩ z2 rfl (by have := hcn i hi; omega) (by decide)) ?_
      rw [show I (104 + 1) (c i) = nI (fb (c i)) from hf _ (hcn i hi)]
      refine V_il i_X1_leastOftenFed_41 rfl ?_
      refine V_ishr i_X1_leastOftenFed_43 ?_
      refine V_c i_X1_leastOftenFed_44 ?_
      refine V_iand i_X1_leastOftenFed_45 ?_
      rw [shr_tab _ (hfb _ (hcn i hi)) _ (by omega)]
      refine V_iadd i_X1_leastOftenFed_46 ?_
      rw [nI_addb]
      refine V_is (L' := [(0, _), (1, _), (2, _), (3, _), (4, _), (5, _), (6, _)]) i_X1_leastOftenFed_47 (by decide) ⟨rfl, rfl, rfl, rfl, rfl, rfl, rfl, trivial⟩ ?_
      refine V_iinc (L' := [(0, _), (1, _), (2, _), (3, _), (4, _), (5, _), (6, _)]) (n' := 1) i_X1_leastOftenFed_49 (by decide) rfl (by decide) ⟨rfl, rfl, rfl, rfl, rfl, rfl, rfl, trivial⟩ ?_
      refine V_goto i_X1_leastOftenFed_52 ?_
      refine V_L (L' := [(0, _), (1, _), (2, _), (3, _), (4, _), (5, _), (6, _)]) ⟨rfl, rfl, rfl, rfl, rfl, rfl, rfl, trivial⟩ ?_
      rw [show nI i + 1 = nI (i + 1) from nI_1 i]
      exact ih
  exact key 0 (Nat.zero_le _)
set_option maxRecDepth 100000 in
set_option maxHeartbeats 4000000 in
theorem lp_lof2 (I : IntM) (J : LngM) {n d : Nat} {fb c : Nat → Nat} (hn : n ≤ 7) (hd : d ≤ 4) (z1 : I 106 1 = nI 4) (z2 : I 104 1 = nI 7) (hc : AtI I 107 d c) (hcn : ∀ i, i < d → c i < n) (hf : AtI I 105 n fb) (hfb : ∀ t, t < n → fb t < 128) (Q : Option Value → IntM → LngM → Prop) (hq : Q (some (.int (nI (fwN (tmN fb c d) d n)))) I J) : VP m_X1_leastOftenFed 3 5 [(0, .ref 90), (1, .int (nI n)), (2, .int (nI d)), (3, .int (nI d)), (4, .int 0)] [] I J Q := by
  have key : ∀ i, i ≤ n → VP m_X1_leastOftenFed 3 5 [(0, .ref 90), (1, .int (nI n)), (2, .int (nI d)), (3, .int (nI (fwN (tmN fb c d) d i))), (4, .int (nI i))] [] I J Q := by
    refine down n ?_ (fun i hi ih => ?_)
    · refine V_il i_X1_leastOftenFed_5 rfl ?_
      refine V_il i_X1_leastOftenFed_7 rfl ?_
      refine V_ic_ge_t i_X1_leastOftenFed_8 (Int32.le_refl _) ?_
      refine V_il i_X1_leastOftenFed_68 rfl ?_
      exact P_iret i_X1_leastOftenFed_69 rfl hq
    · refine V_il i_X1_leastOftenFed_5 rfl ?_
      refine V_il i_X1_leastOftenFed_7 rfl ?_
      refine V_ic_ge_f i_X1_leastOftenFed_8 (nI_ge hi (by omega)) ?_
      refine V_c i_X1_leastOftenFed_11 ?_
      refine V_is (L' := [(0, _), (1, _), (2, _), (3, _), (4, _), (5, _)]) i_X1_leastOftenFed_12 (by decide) ⟨rfl, rfl, rfl, rfl, rfl, rfl, trivial⟩ ?_
      refine V_c i_X1_leastOftenFed_14 ?_
      refine V_is (L' := [(0, _), (1, _), (2, _), (3, _), (4, _), (5, _), (6, _)]) i_X1_leastOftenFed_15 (by decide) ⟨rfl, rfl, rfl, rfl, rfl, rfl, rfl, trivial⟩ ?_
      refine V_L (L' := [(0, _), (1, _), (2, _), (3, _), (4, _), (5, _), (6, _)]) ⟨rfl, rfl, rfl, rfl, rfl, rfl, rfl, trivial⟩ ?_
      refine lp_lof1 I J hn hd z1 z2 hc hcn hf hfb hi Q ?_
      refine V_il i_X1_leastOftenFed_55 rfl ?_
      refine V_il i_X1_leastOftenFed_56 rfl ?_
      refine V_min i_X1_leastOftenFed_58 (by decide) (Nat.le_refl 0) (Nat.le_refl 0) (Nat.le_of_ble_eq_true rfl) ?_
      rw [minI_nI (by have := fwN_le (T := tmN fb c d) (d := d) i; omega) (by have := tmN_le (fb := fb) (c := c) (k := i) d; omega)]
      refine V_is (L' := [(0, _), (1, _), (2, _), (3, _), (4, _)]) i_X1_leastOftenFed_61 (by decide) ⟨rfl, rfl, rfl, rfl, rfl, trivial⟩ ?_
      refine V_iinc (L' := [(0, _), (1, _), (2, _), (3, _), (4, _)]) (n' := 1) i_X1_leastOftenFed_62 (by decide) rfl (by decide) ⟨rfl, rfl, rfl, rfl, rfl, trivial⟩ ?_
      refine V_goto i_X1_leastOftenFed_65 ?_
      refine V_L (L' := [(0, _), (1, _), (2, _), (3, _), (4, _)]) ⟨rfl, rfl, rfl, rfl, rfl, trivial⟩ ?_
      rw [show nI i + 1 = nI (i + 1) from nI_1 i]
      exact ih
  exact key 0 (Nat.zero_le _)
set_option maxRecDepth 100000 in
set_option maxHeartbeats 4000000 in
theorem c_lof (I : IntM) (J : LngM) {n d : Nat} {fb c : Nat → Nat} (hn : n ≤ 7) (hd : d ≤ 4) (z1 : I 106 1 = nI 4) (z2 : I 104 1 = nI 7) (hc : AtI I 107 d c) (hcn : ∀ i, i < d → c i < n) (hf : AtI I 105 n fb) (hfb : ∀ t, t < n → fb t < 128) : CtV 3 m_X1_leastOftenFed [.ref 90, .int (nI n), .int (nI d)] I J (.int (nI (fwN (tmN fb c d) d n))) I J := by
  refine CtV_of (by decide) rfl (Nat.le_of_ble_eq_true rfl) ?_
  refine V_il i_X1_leastOftenFed_0 rfl ?_
  refine V_is (L' := [(0, _), (1, _), (2, _), (3, _)]) i_X1_leastOftenFed_1 (by decide) ⟨rfl, rfl, rfl, rfl, trivial⟩ ?_
  refine V_c i_X1_leastOftenFed_2 ?_
  refine V_is (L' := [(0, _), (1, _), (2, _), (3, _), (4, _)]) i_X1_leastOftenFed_3 (by decide) ⟨rfl, rfl, rfl, rfl, rfl, trivial⟩ ?_
  refine V_L (L' := [(0, _), (1, _), (2, _), (3, _), (4, _)]) ⟨rfl, rfl, rfl, rfl, rfl, trivial⟩ ?_
  exact lp_lof2 I J hn hd z1 z2 hc hcn hf hfb _ ⟨rfl, rfl, rfl⟩
set_option maxRecDepth 100000 in
set_option maxHeartbeats 4000000 in
theorem lp_fig (I : IntM) (J : LngM) {d : Nat} {c : Nat → Nat} (hd : d ≤ 4) (z1 : I 106 1 = nI 4) (hc : AtI I 107 d c) (Q : Option Value → IntM → LngM → Prop) (hq : Q (some (.int (nI (fgN c d)))) I J) : VP m_X1_figures 3 4 [(0, .ref 90), (1, .int (nI d)), (2, .int 0), (3, .int 0)] [] I J Q := by
  have key : ∀ i, i ≤ d → VP m_X1_figures 3 4 [(0, .ref 90), (1, .int (nI d)), (2, .int (nI (fgN c i))), (3, .int (nI i))] [] I J Q := by
    refine down d ?_ (fun i hi ih => ?_)
    · refine V_il i_X1_figures_4 rfl ?_
      refine V_il i_X1_figures_5 rfl ?_
      refine V_ic_ge_t i_X1_figures_6 (Int32.le_refl _) ?_
      refine V_il i_X1_figures_29 rfl ?_
      exact P_iret i_X1_figures_30 rfl hq
    · refine V_il i_X1_figures_4 rfl ?_
      refine V_il i_X1_figures_5 rfl ?_
      refine V_ic_ge_f i_X1_figures_6 (nI_ge hi (by omega)) ?_
      refine V_il i_X1_figures_9 rfl ?_
      refine V_c i_X1_figures_10 ?_
      refine V_imul i_X1_figures_12 ?_
      refine V_al i_X1_figures_13 rfl ?_
      refine V_getR i_X1_figures_14 rfl rfl ?_
      refine V_il i_X1_figures_17 rfl ?_
      refine P_callV1v i_X1_figures_18 mi_X3_get rfl ⟨_, _, rfl⟩ (by decide) (Nat.le_of_ble_eq_true rfl) (c_I_getN (x := 106) (n := 4) (s := 4) (k := i) _ _ ⟨rfl, rfl, rfl, by decide⟩ z1 rfl (by omega) (by decide)) ?_
      rw [show I (106 + 1) i = nI (c i) from hc i hi]
      refine V_iadd i_X1_figures_21 ?_
      rw [show (7 : Int32) = nI 7 from rfl, pk_mul, nI_add]
      refine V_is (L' := [(0, _), (1, _), (2, _), (3, _)]) i_X1_figures_22 (by decide) ⟨rfl, rfl, rfl, rfl, trivial⟩ ?_
      refine V_iinc (L' := [(0, _), (1, _), (2, _), (3, _)]) (n' := 1) i_X1_figures_23 (by decide) rfl (by decide) ⟨rfl, rfl, rfl, rfl, trivial⟩ ?_
      refine V_goto i_X1_figures_26 ?_
      refine V_L (L' := [(0, _), (1, _), (2, _), (3, _)]) ⟨rfl, rfl, rfl, rfl, trivial⟩ ?_
      rw [show nI i + 1 = nI (i + 1) from nI_1 i]
      exact ih
  exact key 0 (Nat.zero_le _)
set_option maxRecDepth 100000 in
set_option maxHeartbeats 4000000 in
theorem c_fig (I : IntM) (J : LngM) {d : Nat} {c : Nat → Nat} (hd : d ≤ 4) (z1 : I 106 1 = nI 4) (hc : AtI I 107 d c) : CtV 3 m_X1_figures [.ref 90, .int (nI d)] I J (.int (nI (fgN c d))) I J := by
  refine CtV_of (by decide) rfl (Nat.le_of_ble_eq_true rfl) ?_
  refine V_c i_X1_figures_0 ?_
  refine V_is (L' := [(0, _), (1, _), (2, _)]) i_X1_figures_1 (by decide) ⟨rfl, rfl, rfl, trivial⟩ ?_
  refine V_c i_X1_figures_2 ?_
  refine V_is (L' := [(0, _), (1, _), (2, _), (3, _)]) i_X1_figures_3 (by decide) ⟨rfl, rfl, rfl, rfl, trivial⟩ ?_
  refine V_L (L' := [(0, _), (1, _), (2, _), (3, _)]) ⟨rfl, rfl, rfl, rfl, trivial⟩ ?_
  exact lp_fig I J hd z1 hc _ ⟨rfl, rfl, rfl⟩
set_option maxRecDepth 100000 in
set_option maxHeartbeats 4000000 in
theorem lp_cn1 (I : IntM) (J : LngM) {n d : Nat} {c : Nat → Nat} (h1 : 1 ≤ n) (hn : n ≤ 7) (hd : d ≤ 4) (z1 : I 106 1 = nI 4) (hc : AtI I 107 d c) (hcn : ∀ i, i < d → c i < n) (Q : Option Value → IntM → LngM → Prop) : ∀ m, m ≤ d → VP m_X1_chooseNext 3 28 [(0, .ref 90), (2, .int (nI d)), (3, .int (nI (fdD n c m) - 1))] [] I J Q → VP m_X1_chooseNext 3 4 [(0, .ref 90), (1, .int (nI n)), (2, .int (nI d)), (3, .int (nI m - 1))] [] I J Q := by
  intro m
  induction m with
  | zero =>
    intro hm hq
    refine V_il i_X1_chooseNext_4 rfl ?_
    refine V_if_lt_t i_X1_chooseNext_5 (by decide) ?_
    exact V_L (L' := [(0, _), (2, _), (3, _)]) ⟨rfl, rfl, rfl, trivial⟩ hq
  | succ m ih =>
    intro hm hq
    refine V_il i_X1_chooseNext_4 rfl ?_
    refine V_if_lt_f i_X1_chooseNext_5 (by rw [nI_pred]; exact nI_pos (by omega)) ?_
    refine V_al i_X1_chooseNext_8 rfl ?_
    refine V_getR i_X1_chooseNext_9 rfl rfl ?_
    refine V_il i_X1_chooseNext_12 rfl ?_
    rw [nI_pred]
    refine P_callV1v i_X1_chooseNext_13 mi_X3_get rfl ⟨_, _, rfl⟩ (by decide) (Nat.le_of_ble_eq_true rfl) (c_I_getN (x := 106) (n := 4) (s := 4) (k := m) _ _ ⟨rfl, rfl, rfl, by decide⟩ z1 rfl (by omega) (by decide)) ?_
    rw [show I (106 + 1) m = nI (c m) from hc m (by omega)]
    refine V_il i_X1_chooseNext_16 rfl ?_
    refine V_c i_X1_chooseNext_17 ?_
    refine V_isub i_X1_chooseNext_18 ?_
    rw [nI_sub1 h1]
    refine V_ic_lt i_X1_chooseNext_19 (fun c19 => ?_) (fun c19 => ?_)
    · have d1 := (nI_ltI (by have := hcn m (by omega); omega) (by omega)).mp c19
      refine V_L (L' := [(0, _), (2, _), (3, _)]) ⟨rfl, rfl, rfl, trivial⟩ ?_
      rw [show fdD n c (m + 1) = m + 1 from if_pos d1, nI_pred] at hq
      exact hq
    · have d1 : ¬ c m < n - 1 := fun z => c19 ((nI_ltI (by have := hcn m (by omega); omega) (by omega)).mpr z)
      refine V_iinc (L' := [(0, _), (1, _), (2, _), (3, _)]) (n' := (-1)) i_X1_chooseNext_22 (by decide) rfl (by decide) ⟨rfl, rfl, rfl, rfl, trivial⟩ ?_
      refine V_goto i_X1_chooseNext_25 ?_
      refine V_L (L' := [(0, _), (1, _), (2, _), (3, _)]) ⟨rfl, rfl, rfl, rfl, trivial⟩ ?_
      rw [show nI m + -1 = nI m - 1 from (Int32.sub_eq_add_neg _ _).symm]
      rw [show fdD n c (m + 1) = fdD n c m from if_neg d1] at hq
      exact ih (by omega) hq
set_option maxRecDepth 100000 in
set_option maxHeartbeats 4000000 in
theorem lp_cn2 (I : IntM) (J : LngM) {d t p : Nat} {c : Nat → Nat} (hd : d ≤ 4) (z1 : I 106 1 = nI 4) (hc : AtI I 107 d c) (hp : p ≤ d) (Q : Option Value → IntM → LngM → Prop) (hq : ∀ I1 : IntM, (∀ x k, x ≠ 107 → I1 x k = I x k) → (∀ k, k < d → I1 107 k = if p ≤ k then nI t else nI (c k)) → Q (some (.int 1)) I1 J) : VP m_X1_chooseNext 3 49 [(0, .ref 90), (2, .int (nI d)), (4, .int (nI t)), (5, .int (nI p))] [] I J Q := by
  have key : ∀ i, i ≤ d → p ≤ i → ∀ I1 : IntM, (∀ x k, x ≠ 107 → I1 x k = I x k) → (∀ k, k < d → I1 107 k = if p ≤ k ∧ k < i then nI t else nI (c k)) → VP m_X1_chooseNext 3 49 [(0, .ref 90), (2, .int (nI d)), (4, .int (nI t)), (5, .int (nI i))] [] I1 J Q := by
    refine down d ?_ (fun i hi ih => ?_)
    · intro hpi I1 fr h1
      refine V_il i_X1_chooseNext_49 rfl ?_
      refine V_il i_X1_chooseNext_51 rfl ?_
      refine V_ic_ge_t i_X1_chooseNext_52 (Int32.le_refl _) ?_
      refine V_c i_X1_chooseNext_72 ?_
      exact P_zret i_X1_chooseNext_73 rfl (Or.inr rfl) (hq I1 fr (fun k hk => by
        rw [h1 k hk]
        by_cases z : p ≤ k
        · rw [if_pos z, if_pos ⟨z, hk⟩]
        · rw [if_neg z, if_neg (fun y => z y.1)]))
    · intro hpi I1 fr h1
      refine V_il i_X1_chooseNext_49 rfl ?_
      refine V_il i_X1_chooseNext_51 rfl ?_
      refine V_ic_ge_f i_X1_chooseNext_52 (nI_ge hi (by omega)) ?_
      refine V_al i_X1_chooseNext_55 rfl ?_
      refine V_getR i_X1_chooseNext_56 rfl rfl ?_
      refine V_il i_X1_chooseNext_59 rfl ?_
      refine V_il i_X1_chooseNext_61 rfl ?_
      refine P_callV2u i_X1_chooseNext_63 mi_X3_set rfl ⟨_, _, rfl⟩ (by decide) (Nat.le_of_ble_eq_true rfl) (c_I_setN _ _ (x := 106) (n := 4) (s := 4) (k := i) (nI t) ⟨rfl, rfl, rfl, by decide⟩ (by rw [fr _ _ (by omega)]; exact z1) rfl (by omega) (by decide)) ?_
      refine V_iinc (L' := [(0, _), (2, _), (4, _), (5, _)]) (n' := 1) i_X1_chooseNext_66 (by decide) rfl (by decide) ⟨rfl, rfl, rfl, rfl, trivial⟩ ?_
      refine V_goto i_X1_chooseNext_69 ?_
      refine V_L (L' := [(0, _), (2, _), (4, _), (5, _)]) ⟨rfl, rfl, rfl, rfl, trivial⟩ ?_
      rw [show nI i + 1 = nI (i + 1) from nI_1 i]
      exact ih (by omega) _ (fun x k h => by rw [uI_nx (show x ≠ 106 + 1 by omega)]; exact fr x k h) (fun k hk => by
        by_cases hki : k = i
        · rw [hki, uI_eq, if_pos (by omega)]
        · rw [uI_nk hki, h1 k (by omega)]
          by_cases z : p ≤ k ∧ k < i
          · rw [if_pos z, if_pos (by omega)]
          · rw [if_neg z, if_neg (by omega)])
  exact key p hp (Nat.le_refl _) I (fun _ _ _ => rfl) (fun k hk => by rw [if_neg (by omega)]; exact hc k hk)
set_option maxRecDepth 100000 in
set_option maxHeartbeats 4000000 in
theorem c_cn (I : IntM) (J : LngM) {n d : Nat} {c : Nat → Nat} (h1 : 1 ≤ n) (hn : n ≤ 7) (hd : d ≤ 4) (z1 : I 106 1 = nI 4) (hc : AtI I 107 d c) (hcn : ∀ i, i < d → c i < n) (hd1 : 1 ≤ d) : CtP 3 m_X1_chooseNext [.ref 90, .int (nI n), .int (nI d)] I J (fun r I1 J1 => J1 = J ∧ (∀ x k, x ≠ 107 → I1 x k = I x k) ∧ ((fdD n c d = 0 ∧ r = some (.int 0)) ∨ (0 < fdD n c d ∧ r = some (.int 1) ∧ AtI I1 107 d (cnD n d c)))) := by
  refine CtP_of (by decide) rfl (Nat.le_of_ble_eq_true rfl) ?_
  refine V_il i_X1_chooseNext_0 rfl ?_
  refine V_c i_X1_chooseNext_1 ?_
  refine V_isub i_X1_chooseNext_2 ?_
  refine V_is (L' := [(0, _), (1, _), (2, _), (3, _)]) i_X1_chooseNext_3 (by decide) ⟨rfl, rfl, rfl, rfl, trivial⟩ ?_
  refine V_L (L' := [(0, _), (1, _), (2, _), (3, _)]) ⟨rfl, rfl, rfl, rfl, trivial⟩ ?_
  refine lp_cn1 I J h1 hn hd z1 hc hcn _ d (Nat.le_refl d) ?_
  have hl := fdD_le (n := n) (c := c) d
  rcases Nat.eq_zero_or_pos (fdD n c d) with h0 | h0
  · rw [h0]
    refine V_il i_X1_chooseNext_28 rfl ?_
    refine V_if_ge_f i_X1_chooseNext_29 (by decide) ?_
    refine V_c i_X1_chooseNext_32 ?_
    exact P_zret i_X1_chooseNext_33 rfl (Or.inl rfl) ⟨rfl, fun _ _ _ => rfl, Or.inl ⟨rfl, rfl⟩⟩
  have e0 : nI (fdD n c d) - 1 = nI (fdD n c d - 1) := nI_sub1 h0
  refine V_il i_X1_chooseNext_28 rfl ?_
  refine V_if_ge_t i_X1_chooseNext_29 (by rw [e0]; exact nI_pos' (by omega)) ?_
  refine V_al i_X1_chooseNext_34 rfl ?_
  refine V_getR i_X1_chooseNext_35 rfl rfl ?_
  refine V_il i_X1_chooseNext_38 rfl ?_
  rw [e0]
  refine P_callV1v i_X1_chooseNext_39 mi_X3_get rfl ⟨_, _, rfl⟩ (by decide) (Nat.le_of_ble_eq_true rfl) (c_I_getN (x := 106) (n := 4) (s := 4) (k := fdD n c d - 1) _ _ ⟨rfl, rfl, rfl, by decide⟩ z1 rfl (by omega) (by decide)) ?_
  rw [show I (106 + 1) (fdD n c d - 1) = nI (c (fdD n c d - 1)) from hc _ (by omega)]
  refine V_c i_X1_chooseNext_42 ?_
  refine V_iadd i_X1_chooseNext_43 ?_
  rw [nI_1]
  refine V_is (L' := [(0, _), (2, _), (3, _), (4, _)]) i_X1_chooseNext_44 (by decide) ⟨rfl, rfl, rfl, rfl, trivial⟩ ?_
  refine V_il i_X1_chooseNext_46 rfl ?_
  refine V_is (L' := [(0, _), (2, _), (4, _), (5, _)]) i_X1_chooseNext_47 (by decide) ⟨rfl, rfl, rfl, rfl, trivial⟩ ?_
  refine V_L (L' := [(0, _), (2, _), (4, _), (5, _)]) ⟨rfl, rfl, rfl, rfl, trivial⟩ ?_
  exact lp_cn2 I J hd z1 hc (show fdD n c d - 1 ≤ d by omega) _ (fun I1 fr h1 => ⟨rfl, fr, Or.inr ⟨h0, rfl, fun k hk => by
    rw [h1 k hk]
    unfold cnD
    by_cases z : fdD n c d - 1 ≤ k
    · rw [if_pos z, if_pos z]
    · rw [if_neg z, if_neg z]⟩⟩)

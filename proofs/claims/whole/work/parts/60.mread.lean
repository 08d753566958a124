
/-! ===== the reference reads a table ===== -/
def TxM (I : IntM) (t s : Nat) (v : Nat → Int32) (a : Nat) : Prop := t < 4 ∧ s ≤ 60 ∧ I 150 t = nI s ∧ (∀ k, k < s → I 151 (60 * t + k) = v k) ∧ I 146 9 = nI t ∧ I 146 10 = nI a ∧ a ≤ s
theorem TxM.up {I I1 : IntM} {t s a a' : Nat} {v : Nat → Int32} (h : TxM I t s v a) (hI : ∀ x k, ¬ (x = 146 ∧ 10 ≤ k ∧ k ≤ 14) → x ≠ 152 → x ≠ 153 → I1 x k = I x k) (h1 : I1 146 10 = nI a') (ha : a' ≤ s) : TxM I1 t s v a' := by
  obtain ⟨h2, h3, h4, h5, h6, -, -⟩ := h
  exact ⟨h2, h3, (hI _ _ (by omega) (by decide) (by decide)).trans h4, fun k hk => (hI _ _ (by omega) (by decide) (by decide)).trans (h5 k hk), (hI _ _ (by omega) (by decide) (by decide)).trans h6, h1, ha⟩
def heN (v : Nat → Int32) (s a : Nat) : Int32 := if a < s then v a else -1000
theorem inI {c : Int32} {lo hi : Nat} (h1 : lo < 2 ^ 31) (h2 : hi < 2 ^ 31) : inL c.toInt64 (lN lo) (lN hi) = if c < nI lo then 0 else if nI hi < c then 0 else 1 := by
  unfold inL
  rw [← nI_long h1, ← nI_long h2]
  by_cases h : c < nI lo
  · rw [if_pos (i2l_lt.mpr h), if_pos h]
  · rw [if_neg (fun z => h (i2l_lt.mp z)), if_neg h]
    by_cases g : nI hi < c
    · rw [if_pos (i2l_lt.mpr g), if_pos g]
    · rw [if_neg (fun z => g (i2l_lt.mp z)), if_neg g]
theorem he_dg {v : Nat → Int32} {s a : Nat} : inL (heN v s a).toInt64 48 57 = if a < s ∧ ¬ v a < 48 ∧ ¬ 57 < v a then 1 else 0 := by
  rw [show (48 : Int64) = lN 48 from rfl, show (57 : Int64) = lN 57 from rfl, inI (by decide) (by decide)]
  unfold heN
  by_cases c : a < s
  · rw [if_pos c]
    by_cases h1 : v a < 48
    · rw [if_pos (show v a < nI 48 from h1), if_neg (fun z => z.2.1 h1)]
    · rw [if_neg (show ¬ v a < nI 48 from h1)]
      by_cases h2 : 57 < v a
      · rw [if_pos (show nI 57 < v a from h2), if_neg (fun z => z.2.2 h2)]
      · rw [if_neg (show ¬ nI 57 < v a from h2), if_pos ⟨c, h1, h2⟩]
  · rw [if_neg c, if_pos (show (-1000 : Int32) < nI 48 from by decide), if_neg (show ¬ (a < s ∧ ¬ v a < 48 ∧ ¬ 57 < v a) from fun z => c z.1)]
theorem he_lw {v : Nat → Int32} {s a : Nat} : inL (heN v s a).toInt64 48 51 = if a < s ∧ ¬ v a < 48 ∧ ¬ 51 < v a then 1 else 0 := by
  rw [show (48 : Int64) = lN 48 from rfl, show (51 : Int64) = lN 51 from rfl, inI (by decide) (by decide)]
  unfold heN
  by_cases c : a < s
  · rw [if_pos c]
    by_cases h1 : v a < 48
    · rw [if_pos (show v a < nI 48 from h1), if_neg (fun z => z.2.1 h1)]
    · rw [if_neg (show ¬ v a < nI 48 from h1)]
      by_cases h2 : 51 < v a
      · rw [if_pos (show nI 51 < v a from h2), if_neg (fun z => z.2.2 h2)]
      · rw [if_neg (show ¬ nI 51 < v a from h2), if_pos ⟨c, h1, h2⟩]
  · rw [if_neg c, if_pos (show (-1000 : Int32) < nI 48 from by decide), if_neg (show ¬ (a < s ∧ ¬ v a < 48 ∧ ¬ 51 < v a) from fun z => c z.1)]
theorem he_is {v : Nat → Int32} {s a : Nat} {c : Int32} (hc : ¬ c = -1000) : heN v s a = c ↔ (a < s ∧ v a = c) := by
  unfold heN
  by_cases h : a < s
  · rw [if_pos h]
    exact ⟨fun z => ⟨h, z⟩, fun z => z.2⟩
  · rw [if_neg h]
    exact ⟨fun z => absurd z.symm hc, fun z => absurd z.1 h⟩

set_option maxRecDepth 100000 in
set_option maxHeartbeats 4000000 in
theorem m_here (I : IntM) (J : LngM) {t s a : Nat} {v : Nat → Int32} (hT : TxM I t s v a) : CtV 1 m_X11_here [.ref 146] I J (.int (heN v s a)) I J := by
  refine CtV_of (by decide) rfl (Nat.le_of_ble_eq_true rfl) ?_
  obtain ⟨h2, h3, b3, b4, b5, b6, b7⟩ := hT
  refine V_al i_X11_here_0 rfl ?_
  refine V_getI i_X11_here_1 rfl ?_
  rw [b6]
  refine V_al i_X11_here_4 rfl ?_
  refine V_getR i_X11_here_5 rfl rfl ?_
  refine V_al i_X11_here_8 rfl ?_
  refine V_getI i_X11_here_9 rfl ?_
  rw [b5]
  refine K_iald t i_X11_here_12 rfl rfl h2 (by omega) ?_
  rw [b3]
  refine V_ic_ge i_X11_here_13 (fun c13 => ?_) (fun c13 => ?_)
  · have d := (nI_leI (a := s) (b := a) (by omega) (by omega)).mp c13
    refine V_c i_X11_here_36 ?_
    exact P_iret i_X11_here_39 rfl ⟨by unfold heN; rw [if_neg (by omega)], rfl, rfl⟩
  · have d : ¬ s ≤ a := fun z => c13 ((nI_leI (a := s) (b := a) (by omega) (by omega)).mpr z)
    refine V_al i_X11_here_16 rfl ?_
    refine V_getR i_X11_here_17 rfl rfl ?_
    refine V_c i_X11_here_20 ?_
    refine V_al i_X11_here_22 rfl ?_
    refine V_getI i_X11_here_23 rfl ?_
    rw [b5]
    refine V_imul i_X11_here_26 ?_
    rw [show (60 : Int32) = nI 60 from rfl, pk_mul]
    refine V_al i_X11_here_27 rfl ?_
    refine V_getI i_X11_here_28 rfl ?_
    rw [b6]
    refine V_iadd i_X11_here_31 ?_
    rw [nI_add]
    refine K_iald (60 * t + a) i_X11_here_32 rfl rfl (by omega) (by omega) ?_
    rw [b4 a (by omega)]
    refine V_goto i_X11_here_33 ?_
    exact P_iret i_X11_here_39 rfl ⟨by unfold heN; rw [if_pos (by omega)], rfl, rfl⟩
set_option maxRecDepth 100000 in
set_option maxHeartbeats 4000000 in
theorem m_kindOf (I : IntM) (J : LngM) (c : Int32) : CtV 1 m_X11_kindOf [.int c] I J (.int (kvI (-9) (kdN c))) I J := by
  refine CtV_of (by decide) rfl (Nat.le_of_ble_eq_true rfl) ?_
  refine V_il i_X11_kindOf_0 rfl ?_
  refine V_c i_X11_kindOf_1 ?_
  refine V_ic_ne i_X11_kindOf_3 (fun c3 => ?_) (fun c3 => ?_)
  · refine V_il i_X11_kindOf_10 rfl ?_
    refine V_c i_X11_kindOf_11 ?_
    refine V_ic_ne i_X11_kindOf_13 (fun c13 => ?_) (fun c13 => ?_)
    · refine V_il i_X11_kindOf_20 rfl ?_
      refine V_c i_X11_kindOf_21 ?_
      refine V_ic_ne i_X11_kindOf_23 (fun c23 => ?_) (fun c23 => ?_)
      · refine V_il i_X11_kindOf_30 rfl ?_
        refine V_c i_X11_kindOf_31 ?_
        refine V_ic_ne i_X11_kindOf_33 (fun c33 => ?_) (fun c33 => ?_)
        · refine V_il i_X11_kindOf_40 rfl ?_
          refine V_c i_X11_kindOf_41 ?_
          refine V_ic_ne i_X11_kindOf_43 (fun c43 => ?_) (fun c43 => ?_)
          · refine V_il i_X11_kindOf_50 rfl ?_
            refine V_c i_X11_kindOf_51 ?_
            refine V_ic_ne i_X11_kindOf_53 (fun c53 => ?_) (fun c53 => ?_)
            · refine V_c i_X11_kindOf_60 ?_
              exact P_iret i_X11_kindOf_62 rfl ⟨by unfold kdN; rw [if_neg c3, if_neg c13, if_neg c23, if_neg c33, if_neg c43, if_neg c53]; rfl, rfl, rfl⟩
            · refine V_c i_X11_kindOf_56 ?_
              refine V_goto i_X11_kindOf_57 ?_
              exact P_iret i_X11_kindOf_62 rfl ⟨by unfold kdN; rw [if_neg c3, if_neg c13, if_neg c23, if_neg c33, if_neg c43, if_pos c53]; rfl, rfl, rfl⟩
          · refine V_c i_X11_kindOf_46 ?_
            refine V_goto i_X11_kindOf_47 ?_
            exact P_iret i_X11_kindOf_62 rfl ⟨by unfold kdN; rw [if_neg c3, if_neg c13, if_neg c23, if_neg c33, if_pos c43]; rfl, rfl, rfl⟩
        · refine V_c i_X11_kindOf_36 ?_
          refine V_goto i_X11_kindOf_37 ?_
          exact P_iret i_X11_kindOf_62 rfl ⟨by unfold kdN; rw [if_neg c3, if_neg c13, if_neg c23, if_pos c33]; rfl, rfl, rfl⟩
      · refine V_c i_X11_kindOf_26 ?_
        refine V_goto i_X11_kindOf_27 ?_
        exact P_iret i_X11_kindOf_62 rfl ⟨by unfold kdN; rw [if_neg c3, if_neg c13, if_pos c23]; rfl, rfl, rfl⟩
    · refine V_c i_X11_kindOf_16 ?_
      refine V_goto i_X11_kindOf_17 ?_
      exact P_iret i_X11_kindOf_62 rfl ⟨by unfold kdN; rw [if_neg c3, if_pos c13]; rfl, rfl, rfl⟩
  · refine V_c i_X11_kindOf_6 ?_
    refine V_goto i_X11_kindOf_7 ?_
    exact P_iret i_X11_kindOf_62 rfl ⟨by unfold kdN; rw [if_pos c3]; rfl, rfl, rfl⟩
set_option maxRecDepth 100000 in
set_option maxHeartbeats 4000000 in
theorem lp_M_skip (I : IntM) (J : LngM) {t s a : Nat} {v : Nat → Int32} (hT : TxM I t s v a) (Q : Option Value → IntM → LngM → Prop) : ∀ k p, p + k = s → (∀ I1 : IntM, (∀ x k, ¬ (x = 146 ∧ k = 10) → I1 x k = I x k) → I1 146 10 = nI (blN v k p) → Q none I1 J) → ∀ I1 : IntM, (∀ x k, ¬ (x = 146 ∧ k = 10) → I1 x k = I x k) → I1 146 10 = nI p → VP m_X11_skip 2 0 [(0, .ref 146)] [] I1 J Q := by
  intro k
  induction k with
  | zero =>
    intro p hp hq I1 fr hc
    refine V_al i_X11_skip_0 rfl ?_
    refine P_callV0v i_X11_skip_1 mi_X11_here rfl ⟨_, _, rfl⟩ (by decide) (Nat.le_of_ble_eq_true rfl) (m_here I1 J (TxM.up hT (fun x k h h2 h3 => fr x k (by omega)) hc (by omega))) ?_
    refine V_c i_X11_skip_4 ?_
    refine V_ic_ne_t i_X11_skip_6 (fun z => by have := ((he_is (by decide)).mp z).1; omega) ?_
    exact P_vret i_X11_skip_22 rfl (hq I1 fr hc)
  | succ k ih =>
    intro p hp hq I1 fr hc
    refine V_al i_X11_skip_0 rfl ?_
    refine P_callV0v i_X11_skip_1 mi_X11_here rfl ⟨_, _, rfl⟩ (by decide) (Nat.le_of_ble_eq_true rfl) (m_here I1 J (TxM.up hT (fun x k h h2 h3 => fr x k (by omega)) hc (by omega))) ?_
    refine V_c i_X11_skip_4 ?_
    refine V_ic_ne i_X11_skip_6 (fun c6 => ?_) (fun c6 => ?_)
    · have d : ¬ v p = 32 := fun z => c6 ((he_is (by decide)).mpr ⟨by omega, z⟩)
      have e : blN v (k + 1) p = p := if_neg d
      exact P_vret i_X11_skip_22 rfl (by rw [e] at hq; exact hq I1 fr hc)
    · have d := ((he_is (by decide)).mp c6).2
      have e : blN v (k + 1) p = blN v k (p + 1) := if_pos d
      refine V_al i_X11_skip_9 rfl ?_
      refine V_dup i_X11_skip_10 rfl ?_
      refine V_getI i_X11_skip_11 rfl ?_
      rw [hc]
      refine V_c i_X11_skip_14 ?_
      refine V_iadd i_X11_skip_15 ?_
      rw [nI_1]
      refine V_putI i_X11_skip_16 rfl ?_
      refine V_goto i_X11_skip_19 ?_
      refine V_L (L' := [(0, _)]) ⟨rfl, trivial⟩ ?_
      rw [e] at hq
      exact ih (p + 1) (by omega) hq _ (fun x j h => by rw [uI_ne _ _ (by intro z; cases z; exact h ⟨rfl, rfl⟩)]; exact fr x j h) uI_eq
set_option maxRecDepth 100000 in
theorem m_skip (I : IntM) (J : LngM) {t s a : Nat} {v : Nat → Int32} (hT : TxM I t s v a) : CtP 2 m_X11_skip [.ref 146] I J (fun r I1 J1 => r = none ∧ J1 = J ∧ (∀ x k, ¬ (x = 146 ∧ k = 10) → I1 x k = I x k) ∧ I1 146 10 = nI (BL v s a)) := by
  refine CtP_of (by decide) rfl (Nat.le_of_ble_eq_true rfl) ?_
  exact lp_M_skip I J hT _ (s - a) a (by have := hT.2.2.2.2.2.2; omega) (fun I1 fr h1 => ⟨rfl, rfl, fr, h1⟩) I (fun _ _ _ => rfl) hT.2.2.2.2.2.1
set_option maxRecDepth 100000 in
set_option maxHeartbeats 4000000 in
theorem lp_M_fig (I : IntM) (J : LngM) {t s a : Nat} {v : Nat → Int32} (hT : TxM I t s v a) {m : Nat} (hm : m ≤ 3) (Q : Option Value → IntM → LngM → Prop) : ∀ k j, j + k = m → a + j ≤ s → (∀ r (I1 : IntM), (∀ x k, ¬ (x = 146 ∧ (k = 10 ∨ k = 11)) → I1 x k = I x k) → I1 146 10 = nI (fgE v s k (a + j)) → I1 146 11 = nuI v a (fgE v s k (a + j) - a) → r = nI (fgE v s k (a + j) - a) → Q (some (.int r)) I1 J) → ∀ I1 : IntM, (∀ x k, ¬ (x = 146 ∧ (k = 10 ∨ k = 11)) → I1 x k = I x k) → I1 146 10 = nI (a + j) → I1 146 11 = nuI v a j → VP m_X11_figures 2 7 [(0, .ref 146), (1, .int (nI m)), (2, .int (nI j))] [] I1 J Q := by
  have hs6 := hT.2.1
  intro k
  induction k with
  | zero =>
    intro j hj hjs hq I1 fr hc hn
    refine V_il i_X11_figures_7 rfl ?_
    refine V_il i_X11_figures_8 rfl ?_
    refine V_ic_ge_t i_X11_figures_9 (nI_le (by omega) (by omega)) ?_
    refine V_il i_X11_figures_64 rfl ?_
    exact P_iret i_X11_figures_65 rfl (hq _ I1 fr hc (by show I1 146 11 = nuI v a (a + j - a); rw [Nat.add_sub_cancel_left]; exact hn) (by show nI j = nI (a + j - a); rw [Nat.add_sub_cancel_left]))
  | succ k ih =>
    intro j hj hjs hq I1 fr hc hn
    refine V_il i_X11_figures_7 rfl ?_
    refine V_il i_X11_figures_8 rfl ?_
    refine V_ic_ge_f i_X11_figures_9 (nI_ge (show j < m by omega) (by omega)) ?_
    refine V_al i_X11_figures_12 rfl ?_
    refine P_callV0v i_X11_figures_13 mi_X11_here rfl ⟨_, _, rfl⟩ (by decide) (Nat.le_of_ble_eq_true rfl) (m_here I1 J (TxM.up hT (fun x k h h2 h3 => fr x k (by omega)) hc (by omega))) ?_
    refine V_i2l i_X11_figures_16 ?_
    refine V_cl i_X11_figures_17 ?_
    refine V_cl i_X11_figures_20 ?_
    refine P_callS3v i_X11_figures_23 ms_X11_in (by decide) (Nat.le_of_ble_eq_true rfl) (c_M_in _ _ _ _ _) ?_
    rw [he_dg]
    refine V_if_eq i_X11_figures_26 (fun c26 => ?_) (fun c26 => ?_)
    · have d : ¬ dgP v s (a + j) := no01 (p := a + j < s ∧ ¬ v (a + j) < 48 ∧ ¬ 57 < v (a + j)) c26
      have e : fgE v s (k + 1) (a + j) = a + j := fgE_f d
      rw [e] at hq
      refine V_il i_X11_figures_64 rfl ?_
      exact P_iret i_X11_figures_65 rfl (hq _ I1 fr hc (by rw [Nat.add_sub_cancel_left]; exact hn) (by rw [Nat.add_sub_cancel_left]))
    · have d : dgP v s (a + j) := yes01 (p := a + j < s ∧ ¬ v (a + j) < 48 ∧ ¬ 57 < v (a + j)) c26
      have e : fgE v s (k + 1) (a + j) = fgE v s k (a + j + 1) := fgE_t d
      rw [e] at hq
      refine V_al i_X11_figures_29 rfl ?_
      refine V_c i_X11_figures_30 ?_
      refine V_al i_X11_figures_32 rfl ?_
      refine V_getI i_X11_figures_33 rfl ?_
      rw [hn]
      refine V_imul i_X11_figures_36 ?_
      refine V_al i_X11_figures_37 rfl ?_
      refine P_callV0v i_X11_figures_38 mi_X11_here rfl ⟨_, _, rfl⟩ (by decide) (Nat.le_of_ble_eq_true rfl) (m_here I1 J (TxM.up hT (fun x k h h2 h3 => fr x k (by omega)) hc (by omega))) ?_
      rw [show heN v s (a + j) = v (a + j) from if_pos d.1]
      refine V_iadd i_X11_figures_41 ?_
      refine V_c i_X11_figures_42 ?_
      refine V_isub i_X11_figures_44 ?_
      refine V_putI i_X11_figures_45 rfl ?_
      refine V_al i_X11_figures_48 rfl ?_
      refine V_dup i_X11_figures_49 rfl ?_
      refine V_getI i_X11_figures_50 rfl ?_
      rw [uI_nk (show (10 : Nat) ≠ 11 by decide), hc]
      refine V_c i_X11_figures_53 ?_
      refine V_iadd i_X11_figures_54 ?_
      rw [nI_1]
      refine V_putI i_X11_figures_55 rfl ?_
      refine V_iinc (L' := [(0, _), (1, _), (2, _)]) (n' := 1) i_X11_figures_58 (by decide) rfl (by decide) ⟨rfl, rfl, rfl, trivial⟩ ?_
      refine V_goto i_X11_figures_61 ?_
      refine V_L (L' := [(0, _), (1, _), (2, _)]) ⟨rfl, rfl, rfl, trivial⟩ ?_
      rw [show nI j + 1 = nI (j + 1) from nI_1 j]
      exact ih (j + 1) (by omega) d.1 hq _ (fun x k2 h => by rw [uI_ne _ _ (by intro z; cases z; exact h ⟨rfl, Or.inl rfl⟩), uI_ne _ _ (by intro z; cases z; exact h ⟨rfl, Or.inr rfl⟩)]; exact fr x k2 h) uI_eq (by rw [uI_nk (by decide), uI_eq]; rfl)
set_option maxRecDepth 100000 in
set_option maxHeartbeats 4000000 in
theorem m_fig (I : IntM) (J : LngM) {t s a : Nat} {v : Nat → Int32} (hT : TxM I t s v a) {m : Nat} (hm : m ≤ 3) : CtP 2 m_X11_figures [.ref 146, .int (nI m)] I J (fun r I1 J1 => r = some (.int (nI (fgE v s m a - a))) ∧ J1 = J ∧ (∀ x k, ¬ (x = 146 ∧ (k = 10 ∨ k = 11)) → I1 x k = I x k) ∧ I1 146 10 = nI (fgE v s m a) ∧ I1 146 11 = nuI v a (fgE v s m a - a)) := by
  refine CtP_of (by decide) rfl (Nat.le_of_ble_eq_true rfl) ?_
  refine V_c i_X11_figures_0 ?_
  refine V_is (L' := [(0, _), (1, _), (2, _)]) i_X11_figures_1 (by decide) ⟨rfl, rfl, rfl, trivial⟩ ?_
  refine V_al i_X11_figures_2 rfl ?_
  refine V_c i_X11_figures_3 ?_
  refine V_putI i_X11_figures_4 rfl ?_
  refine V_L (L' := [(0, _), (1, _), (2, _)]) ⟨rfl, rfl, rfl, trivial⟩ ?_
  exact lp_M_fig I J hT hm _ m 0 (Nat.zero_add m) hT.2.2.2.2.2.2 (fun r I1 fr h1 h2 h3 => ⟨by rw [h3]; rfl, rfl, fr, h1, h2⟩) _ (fun x k h => by rw [uI_ne _ _ (by intro z; cases z; exact h ⟨rfl, Or.inr rfl⟩)]) (by rw [uI_nk (by decide)]; exact hT.2.2.2.2.2.1) uI_eq

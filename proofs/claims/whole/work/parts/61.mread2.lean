
/-! ===== the reference: items, the fault ===== -/
def FrE (I I1 : IntM) : Prop := ∀ x k, ¬ (x = 146 ∧ (k = 10 ∨ k = 11 ∨ k = 14)) → x ≠ 152 → x ≠ 153 → I1 x k = I x k
def SaM (I : IntM) (m : Nat) (kd nd : Nat → Nat) : Prop := I 146 14 = nI m ∧ AtI I 152 m kd ∧ AtI I 153 m nd
def itQ (I1 : IntM) (r : Option Value) (v : Nat → Int32) (s a m : Nat) (kd nd : Nat → Nat) : Prop := (r = some (.int 0) ∧ ∃ p, p ≤ s ∧ I1 146 10 = nI p ∧ ∀ k kd' nd', eaP v s (k + 1) a m kd' nd' = .inl p) ∨ (r = some (.int 1) ∧ ∃ c, kdN (v a) = some c ∧ ¬ m = 7 ∧ ¬ fgE v s 2 (a + 1) = a + 1 ∧ I1 146 10 = nI (fgE v s 2 (a + 1)) ∧ SaM I1 (m + 1) (upN kd m c) (upN nd m (nuN v (a + 1) (fgE v s 2 (a + 1) - (a + 1)))))
theorem TxM.E {I I1 : IntM} {t s a a' : Nat} {v : Nat → Int32} (h : TxM I t s v a) (hI : FrE I I1) (h1 : I1 146 10 = nI a') (ha : a' ≤ s) : TxM I1 t s v a' := TxM.up h (fun x k q q2 q3 => hI x k (by omega) q2 q3) h1 ha

set_option maxRecDepth 100000 in
set_option maxHeartbeats 4000000 in
theorem m_item (I : IntM) (J : LngM) {t s a : Nat} {v : Nat → Int32} (hT : TxM I t s v a) (has : a < s) {f : Int32} (hf : f = 0 ∨ ¬ (a < s ∧ v a = 108)) {m : Nat} {kd nd : Nat → Nat} (hm : m ≤ 7) (hS : SaM I m kd nd) : CtP 3 m_X11_isItem [.ref 146, .int f] I J (fun r I1 J1 => J1 = J ∧ FrE I I1 ∧ itQ I1 r v s a m kd nd) := by
  refine CtP_of (by decide) rfl (Nat.le_of_ble_eq_true rfl) ?_
  have tail : VP m_X11_isItem 3 73 [(0, .ref 146), (2, .int (kvI (-9) (kdN (v a))))] [] I J (fun r I1 J1 => (fun r I1 J1 => J1 = J ∧ FrE I I1 ∧ itQ I1 r v s a m kd nd) r I1 J1) := by
    refine V_il i_X11_isItem_73 rfl ?_
    refine V_c i_X11_isItem_74 ?_
    refine V_ic_eq i_X11_isItem_76 (fun c76 => ?_) (fun c76 => ?_)
    · have d1 : kdN (v a) = none := by
        cases hk : kdN (v a) with
        | none => rfl
        | some c =>
          rw [hk] at c76
          have := congrArg Int32.toInt (show nI c = -9 from c76)
          rw [nI_toInt (by have := kdN_le hk; omega)] at this
          have e9 : (-9 : Int32).toInt = -9 := rfl
          omega
      refine V_L (L' := []) trivial ?_
      refine V_c i_X11_isItem_88 ?_
      exact P_zret i_X11_isItem_89 rfl (Or.inl rfl) ⟨rfl, fun _ _ _ _ _ => rfl, Or.inl ⟨rfl, a, by omega, hT.2.2.2.2.2.1, fun k kd' nd' => ea_no has d1⟩⟩
    · obtain ⟨c, d1⟩ : ∃ c, kdN (v a) = some c := by
        cases hk : kdN (v a) with
        | none =>
          rw [hk] at c76
          exact absurd rfl c76
        | some c => exact ⟨c, rfl⟩
      have hc5 := kdN_le d1
      refine V_al i_X11_isItem_79 rfl ?_
      refine V_getI i_X11_isItem_80 rfl ?_
      rw [hS.1]
      refine V_c i_X11_isItem_83 ?_
      refine V_ic_ne i_X11_isItem_85 (fun c85 => ?_) (fun c85 => ?_)
      · have d2 : ¬ m = 7 := fun z => c85 (by rw [z]; rfl)
        refine V_al i_X11_isItem_90 rfl ?_
        refine V_dup i_X11_isItem_91 rfl ?_
        refine V_getI i_X11_isItem_92 rfl ?_
        rw [hT.2.2.2.2.2.1]
        refine V_c i_X11_isItem_95 ?_
        refine V_iadd i_X11_isItem_96 ?_
        rw [nI_1]
        refine V_putI i_X11_isItem_97 rfl ?_
        obtain ⟨I1, hI1⟩ : ∃ y, y = uI I 146 10 (nI (a + 1)) := ⟨_, rfl⟩
        rw [← hI1]
        have f1 : FrE I I1 := fun x k h _ _ => by rw [hI1, uI_ne _ _ (by intro z; cases z; exact h ⟨rfl, Or.inl rfl⟩)]
        have T1 := TxM.E hT f1 (a' := a + 1) (by rw [hI1, uI_eq]) has
        refine V_al i_X11_isItem_100 rfl ?_
        refine V_c i_X11_isItem_101 ?_
        refine P_callV1 i_X11_isItem_102 mi_X11_figures rfl ⟨_, _, rfl⟩ (by decide) (Nat.le_of_ble_eq_true rfl) (m_fig I1 J T1 (m := 2) (by decide)) (fun r9 I2 J2 q => ?_)
        obtain ⟨rfl, rfl, f2, g1, g2⟩ := q
        have f9 : FrE I I2 := fun x k h h2 h3 => (f2 x k (by omega)).trans (f1 x k h h2 h3)
        have hb := fgE_b (v := v) (s := s) 2 (a + 1)
        have s2 : SaM I2 m kd nd := ⟨(f2 _ _ (by decide)).trans (by rw [hI1, uI_nk (by decide)]; exact hS.1), AtI.congr (fun k => (f2 _ _ (by omega)).trans (by rw [hI1, uI_nx (by decide)])) hS.2.1, AtI.congr (fun k => (f2 _ _ (by omega)).trans (by rw [hI1, uI_nx (by decide)])) hS.2.2⟩
        refine V_if_ne i_X11_isItem_105 (fun c105 => ?_) (fun c105 => ?_)
        · have d3 : ¬ fgE v s 2 (a + 1) = a + 1 := fun z => c105 (by rw [z, Nat.sub_self]; rfl)
          refine V_al i_X11_isItem_110 rfl ?_
          refine V_getR i_X11_isItem_111 rfl rfl ?_
          refine V_al i_X11_isItem_114 rfl ?_
          refine V_getI i_X11_isItem_115 rfl ?_
          rw [s2.1, d1]
          refine V_il i_X11_isItem_118 rfl ?_
          refine K_iast m i_X11_isItem_119 rfl rfl (by omega) (by omega) ?_
          obtain ⟨I3, hI3⟩ : ∃ y, y = uI I2 152 m (kvI (-9) (some c)) := ⟨_, rfl⟩
          rw [← hI3]
          have f3 : FrE I I3 := fun x k h h2 h3 => by rw [hI3, uI_nx h2]; exact f9 x k h h2 h3
          have s3 : I3 146 14 = nI m := by rw [hI3, uI_nx (by decide)]; exact s2.1
          refine V_al i_X11_isItem_120 rfl ?_
          refine V_getR i_X11_isItem_121 rfl rfl ?_
          refine V_al i_X11_isItem_124 rfl ?_
          refine V_getI i_X11_isItem_125 rfl ?_
          rw [s3]
          refine V_al i_X11_isItem_128 rfl ?_
          refine V_getI i_X11_isItem_129 rfl ?_
          rw [show I3 146 11 = nI (nuN v (a + 1) (fgE v s 2 (a + 1) - (a + 1))) from by rw [hI3, uI_nx (by decide), g2]; exact (nu_ok (v := v) (s := s) (a := a + 1) (fgE v s 2 (a + 1) - (a + 1)) (fun i h1 h2 => hb.2.2.2 i h1 (by omega))).1]
          refine K_iast m i_X11_isItem_132 rfl rfl (by omega) (by omega) ?_
          obtain ⟨I4, hI4⟩ : ∃ y, y = uI I3 153 m (nI (nuN v (a + 1) (fgE v s 2 (a + 1) - (a + 1)))) := ⟨_, rfl⟩
          rw [← hI4]
          have f4 : FrE I I4 := fun x k h h2 h3 => by rw [hI4, uI_nx h3]; exact f3 x k h h2 h3
          have s4 : I4 146 14 = nI m := by rw [hI4, uI_nx (by decide)]; exact s3
          refine V_al i_X11_isItem_133 rfl ?_
          refine V_dup i_X11_isItem_134 rfl ?_
          refine V_getI i_X11_isItem_135 rfl ?_
          rw [s4]
          refine V_c i_X11_isItem_138 ?_
          refine V_iadd i_X11_isItem_139 ?_
          rw [nI_1]
          refine V_putI i_X11_isItem_140 rfl ?_
          refine V_c i_X11_isItem_143 ?_
          refine P_zret i_X11_isItem_144 rfl (Or.inr rfl) ⟨rfl, fun x k h h2 h3 => by rw [uI_ne _ _ (by intro z; cases z; exact h ⟨rfl, Or.inr (Or.inr rfl)⟩)]; exact f4 x k h h2 h3, Or.inr ⟨rfl, c, d1, d2, d3, ?_, uI_eq, ?_, ?_⟩⟩
          · rw [uI_nk (by decide), hI4, uI_nx (by decide), hI3, uI_nx (by decide)]
            exact g1
          · intro k hk
            rw [uI_nx (by decide), hI4, uI_nx (by decide), hI3]
            unfold upN
            by_cases e : k = m
            · rw [if_pos e, e, uI_eq]
              rfl
            · rw [if_neg e, uI_nk e]
              exact s2.2.1 k (by omega)
          · intro k hk
            rw [uI_nx (by decide), hI4]
            unfold upN
            by_cases e : k = m
            · rw [if_pos e, e, uI_eq]
            · rw [if_neg e, uI_nk e, hI3, uI_nx (by decide)]
              exact s2.2.2 k (by omega)
        · have d3 : fgE v s 2 (a + 1) = a + 1 := by
            have := (nI_eq (a := fgE v s 2 (a + 1) - (a + 1)) (b := 0) (by omega) (by decide)).mp c105
            omega
          refine V_L (L' := []) trivial ?_
          refine V_c i_X11_isItem_108 ?_
          exact P_zret i_X11_isItem_109 rfl (Or.inl rfl) ⟨rfl, f9, Or.inl ⟨rfl, a + 1, has, by rw [g1, d3], fun k kd' nd' => ea_fig has d1 d2 d3⟩⟩
      · have d2 : m = 7 := (nI_eq (b := 7) (by omega) (by decide)).mp c85
        refine V_L (L' := []) trivial ?_
        refine V_c i_X11_isItem_88 ?_
        exact P_zret i_X11_isItem_89 rfl (Or.inl rfl) ⟨rfl, fun _ _ _ _ _ => rfl, Or.inl ⟨rfl, a, by omega, hT.2.2.2.2.2.1, fun k kd' nd' => ea_7 has d2⟩⟩
  refine V_al i_X11_isItem_0 rfl ?_
  refine P_callV0v i_X11_isItem_1 mi_X11_here rfl ⟨_, _, rfl⟩ (by decide) (Nat.le_of_ble_eq_true rfl) (m_here I J hT) ?_
  rw [show heN v s a = v a from if_pos has]
  refine P_callS1v i_X11_isItem_4 ms_X11_kindOf (by decide) (Nat.le_of_ble_eq_true rfl) (m_kindOf _ _ _) ?_
  refine V_is (L' := [(0, _), (1, _), (2, _)]) i_X11_isItem_7 (by decide) ⟨rfl, rfl, rfl, trivial⟩ ?_
  refine V_al i_X11_isItem_8 rfl ?_
  refine P_callV0v i_X11_isItem_9 mi_X11_here rfl ⟨_, _, rfl⟩ (by decide) (Nat.le_of_ble_eq_true rfl) (m_here I J hT) ?_
  refine V_c i_X11_isItem_12 ?_
  refine V_ic_ne i_X11_isItem_14 (fun c14 => ?_) (fun c14 => ?_)
  · refine V_L (L' := [(0, _), (2, _)]) ⟨rfl, rfl, trivial⟩ ?_
    exact tail
  · have d0 := (he_is (by decide)).mp c14
    refine V_il i_X11_isItem_17 rfl ?_
    refine V_if_eq_t i_X11_isItem_18 (by rcases hf with hf | hf; rw [hf]; exact absurd d0 hf) ?_
    refine V_L (L' := [(0, _), (2, _)]) ⟨rfl, rfl, trivial⟩ ?_
    exact tail
set_option maxRecDepth 100000 in
set_option maxHeartbeats 4000000 in
theorem m_itemL (I : IntM) (J : LngM) {t s a : Nat} {v : Nat → Int32} (hT : TxM I t s v a) (hl : a < s ∧ v a = 108) : CtP 3 m_X11_isItem [.ref 146, .int 1] I J (fun r I1 J1 => J1 = J ∧ (∀ x k, ¬ (x = 146 ∧ (k = 10 ∨ k = 11 ∨ k = 13)) → I1 x k = I x k) ∧ ((r = some (.int 0) ∧ ¬ lwP v s (a + 1) ∧ I1 146 10 = nI (a + 1)) ∨ (r = some (.int 1) ∧ lwP v s (a + 1) ∧ I1 146 10 = nI (a + 2) ∧ I1 146 13 = v (a + 1) - 48))) := by
  refine CtP_of (by decide) rfl (Nat.le_of_ble_eq_true rfl) ?_
  refine V_al i_X11_isItem_0 rfl ?_
  refine P_callV0v i_X11_isItem_1 mi_X11_here rfl ⟨_, _, rfl⟩ (by decide) (Nat.le_of_ble_eq_true rfl) (m_here I J hT) ?_
  refine P_callS1v i_X11_isItem_4 ms_X11_kindOf (by decide) (Nat.le_of_ble_eq_true rfl) (m_kindOf _ _ _) ?_
  refine V_is (L' := [(0, _), (1, _), (2, _)]) i_X11_isItem_7 (by decide) ⟨rfl, rfl, rfl, trivial⟩ ?_
  refine V_al i_X11_isItem_8 rfl ?_
  refine P_callV0v i_X11_isItem_9 mi_X11_here rfl ⟨_, _, rfl⟩ (by decide) (Nat.le_of_ble_eq_true rfl) (m_here I J hT) ?_
  refine V_c i_X11_isItem_12 ?_
  refine V_ic_ne_f i_X11_isItem_14 ((he_is (by decide)).mpr hl) ?_
  refine V_il i_X11_isItem_17 rfl ?_
  refine V_if_eq_f i_X11_isItem_18 (by decide) ?_
  refine V_al i_X11_isItem_21 rfl ?_
  refine V_dup i_X11_isItem_22 rfl ?_
  refine V_getI i_X11_isItem_23 rfl ?_
  rw [hT.2.2.2.2.2.1]
  refine V_c i_X11_isItem_26 ?_
  refine V_iadd i_X11_isItem_27 ?_
  rw [nI_1]
  refine V_putI i_X11_isItem_28 rfl ?_
  obtain ⟨I1, hI1⟩ : ∃ y, y = uI I 146 10 (nI (a + 1)) := ⟨_, rfl⟩
  rw [← hI1]
  have f1 : FrE I I1 := fun x k h _ _ => by rw [hI1, uI_ne _ _ (by intro z; cases z; exact h ⟨rfl, Or.inl rfl⟩)]
  have T1 := TxM.E hT f1 (a' := a + 1) (by rw [hI1, uI_eq]) hl.1
  have x1 : ∀ x k, ¬ (x = 146 ∧ k = 10) → I1 x k = I x k := fun x k h => by rw [hI1, uI_ne _ _ (by intro z; cases z; exact h ⟨rfl, rfl⟩)]
  refine V_al i_X11_isItem_31 rfl ?_
  refine P_callV0v i_X11_isItem_32 mi_X11_here rfl ⟨_, _, rfl⟩ (by decide) (Nat.le_of_ble_eq_true rfl) (m_here I1 J T1) ?_
  refine V_i2l i_X11_isItem_35 ?_
  refine V_cl i_X11_isItem_36 ?_
  refine V_cl i_X11_isItem_39 ?_
  refine P_callS3v i_X11_isItem_42 ms_X11_in (by decide) (Nat.le_of_ble_eq_true rfl) (c_M_in _ _ _ _ _) ?_
  rw [he_lw]
  refine V_if_eq i_X11_isItem_45 (fun c45 => ?_) (fun c45 => ?_)
  · have d : ¬ lwP v s (a + 1) := no01 (p := a + 1 < s ∧ ¬ v (a + 1) < 48 ∧ ¬ 51 < v (a + 1)) c45
    refine V_c i_X11_isItem_61 ?_
    refine V_is (L' := [(0, _), (3, _)]) i_X11_isItem_62 (by decide) ⟨rfl, rfl, trivial⟩ ?_
    refine V_al i_X11_isItem_63 rfl ?_
    refine V_al i_X11_isItem_64 rfl ?_
    refine V_getI i_X11_isItem_65 rfl ?_
    refine V_putI i_X11_isItem_68 rfl ?_
    refine V_il i_X11_isItem_71 rfl ?_
    exact P_zret i_X11_isItem_72 rfl (Or.inl rfl) ⟨rfl, fun x k h => by rw [uI_ne _ _ (by intro z; cases z; exact h ⟨rfl, Or.inr (Or.inr rfl)⟩)]; exact x1 x k (by omega), Or.inl ⟨rfl, d, by rw [uI_nk (by decide), hI1, uI_eq]⟩⟩
  · have d : lwP v s (a + 1) := yes01 (p := a + 1 < s ∧ ¬ v (a + 1) < 48 ∧ ¬ 51 < v (a + 1)) c45
    refine V_al i_X11_isItem_48 rfl ?_
    refine V_c i_X11_isItem_49 ?_
    refine P_callV1 i_X11_isItem_50 mi_X11_figures rfl ⟨_, _, rfl⟩ (by decide) (Nat.le_of_ble_eq_true rfl) (m_fig I1 J T1 (m := 1) (by decide)) (fun r9 I2 J2 q => ?_)
    obtain ⟨rfl, rfl, f2, g1, g2⟩ := q
    have e : fgE v s 1 (a + 1) = a + 2 := fgE_t (lw_dg d)
    rw [e] at g1 g2
    rw [e, show nI (a + 2 - (a + 1)) = 1 from by rw [show a + 2 - (a + 1) = 1 by omega]; rfl]
    refine V_c i_X11_isItem_53 ?_
    refine V_ic_ne_f i_X11_isItem_54 rfl ?_
    refine V_c i_X11_isItem_57 ?_
    refine V_goto i_X11_isItem_58 ?_
    refine V_is (L' := [(0, _), (3, _)]) i_X11_isItem_62 (by decide) ⟨rfl, rfl, trivial⟩ ?_
    refine V_al i_X11_isItem_63 rfl ?_
    refine V_al i_X11_isItem_64 rfl ?_
    refine V_getI i_X11_isItem_65 rfl ?_
    refine V_putI i_X11_isItem_68 rfl ?_
    refine V_il i_X11_isItem_71 rfl ?_
    exact P_zret i_X11_isItem_72 rfl (Or.inr rfl) ⟨rfl, fun x k h => by rw [uI_ne _ _ (by intro z; cases z; exact h ⟨rfl, Or.inr (Or.inr rfl)⟩)]; exact (f2 x k (by omega)).trans (x1 x k (by omega)), Or.inr ⟨rfl, d, by rw [uI_nk (by decide)]; exact g1, by rw [uI_eq, g2, show a + 2 - (a + 1) = 1 by omega]; show 10 * 0 + v (a + 1 + 0) - 48 = _; rw [Int32.mul_zero, Int32.zero_add, Nat.add_zero]⟩⟩

def eaM (I1 : IntM) (r : Option Value) (w : EaR) : Prop := match w with
  | .inl p => r = some (.int (nI p))
  | .inr q => r = some (.int (-9)) ∧ SaM I1 q.1 q.2.1 q.2.2

set_option maxRecDepth 100000 in
set_option maxHeartbeats 4000000 in
theorem lp_M_items (I : IntM) (J : LngM) {t s a0 : Nat} {v : Nat → Int32} (hT : TxM I t s v a0) (Q : Option Value → IntM → LngM → Prop) : ∀ k a m kd nd (f : Int32), k + m = 8 → a ≤ s → m ≤ 7 → (f = 0 ∨ ¬ (a < s ∧ v a = 108)) → (∀ r I1, FrE I I1 → eaM I1 r (eaP v s k a m kd nd) → Q r I1 J) → ∀ I1, FrE I I1 → I1 146 10 = nI a → SaM I1 m kd nd → VP m_X11_findFault 4 84 [(0, .ref 146), (1, .int (nI t)), (3, .int f)] [] I1 J Q := by
  have hs6 := hT.2.1
  intro k
  induction k with
  | zero => intro a m kd nd f h1 h2 h3; omega
  | succ k ih =>
    intro a m kd nd f hkm ha hm hf hq I1 f1 hc1 s1
    have T1 := TxM.E hT f1 hc1 ha
    refine V_al i_X11_findFault_84 rfl ?_
    refine V_getI i_X11_findFault_85 rfl ?_
    rw [T1.2.2.2.2.2.1]
    refine V_al i_X11_findFault_88 rfl ?_
    refine V_getR i_X11_findFault_89 rfl rfl ?_
    refine V_il i_X11_findFault_92 rfl ?_
    refine K_iald t i_X11_findFault_93 rfl rfl T1.1 (by omega) ?_
    rw [T1.2.2.1]
    refine V_ic_ge i_X11_findFault_94 (fun c94 => ?_) (fun c94 => ?_)
    · have d : ¬ a < s := by have := (nI_leI (a := s) (b := a) (by omega) (by omega)).mp c94; omega
      rw [ea_end d] at hq
      refine V_L (L' := []) trivial ?_
      refine V_c i_X11_findFault_119 ?_
      exact P_iret i_X11_findFault_121 rfl (hq _ I1 f1 ⟨rfl, s1⟩)
    · have d : a < s := by
        rcases Nat.lt_or_ge a s with z | z
        · exact z
        · exact absurd (nI_le z (by omega)) c94
      refine V_al i_X11_findFault_97 rfl ?_
      refine V_il i_X11_findFault_98 rfl ?_
      refine P_callV1 i_X11_findFault_99 mi_X11_isItem rfl ⟨_, _, rfl⟩ (by decide) (Nat.le_of_ble_eq_true rfl) (m_item I1 J T1 d hf hm s1) (fun r9 I2 J2 q => ?_)
      obtain ⟨rfl, f2, q⟩ := q
      have f9 : FrE I I2 := fun x k h h2 h3 => (f2 x k h h2 h3).trans (f1 x k h h2 h3)
      rcases q with ⟨rfl, p, hp, hc, he⟩ | ⟨rfl, c, d1, d2, d3, hc, s2⟩
      · refine V_L (L' := [(0, _), (1, _)]) ⟨rfl, rfl, trivial⟩ ?_
        refine V_if_ne_f i_X11_findFault_102 rfl ?_
        refine V_al i_X11_findFault_105 rfl ?_
        refine V_getI i_X11_findFault_106 rfl ?_
        rw [hc]
        rw [he k kd nd] at hq
        exact P_iret i_X11_findFault_109 rfl (hq _ I2 f9 rfl)
      · refine V_L (L' := [(0, _), (1, _)]) ⟨rfl, rfl, trivial⟩ ?_
        have hb := fgE_b (v := v) (s := s) 2 (a + 1)
        refine V_if_ne_t i_X11_findFault_102 (by decide) ?_
        refine V_c i_X11_findFault_110 ?_
        refine V_is (L' := [(0, _), (1, _), (3, _)]) i_X11_findFault_111 (by decide) ⟨rfl, rfl, rfl, trivial⟩ ?_
        refine V_al i_X11_findFault_112 rfl ?_
        refine P_callV0 i_X11_findFault_113 mi_X11_skip rfl ⟨_, _, rfl⟩ (by decide) (Nat.le_of_ble_eq_true rfl) (m_skip I2 J2 (TxM.E hT f9 hc (hb.2.2.1 d))) (fun r9 I3 J3 q => ?_)
        obtain ⟨rfl, rfl, f3, h3⟩ := q
        refine V_goto i_X11_findFault_116 ?_
        refine V_L (L' := [(0, _), (1, _), (3, _)]) ⟨rfl, rfl, rfl, trivial⟩ ?_
        rw [ea_go d d1 d2 d3] at hq
        exact ih _ (m + 1) _ _ 0 (by omega) (BL_b (hb.2.2.1 d)).2 (by omega) (Or.inl rfl) hq I3 (fun x k h h2 h3 => (f3 x k (by omega)).trans (f9 x k h h2 h3)) h3 ⟨(f3 _ _ (by decide)).trans s2.1, AtI.congr (fun k => f3 _ _ (by omega)) s2.2.1, AtI.congr (fun k => f3 _ _ (by omega)) s2.2.2⟩

def taM (I1 : IntM) (r : Option Value) (w : TaR) : Prop := match w with
  | .inl p => r = some (.int (nI p))
  | .inr q => r = some (.int (-9)) ∧ I1 146 12 = nI q.1 ∧ I1 146 13 = nI q.2.1 ∧ I1 146 14 = nI q.2.2.1 ∧ AtI I1 152 q.2.2.1 q.2.2.2.1 ∧ AtI I1 153 q.2.2.1 q.2.2.2.2
def FfF (I I1 : IntM) : Prop := ∀ x k, ¬ (x = 146 ∧ 9 ≤ k ∧ k ≤ 14) → x ≠ 152 → x ≠ 153 → I1 x k = I x k

set_option maxRecDepth 100000 in
set_option maxHeartbeats 4000000 in
theorem m_ff9 (I : IntM) (J : LngM) {t s : Nat} {v : Nat → Int32} (ht : t < 4) (hs : s ≤ 60) (hz : I 150 t = nI s) (hv : ∀ k, k < s → I 151 (60 * t + k) = v k) : CtP 4 m_X11_findFault [.ref 146, .int (nI t)] I J (fun r I1 J1 => J1 = J ∧ FfF I I1 ∧ taM I1 r (paT v s)) := by
  refine CtP_of (by decide) rfl (Nat.le_of_ble_eq_true rfl) ?_
  refine V_al i_X11_findFault_0 rfl ?_
  refine V_il i_X11_findFault_1 rfl ?_
  refine V_putI i_X11_findFault_2 rfl ?_
  refine V_al i_X11_findFault_5 rfl ?_
  refine V_c i_X11_findFault_6 ?_
  refine V_putI i_X11_findFault_7 rfl ?_
  refine V_al i_X11_findFault_10 rfl ?_
  refine V_c i_X11_findFault_11 ?_
  refine V_putI i_X11_findFault_12 rfl ?_
  refine V_al i_X11_findFault_15 rfl ?_
  refine V_c i_X11_findFault_16 ?_
  refine V_putI i_X11_findFault_17 rfl ?_
  obtain ⟨I1, hI1⟩ : ∃ y, y = uI (uI (uI (uI I 146 9 (nI t)) 146 10 0) 146 13 0) 146 14 0 := ⟨_, rfl⟩
  rw [← hI1]
  have f1 : FfF I I1 := fun x k h _ _ => by
    rw [hI1]
    unfold uI
    rw [if_neg (by omega), if_neg (by omega), if_neg (by omega), if_neg (by omega)]
  have T1 : TxM I1 t s v 0 := ⟨ht, hs, (f1 _ _ (by omega) (by decide) (by decide)).trans hz, fun k hk => (f1 _ _ (by omega) (by decide) (by decide)).trans (hv k hk), by rw [hI1]; rfl, by rw [hI1]; rfl, Nat.zero_le _⟩
  have l1 : I1 146 13 = 0 := by rw [hI1]; rfl
  have m1 : I1 146 14 = 0 := by rw [hI1]; rfl
  have hb0 := BL_b (v := v) (Nat.zero_le s)
  refine V_al i_X11_findFault_20 rfl ?_
  refine P_callV0 i_X11_findFault_21 mi_X11_skip rfl ⟨_, _, rfl⟩ (by decide) (Nat.le_of_ble_eq_true rfl) (m_skip I1 J T1) (fun r9 I2 J2 q => ?_)
  obtain ⟨rfl, rfl, x2, h2⟩ := q
  have f2 : FfF I I2 := fun x k a b c => (x2 x k (by omega)).trans (f1 x k a b c)
  have T2 := TxM.up T1 (fun x k a b c => x2 x k (by omega)) h2 hb0.2
  refine V_al i_X11_findFault_24 rfl ?_
  refine P_callV0v i_X11_findFault_25 mi_X11_here rfl ⟨_, _, rfl⟩ (by decide) (Nat.le_of_ble_eq_true rfl) (m_here I2 J2 T2) ?_
  refine V_c i_X11_findFault_28 ?_
  refine V_ic_eq i_X11_findFault_30 (fun c30 => ?_) (fun c30 => ?_)
  · have h := (he_is (by decide)).mp c30
    have hp := paP_ok h
    have hb1 := BL_b (v := v) hp.2.2.2
    refine V_al i_X11_findFault_38 rfl ?_
    refine V_dup i_X11_findFault_39 rfl ?_
    refine V_getI i_X11_findFault_40 rfl ?_
    rw [T2.2.2.2.2.2.1]
    refine V_c i_X11_findFault_43 ?_
    refine V_iadd i_X11_findFault_44 ?_
    rw [nI_1]
    refine V_putI i_X11_findFault_45 rfl ?_
    obtain ⟨I3, hI3⟩ : ∃ y, y = uI I2 146 10 (nI (BL v s 0 + 1)) := ⟨_, rfl⟩
    rw [← hI3]
    have x3 : ∀ x k, ¬ (x = 146 ∧ k = 10) → I3 x k = I2 x k := fun x k a => by rw [hI3, uI_ne _ _ (by intro z; cases z; exact a ⟨rfl, rfl⟩)]
    have T3 := TxM.up T2 (fun x k a b c => x3 x k (by omega)) (a' := BL v s 0 + 1) (by rw [hI3, uI_eq]) h.1
    refine V_al i_X11_findFault_48 rfl ?_
    refine V_c i_X11_findFault_49 ?_
    refine P_callV1 i_X11_findFault_50 mi_X11_figures rfl ⟨_, _, rfl⟩ (by decide) (Nat.le_of_ble_eq_true rfl) (m_fig I3 J2 T3 (m := 3) (by decide)) (fun r9 I4 J4 q => ?_)
    obtain ⟨rfl, rfl, x4, g1, g2⟩ := q
    have T4 := TxM.up T3 (fun x k a b c => x4 x k (by omega)) (a' := paE v s) g1 hp.2.2.2
    change I4 146 11 = nuI v (BL v s 0 + 1) (paE v s - (BL v s 0 + 1)) at g2
    rw [hp.1] at g2
    rw [show fgE v s 3 (BL v s 0 + 1) = paE v s from rfl]
    refine V_is (L' := [(0, _), (1, _), (2, _)]) i_X11_findFault_53 (by decide) ⟨rfl, rfl, rfl, trivial⟩ ?_
    refine V_al i_X11_findFault_54 rfl ?_
    refine V_al i_X11_findFault_55 rfl ?_
    refine V_getI i_X11_findFault_56 rfl ?_
    rw [g2]
    refine V_putI i_X11_findFault_59 rfl ?_
    obtain ⟨I5, hI5⟩ : ∃ y, y = uI I4 146 12 (nI (paP v s)) := ⟨_, rfl⟩
    rw [← hI5]
    have x5 : ∀ x k, ¬ (x = 146 ∧ (k = 10 ∨ k = 11 ∨ k = 12)) → I5 x k = I2 x k := fun x k a => by rw [hI5, uI_ne _ _ (by intro z; cases z; exact a ⟨rfl, Or.inr (Or.inr rfl)⟩), x4 x k (by omega), x3 x k (by omega)]
    have f5 : FfF I I5 := fun x k a b c => (x5 x k (by omega)).trans (f2 x k a b c)
    have p5 : I5 146 12 = nI (paP v s) := by rw [hI5, uI_eq]
    have T5 := TxM.up T4 (I1 := I5) (a' := paE v s) (fun x k a b c => by rw [hI5, uI_ne _ _ (by intro z; cases z; omega)]) (by rw [hI5, uI_nk (by decide)]; exact g1) hp.2.2.2
    have l5 : I5 146 13 = 0 := (x5 _ _ (by decide)).trans ((x2 _ _ (by decide)).trans l1)
    have m5 : I5 146 14 = 0 := (x5 _ _ (by decide)).trans ((x2 _ _ (by decide)).trans m1)
    refine V_il i_X11_findFault_62 rfl ?_
    refine V_if_eq i_X11_findFault_63 (fun c63 => ?_) (fun c63 => ?_)
    · have h0 : paP v s = 0 := by
        have := (nI_eq (a := paE v s - (BL v s 0 + 1)) (b := 0) (by omega) (by decide)).mp c63
        unfold paP
        rw [this]
        rfl
      refine V_L (L' := [(0, _)]) ⟨rfl, trivial⟩ ?_
      refine V_al i_X11_findFault_73 rfl ?_
      refine V_getI i_X11_findFault_74 rfl ?_
      rw [T5.2.2.2.2.2.1]
      exact P_iret i_X11_findFault_77 rfl ⟨rfl, f5, by rw [pa_0 h h0]; rfl⟩
    · refine V_al i_X11_findFault_66 rfl ?_
      refine V_getI i_X11_findFault_67 rfl ?_
      rw [p5]
      refine V_if_ne i_X11_findFault_70 (fun c70 => ?_) (fun c70 => ?_)
      · have h0 : ¬ paP v s = 0 := fun z => c70 (by rw [z]; rfl)
        refine V_c i_X11_findFault_78 ?_
        refine V_is (L' := [(0, _), (1, _), (3, _)]) i_X11_findFault_79 (by decide) ⟨rfl, rfl, rfl, trivial⟩ ?_
        refine V_al i_X11_findFault_80 rfl ?_
        refine P_callV0 i_X11_findFault_81 mi_X11_skip rfl ⟨_, _, rfl⟩ (by decide) (Nat.le_of_ble_eq_true rfl) (m_skip I5 J4 T5) (fun r9 I6 J6 q => ?_)
        obtain ⟨rfl, rfl, x6, h6⟩ := q
        have f6 : FfF I I6 := fun x k a b c => (x6 x k (by omega)).trans (f5 x k a b c)
        have T6 := TxM.up T5 (fun x k a b c => x6 x k (by omega)) h6 hb1.2
        have p6 : I6 146 12 = nI (paP v s) := (x6 _ _ (by decide)).trans p5
        have l6 : I6 146 13 = 0 := (x6 _ _ (by decide)).trans l5
        have m6 : I6 146 14 = 0 := (x6 _ _ (by decide)).trans m5
        refine V_L (L' := [(0, _), (1, _), (3, _)]) ⟨rfl, rfl, rfl, trivial⟩ ?_
        have fin : ∀ (I8 : IntM) (l a : Nat) (f : Int32), FfF I I8 → TxM I8 t s v a → I8 146 12 = nI (paP v s) → I8 146 13 = nI l → I8 146 14 = 0 → (f = 0 ∨ ¬ (a < s ∧ v a = 108)) → paT v s = toT (paP v s) l (eaP v s 8 a 0 z0 z0) → VP m_X11_findFault 4 84 [(0, .ref 146), (1, .int (nI t)), (3, .int f)] [] I8 J6 (fun r I1 J1 => J1 = J6 ∧ FfF I I1 ∧ taM I1 r (paT v s)) := by
          intro I8 l a f f8 T8 p8 l8 m8 hf he
          refine lp_M_items I8 J6 T8 _ 8 a 0 z0 z0 f rfl T8.2.2.2.2.2.2 (by decide) hf (fun r I9 f9 h9 => ⟨rfl, fun x k a b c => (f9 x k (by omega) b c).trans (f8 x k a b c), ?_⟩) I8 (fun _ _ _ _ _ => rfl) T8.2.2.2.2.2.1 ⟨m8, fun k hk => absurd hk (Nat.not_lt_zero k), fun k hk => absurd hk (Nat.not_lt_zero k)⟩
          rw [he]
          cases hw : eaP v s 8 a 0 z0 z0 with
          | inl p =>
            rw [hw] at h9
            exact h9
          | inr q =>
            rw [hw] at h9
            exact ⟨h9.1, (f9 _ _ (by decide) (by decide) (by decide)).trans p8, (f9 _ _ (by decide) (by decide) (by decide)).trans l8, h9.2⟩
        by_cases hl : BL v s (paE v s) < s ∧ v (BL v s (paE v s)) = 108
        · refine V_al i_X11_findFault_84 rfl ?_
          refine V_getI i_X11_findFault_85 rfl ?_
          rw [T6.2.2.2.2.2.1]
          refine V_al i_X11_findFault_88 rfl ?_
          refine V_getR i_X11_findFault_89 rfl rfl ?_
          refine V_il i_X11_findFault_92 rfl ?_
          refine K_iald t i_X11_findFault_93 rfl rfl ht (by omega) ?_
          rw [T6.2.2.1]
          refine V_ic_ge_f i_X11_findFault_94 (nI_ge hl.1 (by omega)) ?_
          refine V_al i_X11_findFault_97 rfl ?_
          refine V_il i_X11_findFault_98 rfl ?_
          refine P_callV1 i_X11_findFault_99 mi_X11_isItem rfl ⟨_, _, rfl⟩ (by decide) (Nat.le_of_ble_eq_true rfl) (m_itemL I6 J6 T6 hl) (fun r9 I7 J7 q => ?_)
          obtain ⟨rfl, x7, q⟩ := q
          have f7 : FfF I I7 := fun x k a b c => (x7 x k (by omega)).trans (f6 x k a b c)
          rcases q with ⟨rfl, hb, hc⟩ | ⟨rfl, hb, hc, hw⟩
          · refine V_L (L' := [(0, _), (1, _)]) ⟨rfl, rfl, trivial⟩ ?_
            refine V_if_ne_f i_X11_findFault_102 rfl ?_
            refine V_al i_X11_findFault_105 rfl ?_
            refine V_getI i_X11_findFault_106 rfl ?_
            rw [hc]
            exact P_iret i_X11_findFault_109 rfl ⟨rfl, f7, by rw [pa_l0 h h0 hl hb]; rfl⟩
          · refine V_L (L' := [(0, _), (1, _)]) ⟨rfl, rfl, trivial⟩ ?_
            refine V_if_ne_t i_X11_findFault_102 (by decide) ?_
            refine V_c i_X11_findFault_110 ?_
            refine V_is (L' := [(0, _), (1, _), (3, _)]) i_X11_findFault_111 (by decide) ⟨rfl, rfl, rfl, trivial⟩ ?_
            refine V_al i_X11_findFault_112 rfl ?_
            refine P_callV0 i_X11_findFault_113 mi_X11_skip rfl ⟨_, _, rfl⟩ (by decide) (Nat.le_of_ble_eq_true rfl) (m_skip I7 J7 (TxM.up T6 (fun x k a b c => x7 x k (by omega)) hc hb.1)) (fun r9 I8 J8 q => ?_)
            obtain ⟨rfl, rfl, x8, h8⟩ := q
            refine V_goto i_X11_findFault_116 ?_
            refine V_L (L' := [(0, _), (1, _), (3, _)]) ⟨rfl, rfl, rfl, trivial⟩ ?_
            exact fin I8 _ _ 0 (fun x k a b c => (x8 x k (by omega)).trans (f7 x k a b c)) (TxM.up T6 (fun x k a b c => (x8 x k (by omega)).trans (x7 x k (by omega))) h8 (BL_b (by have := hb.1; omega)).2) ((x8 _ _ (by decide)).trans ((x7 _ _ (by decide)).trans p6)) ((x8 _ _ (by decide)).trans (hw.trans (lw_val hb).1)) ((x8 _ _ (by decide)).trans ((x7 _ _ (by decide)).trans m6)) (Or.inl rfl) (pa_l1 h h0 hl hb)
        · exact fin I6 0 _ 1 f6 T6 p6 l6 m6 (Or.inr hl) (pa_e h h0 hl)
      · have h0 : paP v s = 0 := (nI_eq (b := 0) (by omega) (by decide)).mp c70
        refine V_L (L' := [(0, _)]) ⟨rfl, trivial⟩ ?_
        refine V_al i_X11_findFault_73 rfl ?_
        refine V_getI i_X11_findFault_74 rfl ?_
        rw [T5.2.2.2.2.2.1]
        exact P_iret i_X11_findFault_77 rfl ⟨rfl, f5, by rw [pa_0 h h0]; rfl⟩
  · have h := fun z => c30 ((he_is (v := v) (s := s) (a := BL v s 0) (c := 112) (by decide)).mpr z)
    refine V_al i_X11_findFault_33 rfl ?_
    refine V_getI i_X11_findFault_34 rfl ?_
    rw [T2.2.2.2.2.2.1]
    exact P_iret i_X11_findFault_37 rfl ⟨rfl, f2, by rw [pa_p h]; rfl⟩

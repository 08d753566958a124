
/-! ===== the Reader reads; fault ===== -/
def taQ (I1 : IntM) (r : Option Value) (w : TaR) : Prop := match w with
  | .inl p => r = some (.int (nI p))
  | .inr q => r = some (.int (-1)) ∧ I1 3 2 = nI q.2.2.1 ∧ I1 3 3 = nI q.1 ∧ I1 3 4 = nI q.2.1 ∧ AtI I1 5 q.2.2.1 q.2.2.2.1 ∧ AtI I1 7 q.2.2.1 q.2.2.2.2
theorem gv_lw {v : Nat → Int32} {s a : Nat} : (¬ gvN v s a < 48 ∧ ¬ 51 < gvN v s a) ↔ lwP v s a := by
  unfold gvN lwP
  by_cases c : a < s
  · rw [if_pos c]
    exact ⟨fun h => ⟨c, h⟩, fun h => h.2⟩
  · rw [if_neg c]
    exact ⟨fun h => absurd (by decide) h.1, fun h => absurd h.1 c⟩
theorem RdF.v {I I1 : IntM} {x : Nat} (hx : 111 ≤ x) (h : RdF I I1) : I1 (x + 1) = I (x + 1) := funext fun k => h _ _ (by omega)

set_option maxRecDepth 100000 in
set_option maxHeartbeats 4000000 in
theorem c_read (I : IntM) (J : LngM) {x s : Nat} (hL : LI x 60) (hx : 111 ≤ x) (hs : s ≤ 60) (hz : I x 1 = nI s) (z4 : I 4 1 = nI 7) (z6 : I 6 1 = nI 7) : CtP 5 m_X6_read [.ref 3, .ref x] I J (fun r I1 J1 => J1 = J ∧ RdF I I1 ∧ taQ I1 r (paT (I (x + 1)) s)) := by
  refine CtP_of (by decide) rfl (Nat.le_of_ble_eq_true rfl) ?_
  have tail : ∀ (I3 : IntM) (a l : Nat), RdF I I3 → I3 3 2 = 0 → I3 3 3 = nI (paP (I (x + 1)) s) → I3 3 4 = nI l → a ≤ s → paT (I (x + 1)) s = toT (paP (I (x + 1)) s) l (eaP (I (x + 1)) s 8 a 0 z0 z0) → VP m_X6_read 5 115 [(0, .ref 3), (1, .ref x), (2, .int (nI a))] [] I3 J (fun r I1 J1 => J1 = J ∧ RdF I I1 ∧ taQ I1 r (paT (I (x + 1)) s)) := by
    intro I3 a l f3 m3 p3 l3 ha ht
    refine V_al i_X6_read_115 rfl ?_
    refine V_al i_X6_read_116 rfl ?_
    refine V_il i_X6_read_117 rfl ?_
    refine P_callV2 i_X6_read_118 mi_X6_readEaters rfl ⟨_, _, rfl⟩ (by decide) (Nat.le_of_ble_eq_true rfl) (c_re I3 J hL hx hs ((f3 _ _ (by omega)).trans hz) ((f3 _ _ (by decide)).trans z4) ((f3 _ _ (by decide)).trans z6) ha m3) (fun r9 I4 J4 q => ?_)
    obtain ⟨rfl, f4, h4⟩ := q
    have f9 : RdF I I4 := fun y k h => (f4 y k (by omega)).trans (f3 y k h)
    rw [RdF.v hx f3] at h4
    rcases he : eaP (I (x + 1)) s 8 a 0 z0 z0 with p | w
    · rw [he] at h4 ht
      change r9 = some (.int (nI p)) at h4
      subst h4
      exact P_iret i_X6_read_121 rfl ⟨rfl, f9, by rw [ht]; rfl⟩
    · rw [he] at h4 ht
      obtain ⟨rfl, b1, b2, b3⟩ := h4
      exact P_iret i_X6_read_121 rfl ⟨rfl, f9, by rw [ht]; exact ⟨rfl, b1, (f4 _ _ (by decide)).trans p3, (f4 _ _ (by decide)).trans l3, b2, b3⟩⟩
  refine V_al i_X6_read_0 rfl ?_
  refine V_c i_X6_read_1 ?_
  refine V_putI i_X6_read_2 rfl ?_
  refine V_al i_X6_read_5 rfl ?_
  refine V_c i_X6_read_6 ?_
  refine V_putI i_X6_read_7 rfl ?_
  obtain ⟨I1, hI1⟩ : ∃ y, y = uI (uI I 3 2 0) 3 4 0 := ⟨_, rfl⟩
  rw [← hI1]
  have f1 : RdF I I1 := fun x k h => by rw [hI1, uI_nx (by omega), uI_nx (by omega)]
  have m1 : I1 3 2 = 0 := by rw [hI1, uI_nk (by decide), uI_eq]
  have l1 : I1 3 4 = 0 := by rw [hI1, uI_eq]
  have hz1 : I1 x 1 = nI s := (f1 _ _ (by omega)).trans hz
  have hv1 : I1 (x + 1) = I (x + 1) := RdF.v hx f1
  have hb0 := BL_b (v := (I (x + 1))) (Nat.zero_le s)
  refine V_al i_X6_read_10 rfl ?_
  refine V_c i_X6_read_11 ?_
  refine P_callS2v i_X6_read_12 ms_X6_behindBlanks (by decide) (Nat.le_of_ble_eq_true rfl) (c_bb I1 J hL hs hz1 (a := 0) (by decide)) ?_
  rw [hv1]
  refine V_is (L' := [(0, _), (1, _), (2, _)]) i_X6_read_15 (by decide) ⟨rfl, rfl, rfl, trivial⟩ ?_
  refine V_al i_X6_read_16 rfl ?_
  refine V_il i_X6_read_17 rfl ?_
  refine P_callV1v i_X6_read_18 mi_X3_get hL.1 ⟨_, _, rfl⟩ (by decide) (Nat.le_of_ble_eq_true rfl) (c_getv _ _ hL hs hz1 (by omega)) ?_
  rw [hv1]
  refine V_c i_X6_read_21 ?_
  refine V_ic_eq i_X6_read_23 (fun c23 => ?_) (fun c23 => ?_)
  · have h := (gv_is (by decide)).mp c23
    have hp := paP_ok h
    have hb1 := BL_b (v := (I (x + 1))) hp.2.2.2
    refine V_al i_X6_read_28 rfl ?_
    refine V_il i_X6_read_29 rfl ?_
    refine V_c i_X6_read_30 ?_
    refine V_iadd i_X6_read_31 ?_
    refine V_c i_X6_read_32 ?_
    rw [nI_1]
    refine P_callS3v i_X6_read_33 ms_X6_behindFigures (by decide) (Nat.le_of_ble_eq_true rfl) (c_bf I1 J hL hs hz1 (a := BL (I (x + 1)) s 0 + 1) (m := 3) (by omega) (by decide)) ?_
    rw [hv1, show fgE (I (x + 1)) s 3 (BL (I (x + 1)) s 0 + 1) = paE (I (x + 1)) s from rfl]
    refine V_is (L' := [(0, _), (1, _), (2, _), (3, _)]) i_X6_read_36 (by decide) ⟨rfl, rfl, rfl, rfl, trivial⟩ ?_
    refine V_al i_X6_read_37 rfl ?_
    refine V_al i_X6_read_38 rfl ?_
    refine V_il i_X6_read_39 rfl ?_
    refine V_c i_X6_read_40 ?_
    refine V_iadd i_X6_read_41 ?_
    refine V_il i_X6_read_42 rfl ?_
    rw [nI_1]
    refine P_callS3v i_X6_read_43 ms_X6_number (by decide) (Nat.le_of_ble_eq_true rfl) (c_nu I1 J hL hs hz1 hp.2.2.1 hp.2.2.2) ?_
    rw [hv1, hp.1]
    refine V_putI i_X6_read_46 rfl ?_
    obtain ⟨I2, hI2⟩ : ∃ y, y = uI I1 3 3 (nI (paP (I (x + 1)) s)) := ⟨_, rfl⟩
    rw [← hI2]
    have f2 : RdF I I2 := fun x k h => by rw [hI2, uI_nx (by omega)]; exact f1 x k h
    have m2 : I2 3 2 = 0 := by rw [hI2, uI_nk (by decide)]; exact m1
    have l2 : I2 3 4 = 0 := by rw [hI2, uI_nk (by decide)]; exact l1
    have p2 : I2 3 3 = nI (paP (I (x + 1)) s) := by rw [hI2, uI_eq]
    have hz2 : I2 x 1 = nI s := (f2 _ _ (by omega)).trans hz
    have hv2 : I2 (x + 1) = I (x + 1) := RdF.v hx f2
    refine V_al i_X6_read_49 rfl ?_
    refine V_getI i_X6_read_50 rfl ?_
    rw [p2]
    refine V_if_ne i_X6_read_53 (fun c53 => ?_) (fun c53 => ?_)
    · have h0 : ¬ paP (I (x + 1)) s = 0 := fun z => c53 (by rw [z]; rfl)
      refine V_al i_X6_read_58 rfl ?_
      refine V_il i_X6_read_59 rfl ?_
      refine P_callS2v i_X6_read_60 ms_X6_behindBlanks (by decide) (Nat.le_of_ble_eq_true rfl) (c_bb I2 J hL hs hz2 (a := paE (I (x + 1)) s) (by omega)) ?_
      rw [hv2]
      refine V_is (L' := [(0, _), (1, _), (2, _)]) i_X6_read_63 (by decide) ⟨rfl, rfl, rfl, trivial⟩ ?_
      refine V_al i_X6_read_64 rfl ?_
      refine V_il i_X6_read_65 rfl ?_
      refine P_callV1v i_X6_read_66 mi_X3_get hL.1 ⟨_, _, rfl⟩ (by decide) (Nat.le_of_ble_eq_true rfl) (c_getv _ _ hL hs hz2 (by omega)) ?_
      rw [hv2]
      refine V_c i_X6_read_69 ?_
      refine V_ic_ne i_X6_read_71 (fun c71 => ?_) (fun c71 => ?_)
      · have hl := fun z => c71 ((gv_is (v := (I (x + 1))) (s := s) (a := BL (I (x + 1)) s (paE (I (x + 1)) s)) (c := 108) (by decide)).mpr z)
        refine V_L (L' := [(0, _), (1, _), (2, _)]) ⟨rfl, rfl, rfl, trivial⟩ ?_
        exact tail I2 _ 0 f2 m2 p2 l2 hb1.2 (pa_e h h0 hl)
      · have hl := (gv_is (by decide)).mp c71
        refine V_al i_X6_read_74 rfl ?_
        refine V_al i_X6_read_75 rfl ?_
        refine V_il i_X6_read_76 rfl ?_
        refine V_c i_X6_read_77 ?_
        refine V_iadd i_X6_read_78 ?_
        rw [nI_1]
        refine P_callV1v i_X6_read_79 mi_X3_get hL.1 ⟨_, _, rfl⟩ (by decide) (Nat.le_of_ble_eq_true rfl) (c_getv _ _ hL hs hz2 (by omega)) ?_
        rw [hv2]
        refine V_c i_X6_read_82 ?_
        refine V_isub i_X6_read_84 ?_
        refine V_putI i_X6_read_85 rfl ?_
        obtain ⟨I3, hI3⟩ : ∃ y, y = uI I2 3 4 (gvN (I (x + 1)) s (BL (I (x + 1)) s (paE (I (x + 1)) s) + 1) - 48) := ⟨_, rfl⟩
        rw [← hI3]
        have f3 : RdF I I3 := fun x k h => by rw [hI3, uI_nx (by omega)]; exact f2 x k h
        have m3 : I3 3 2 = 0 := by rw [hI3, uI_nk (by decide)]; exact m2
        have p3 : I3 3 3 = nI (paP (I (x + 1)) s) := by rw [hI3, uI_nk (by decide)]; exact p2
        have l3 : I3 3 4 = gvN (I (x + 1)) s (BL (I (x + 1)) s (paE (I (x + 1)) s) + 1) - 48 := by rw [hI3, uI_eq]
        have hz3 : I3 x 1 = nI s := (f3 _ _ (by omega)).trans hz
        have hv3 : I3 (x + 1) = I (x + 1) := RdF.v hx f3
        refine V_al i_X6_read_88 rfl ?_
        refine V_getI i_X6_read_89 rfl ?_
        rw [l3]
        refine V_if_lt i_X6_read_92 (fun c92 => ?_) (fun c92 => ?_)
        · have hb : ¬ lwP (I (x + 1)) s (BL (I (x + 1)) s (paE (I (x + 1)) s) + 1) := fun z => ((sub48 _).mpr (gv_lw.mpr z)).1 c92
          refine V_L (L' := [(2, _)]) ⟨rfl, trivial⟩ ?_
          refine V_il i_X6_read_103 rfl ?_
          refine V_c i_X6_read_104 ?_
          refine V_iadd i_X6_read_105 ?_
          rw [nI_1]
          exact P_iret i_X6_read_106 rfl ⟨rfl, f3, by rw [pa_l0 h h0 hl hb]; rfl⟩
        · refine V_al i_X6_read_95 rfl ?_
          refine V_getI i_X6_read_96 rfl ?_
          refine V_c i_X6_read_99 ?_
          rw [l3]
          refine V_ic_lt i_X6_read_100 (fun c100 => ?_) (fun c100 => ?_)
          · have hb : lwP (I (x + 1)) s (BL (I (x + 1)) s (paE (I (x + 1)) s) + 1) := gv_lw.mp ((sub48 _).mp ⟨c92, c100⟩)
            refine V_al i_X6_read_107 rfl ?_
            refine V_il i_X6_read_108 rfl ?_
            refine V_c i_X6_read_109 ?_
            refine V_iadd i_X6_read_110 ?_
            rw [show (2 : Int32) = nI 2 from rfl, nI_add]
            refine P_callS2v i_X6_read_111 ms_X6_behindBlanks (by decide) (Nat.le_of_ble_eq_true rfl) (c_bb I3 J hL hs hz3 (a := BL (I (x + 1)) s (paE (I (x + 1)) s) + 2) (by omega)) ?_
            rw [hv3]
            refine V_is (L' := [(0, _), (1, _), (2, _)]) i_X6_read_114 (by decide) ⟨rfl, rfl, rfl, trivial⟩ ?_
            refine V_L (L' := [(0, _), (1, _), (2, _)]) ⟨rfl, rfl, rfl, trivial⟩ ?_
            exact tail I3 _ _ f3 m3 p3 (by rw [l3, show gvN (I (x + 1)) s (BL (I (x + 1)) s (paE (I (x + 1)) s) + 1) = (I (x + 1)) (BL (I (x + 1)) s (paE (I (x + 1)) s) + 1) from if_pos hb.1]; exact (lw_val hb).1) (BL_b (by have := hb.1; omega)).2 (pa_l1 h h0 hl hb)
          · have hb : ¬ lwP (I (x + 1)) s (BL (I (x + 1)) s (paE (I (x + 1)) s) + 1) := fun z => c100 ((sub48 _).mpr (gv_lw.mpr z)).2
            refine V_L (L' := [(2, _)]) ⟨rfl, trivial⟩ ?_
            refine V_il i_X6_read_103 rfl ?_
            refine V_c i_X6_read_104 ?_
            refine V_iadd i_X6_read_105 ?_
            rw [nI_1]
            exact P_iret i_X6_read_106 rfl ⟨rfl, f3, by rw [pa_l0 h h0 hl hb]; rfl⟩
    · have h0 : paP (I (x + 1)) s = 0 := (nI_eq (b := 0) (by omega) (by decide)).mp c53
      refine V_il i_X6_read_56 rfl ?_
      exact P_iret i_X6_read_57 rfl ⟨rfl, f2, by rw [pa_0 h h0]; rfl⟩
  · have h := fun z => c23 ((gv_is (v := (I (x + 1))) (s := s) (a := BL (I (x + 1)) s 0) (c := 112) (by decide)).mpr z)
    refine V_il i_X6_read_26 rfl ?_
    exact P_iret i_X6_read_27 rfl ⟨rfl, f1, by rw [pa_p h]; rfl⟩

def faV (w : TaR) : Int32 := match w with
  | .inl p => nI p
  | .inr _ => -9
theorem RdF.C {I I1 : IntM} (J : LngM) (h : RdF I I1) : FrC I J I1 J := ⟨fun x k q => h x k (by omega), fun _ _ _ => rfl⟩
theorem RdF.Z {I I1 : IntM} (h : RdF I I1) (hZ : ISz I) : ISz I1 := ISz.congr (fun x k q => h x k (by omega)) hZ

set_option maxRecDepth 100000 in
set_option maxHeartbeats 4000000 in
theorem c_fault0 (I : IntM) (J : LngM) (hZ : ISz I) {x : Int32} (h : hasC 4 x = 0) : CtP 6 m_X10_fault [.ref 0, .int x] I J (QC I J (.int (-1)) none none none) := by
  refine CtP_of (by decide) rfl (Nat.le_of_ble_eq_true rfl) ?_
  refine V_al i_X10_fault_0 rfl ?_
  refine V_getR i_X10_fault_1 rfl rfl ?_
  refine V_il i_X10_fault_4 rfl ?_
  refine P_callS2v i_X10_fault_5 ms_X10_pick (by decide) (Nat.le_of_ble_eq_true rfl) (c_pick0 _ _ rfl (by decide) h) ?_
  refine V_asN (L' := [(0, _), (2, _)]) i_X10_fault_8 (by decide) ⟨rfl, rfl, trivial⟩ ?_
  refine V_alN i_X10_fault_9 rfl ?_
  refine V_ifnonnullN i_X10_fault_10 ?_
  refine V_c i_X10_fault_13 ?_
  exact P_iret i_X10_fault_14 rfl ⟨rfl, I, J, FrC.rf, hZ, rfl, rfl⟩
set_option maxRecDepth 100000 in
set_option maxHeartbeats 4000000 in
theorem c_fault1 (I : IntM) (J : LngM) (hZ : ISz I) {t : Nat} (ht : t < 4) (hz : I (123 + 2 * t) 1 = -1) : CtP 6 m_X10_fault [.ref 0, .int (nI t)] I J (QC I J (.int (-3)) none none (some 1)) := by
  refine CtP_of (by decide) rfl (Nat.le_of_ble_eq_true rfl) ?_
  refine V_al i_X10_fault_0 rfl ?_
  refine V_getR i_X10_fault_1 rfl rfl ?_
  refine V_il i_X10_fault_4 rfl ?_
  refine P_callS2v i_X10_fault_5 ms_X10_pick (by decide) (Nat.le_of_ble_eq_true rfl) (c_pick _ _ rfl (by decide) ht (RF_text ht)) ?_
  refine V_as (L' := [(0, _), (2, _)]) i_X10_fault_8 (by decide) ⟨rfl, rfl, trivial⟩ ?_
  refine V_al i_X10_fault_9 rfl ?_
  refine V_ifnonnull i_X10_fault_10 ?_
  refine V_al i_X10_fault_15 rfl ?_
  refine P_callV0v i_X10_fault_16 mi_X3_missing (LI_text ht).1 ⟨_, _, rfl⟩ (by decide) (Nat.le_of_ble_eq_true rfl) (c_I_missing _ _ (LI_text ht)) ?_
  refine V_if_eq_f i_X10_fault_19 (by rw [hz]; decide) ?_
  refine V_al i_X10_fault_22 rfl ?_
  refine V_c i_X10_fault_23 ?_
  refine P_callV1v i_X10_fault_24 mi_X10_refuse rfl ⟨_, _, rfl⟩ (by decide) (Nat.le_of_ble_eq_true rfl) (c_refuse _ _ (f := 1) (by decide)) ?_
  exact P_iret i_X10_fault_27 rfl ⟨rfl, I, J, FrC.rf, hZ, rfl, rfl⟩
set_option maxRecDepth 100000 in
set_option maxHeartbeats 4000000 in
theorem c_table0 (I : IntM) (J : LngM) (hZ : ISz I) {x : Int32} (h : hasC 4 x = 0) : CtP 6 m_X10_table [.ref 0, .int x] I J (QC I J (.int (-1)) none none none) := by
  refine CtP_of (by decide) rfl (Nat.le_of_ble_eq_true rfl) ?_
  refine V_al i_X10_table_0 rfl ?_
  refine V_getR i_X10_table_1 rfl rfl ?_
  refine V_il i_X10_table_4 rfl ?_
  refine P_callS2v i_X10_table_5 ms_X10_pick (by decide) (Nat.le_of_ble_eq_true rfl) (c_pick0 _ _ rfl (by decide) h) ?_
  refine V_asN (L' := [(0, _), (2, _)]) i_X10_table_8 (by decide) ⟨rfl, rfl, trivial⟩ ?_
  refine V_alN i_X10_table_9 rfl ?_
  refine V_ifnonnullN i_X10_table_10 ?_
  refine V_c i_X10_table_13 ?_
  exact P_iret i_X10_table_14 rfl ⟨rfl, I, J, FrC.rf, hZ, rfl, rfl⟩
set_option maxRecDepth 100000 in
set_option maxHeartbeats 4000000 in
theorem c_table1 (I : IntM) (J : LngM) (hZ : ISz I) {t : Nat} (ht : t < 4) (hz : I (123 + 2 * t) 1 = -1) : CtP 6 m_X10_table [.ref 0, .int (nI t)] I J (QC I J (.int (-3)) none none (some 1)) := by
  refine CtP_of (by decide) rfl (Nat.le_of_ble_eq_true rfl) ?_
  refine V_al i_X10_table_0 rfl ?_
  refine V_getR i_X10_table_1 rfl rfl ?_
  refine V_il i_X10_table_4 rfl ?_
  refine P_callS2v i_X10_table_5 ms_X10_pick (by decide) (Nat.le_of_ble_eq_true rfl) (c_pick _ _ rfl (by decide) ht (RF_text ht)) ?_
  refine V_as (L' := [(0, _), (2, _)]) i_X10_table_8 (by decide) ⟨rfl, rfl, trivial⟩ ?_
  refine V_al i_X10_table_9 rfl ?_
  refine V_ifnonnull i_X10_table_10 ?_
  refine V_al i_X10_table_15 rfl ?_
  refine P_callV0v i_X10_table_16 mi_X3_missing (LI_text ht).1 ⟨_, _, rfl⟩ (by decide) (Nat.le_of_ble_eq_true rfl) (c_I_missing _ _ (LI_text ht)) ?_
  refine V_if_eq_f i_X10_table_19 (by rw [hz]; decide) ?_
  refine V_al i_X10_table_22 rfl ?_
  refine V_c i_X10_table_23 ?_
  refine P_callV1v i_X10_table_24 mi_X10_refuse rfl ⟨_, _, rfl⟩ (by decide) (Nat.le_of_ble_eq_true rfl) (c_refuse _ _ (f := 1) (by decide)) ?_
  exact P_iret i_X10_table_27 rfl ⟨rfl, I, J, FrC.rf, hZ, rfl, rfl⟩
set_option maxRecDepth 100000 in
set_option maxHeartbeats 4000000 in
theorem c_fault2 (I : IntM) (J : LngM) (hZ : ISz I) {t s : Nat} (ht : t < 4) (hs : s ≤ 60) (hz : I (123 + 2 * t) 1 = nI s) (z4 : I 4 1 = nI 7) (z6 : I 6 1 = nI 7) : CtP 6 m_X10_fault [.ref 0, .int (nI t)] I J (QC I J (.int (faV (paT (I (123 + 2 * t + 1)) s))) none none none) := by
  refine CtP_of (by decide) rfl (Nat.le_of_ble_eq_true rfl) ?_
  refine V_al i_X10_fault_0 rfl ?_
  refine V_getR i_X10_fault_1 rfl rfl ?_
  refine V_il i_X10_fault_4 rfl ?_
  refine P_callS2v i_X10_fault_5 ms_X10_pick (by decide) (Nat.le_of_ble_eq_true rfl) (c_pick _ _ rfl (by decide) ht (RF_text ht)) ?_
  refine V_as (L' := [(0, _), (2, _)]) i_X10_fault_8 (by decide) ⟨rfl, rfl, trivial⟩ ?_
  refine V_al i_X10_fault_9 rfl ?_
  refine V_ifnonnull i_X10_fault_10 ?_
  refine V_al i_X10_fault_15 rfl ?_
  refine P_callV0v i_X10_fault_16 mi_X3_missing (LI_text ht).1 ⟨_, _, rfl⟩ (by decide) (Nat.le_of_ble_eq_true rfl) (c_I_missing _ _ (LI_text ht)) ?_
  refine V_if_eq_t i_X10_fault_19 (by rw [hz, if_neg (nI_pos (by omega))]) ?_
  refine V_al i_X10_fault_28 rfl ?_
  refine V_getR i_X10_fault_29 rfl rfl ?_
  refine V_al i_X10_fault_32 rfl ?_
  refine P_callV1 i_X10_fault_33 mi_X6_read rfl ⟨_, _, rfl⟩ (by decide) (Nat.le_of_ble_eq_true rfl) (c_read I J (LI_text ht) (by omega) hs hz z4 z6) (fun r9 I1 J1 q => ?_)
  obtain ⟨rfl, f1, h1⟩ := q
  have hok := pa_ok (I (123 + 2 * t + 1)) s
  rcases he : paT (I (123 + 2 * t + 1)) s with p | w
  · rw [he] at h1 hok
    change r9 = some (.int (nI p)) at h1
    change p ≤ s at hok
    subst h1
    refine V_is (L' := [(3, _)]) i_X10_fault_36 (by decide) ⟨rfl, trivial⟩ ?_
    refine V_L (L' := [(3, _)]) ⟨rfl, trivial⟩ ?_
    refine V_il i_X10_fault_37 rfl ?_
    refine V_if_ge_t i_X10_fault_38 (nI_pos' (by omega)) ?_
    refine V_il i_X10_fault_46 rfl ?_
    exact P_iret i_X10_fault_47 rfl ⟨rfl, I1, _, RdF.C _ f1, RdF.Z f1 hZ, rfl, rfl⟩
  · rw [he] at h1
    obtain ⟨rfl, b1⟩ := h1
    refine V_is (L' := [(3, _)]) i_X10_fault_36 (by decide) ⟨rfl, trivial⟩ ?_
    refine V_L (L' := [(3, _)]) ⟨rfl, trivial⟩ ?_
    refine V_il i_X10_fault_37 rfl ?_
    refine V_if_ge_f i_X10_fault_38 (by decide) ?_
    refine V_c i_X10_fault_41 ?_
    refine V_goto i_X10_fault_43 ?_
    exact P_iret i_X10_fault_47 rfl ⟨rfl, I1, _, RdF.C _ f1, RdF.Z f1 hZ, rfl, rfl⟩


/-! ===== an evening, one by one: eating ===== -/
theorem ev_tk {n : Nat} {kd nd : Nat → Nat} {lw e how gr : Nat} {ln te : Nat → Nat} (hn : n ≤ 7) (hE : EvOK n how e ln gr te) (he : e < n) : (tk (kd (ln e)) (nd (ln e) * un how) gr (dv lw e)) ≤ gr ∧ (how = 0 → ∃ k, gr = 24 * k) ∧ (how = 0 → 24 ^ (7 - (e + 1)) ∣ gr - (tk (kd (ln e)) (nd (ln e) * un how) gr (dv lw e))) := by
  obtain ⟨hh, hen, hPm, hgr, h24, hte⟩ := hE
  refine ⟨tk_le _ _ _ _ (dv_cases lw e), fun h0 => ?_, fun h0 => ?_⟩
  · exact (step24 (kd := kd (ln e)) (nd := nd (ln e)) (by omega) (h24 h0) (dv_cases lw e)).1
  · have := (step24 (kd := kd (ln e)) (nd := nd (ln e)) (by omega) (h24 h0) (dv_cases lw e)).2.2
    rw [h0]
    exact this
set_option maxRecDepth 100000 in
set_option maxHeartbeats 4000000 in
theorem c_E_next (I : IntM) (J : LngM) {n : Nat} {kd nd od : Nat → Nat} {lw pot : Nat} (hK : CK I n kd nd od lw pot) (h16 : I 16 1 = nI 7) {e how gr : Nat} {ln te : Nat → Nat} (hE : EvOK n how e ln gr te) (hC : EvC I J 15 n how e ln gr te) (he : e < n) : CtV 3 m_X2_nextEats [.ref 15, .ref 8] I J (.int (nI (ln e))) (uI (uI I 15 4 (nI (e + 1))) 15 6 (nI (whoN ln (e + 1)))) (uJ (uJ J 19 (ln e) (lN (tk (kd (ln e)) (nd (ln e) * un how) gr (dv lw e)))) 15 5 (lN (gr - (tk (kd (ln e)) (nd (ln e) * un how) gr (dv lw e))))) := by
  refine CtV_of (by decide) rfl (Nat.le_of_ble_eq_true rfl) ?_
  obtain ⟨hh, hen, hPm, hgr, h24, hte⟩ := id hE
  obtain ⟨c1, c2, c3, c4, c5, c6⟩ := id hC
  have hl := hPm.1 e he
  have hn7 := hK.n7
  have hkd := hK.kd _ hl
  have hnd := hK.nd _ hl
  have b0 := Nat.mul_le_mul hnd (un_le how)
  have b1 := un_le how
  obtain ⟨t1, t2, t3⟩ := ev_tk (kd := kd) (nd := nd) (lw := lw) hK.n7 hE he
  refine V_al i_X2_nextEats_0 rfl ?_
  refine V_getR i_X2_nextEats_1 rfl rfl ?_
  refine V_al i_X2_nextEats_4 rfl ?_
  refine V_getI i_X2_nextEats_5 rfl ?_
  refine P_callV1v i_X2_nextEats_8 mi_X3_get rfl ⟨_, _, rfl⟩ (by decide) (Nat.le_of_ble_eq_true rfl) (c_I_getN (x := 16) (n := 7) (s := 7) (k := e) _ _ ⟨rfl, rfl, rfl, by decide⟩ h16 c2 (by omega) (by decide)) ?_
  rw [show I (16 + 1) e = nI (ln e) from c5 e he]
  refine V_is (L' := [(0, _), (1, _), (2, _)]) i_X2_nextEats_11 (by decide) ⟨rfl, rfl, rfl, trivial⟩ ?_
  refine V_al i_X2_nextEats_12 rfl ?_
  refine V_getR i_X2_nextEats_13 rfl rfl ?_
  refine V_il i_X2_nextEats_16 rfl ?_
  refine P_callV1v i_X2_nextEats_17 mi_X3_get rfl ⟨_, _, rfl⟩ (by decide) (Nat.le_of_ble_eq_true rfl) (c_I_getN (x := 11) (n := 7) (s := 7) (k := ln e) _ _ ⟨rfl, rfl, rfl, by decide⟩ hK.C.2.2.2.2.2.1 rfl (by omega) (by decide)) ?_
  rw [show I (11 + 1) (ln e) = nI (nd (ln e)) from hK.C.2.2.1 _ hl]
  refine V_i2l i_X2_nextEats_20 ?_
  rw [nI_long (by omega)]
  refine V_al i_X2_nextEats_21 rfl ?_
  refine V_getI i_X2_nextEats_22 rfl ?_
  rw [c1]
  refine P_callS1v i_X2_nextEats_25 ms_X8_unit (by decide) (Nat.le_of_ble_eq_true rfl) (c_unit _ _ hh) ?_
  refine V_lmul i_X2_nextEats_28 ?_
  rw [lN_mul]
  refine V_ls (L' := [(0, _), (1, _), (2, _), (3, _)]) i_X2_nextEats_29 (by decide) ⟨rfl, rfl, rfl, rfl, trivial⟩ ?_
  refine V_al i_X2_nextEats_30 rfl ?_
  refine V_getR i_X2_nextEats_31 rfl rfl ?_
  refine V_il i_X2_nextEats_34 rfl ?_
  refine P_callV1v i_X2_nextEats_35 mi_X3_get rfl ⟨_, _, rfl⟩ (by decide) (Nat.le_of_ble_eq_true rfl) (c_I_getN (x := 9) (n := 7) (s := 7) (k := ln e) _ _ ⟨rfl, rfl, rfl, by decide⟩ hK.C.2.2.2.2.1 rfl (by omega) (by decide)) ?_
  rw [show I (9 + 1) (ln e) = nI (kd (ln e)) from hK.C.2.1 _ hl]
  refine V_ll i_X2_nextEats_38 rfl ?_
  refine V_al i_X2_nextEats_39 rfl ?_
  refine V_getJ i_X2_nextEats_40 rfl ?_
  rw [c3]
  refine V_al i_X2_nextEats_43 rfl ?_
  refine V_getI i_X2_nextEats_44 rfl ?_
  rw [hK.lw]
  refine V_al i_X2_nextEats_47 rfl ?_
  refine V_getI i_X2_nextEats_48 rfl ?_
  rw [c2]
  refine P_callS2v i_X2_nextEats_51 ms_X8_divisor (by decide) (Nat.le_of_ble_eq_true rfl) (c_divisor _ _ hK.l3 (by omega)) ?_
  refine P_callS4v i_X2_nextEats_54 ms_X8_take (by decide) (Nat.le_of_ble_eq_true rfl) (c_take _ _ hkd (by omega) (by omega) (dv_cases lw e)) ?_
  refine V_ls (L' := [(0, _), (2, _), (5, _)]) i_X2_nextEats_57 (by decide) ⟨rfl, rfl, rfl, trivial⟩ ?_
  refine V_al i_X2_nextEats_59 rfl ?_
  refine V_getR i_X2_nextEats_60 rfl rfl ?_
  refine V_il i_X2_nextEats_63 rfl ?_
  refine V_ll i_X2_nextEats_64 rfl ?_
  refine P_callV2u i_X2_nextEats_66 mi_X4_set rfl ⟨_, _, rfl⟩ (by decide) (Nat.le_of_ble_eq_true rfl) (c_L_set _ _ (x := 18) (n := 7) ⟨rfl, rfl, rfl, by decide⟩ (k := ln e) (by omega) _) ?_
  refine V_al i_X2_nextEats_69 rfl ?_
  refine V_dup i_X2_nextEats_70 rfl ?_
  refine V_getJ i_X2_nextEats_71 rfl ?_
  rw [uJ_ne _ _ (by simp), c3]
  refine V_ll i_X2_nextEats_74 rfl ?_
  refine V_lsub i_X2_nextEats_76 ?_
  rw [lN_sub t1]
  refine V_putJ i_X2_nextEats_77 rfl ?_
  refine V_al i_X2_nextEats_80 rfl ?_
  refine V_dup i_X2_nextEats_81 rfl ?_
  refine V_getI i_X2_nextEats_82 rfl ?_
  rw [c2]
  refine V_c i_X2_nextEats_85 ?_
  refine V_iadd i_X2_nextEats_86 ?_
  rw [show nI e + 1 = nI (e + 1) from nI_1 e]
  refine V_putI i_X2_nextEats_87 rfl ?_
  refine V_al i_X2_nextEats_90 rfl ?_
  refine V_dup i_X2_nextEats_91 rfl ?_
  refine V_getI i_X2_nextEats_92 rfl ?_
  rw [uI_ne _ _ (by simp), c4]
  refine V_c i_X2_nextEats_95 ?_
  refine V_il i_X2_nextEats_96 rfl ?_
  refine V_ishl i_X2_nextEats_97 ?_
  rw [shl1 (by omega)]
  refine V_ior i_X2_nextEats_98 ?_
  rw [or_nI]
  refine V_putI i_X2_nextEats_99 rfl ?_
  refine V_il i_X2_nextEats_102 rfl ?_
  exact P_iret i_X2_nextEats_103 rfl ⟨rfl, rfl, rfl⟩
set_option maxRecDepth 100000 in
set_option maxHeartbeats 4000000 in
theorem c_eat0 (I : IntM) (J : LngM) {n : Nat} {kd nd od : Nat → Nat} {lw pot : Nat} (hK : CK I n kd nd od lw pot) {e how gr : Nat} {ln te : Nat → Nat} (hE : EvOK n how e ln gr te) (hC : EvC I J 15 n how e ln gr te) (he : e = n) : CtP 5 m_X10_eat [.ref 0] I J (QC I J (.int (-4)) none none none) := by
  refine CtP_of (by decide) rfl (Nat.le_of_ble_eq_true rfl) ?_
  obtain ⟨hh, hen, hPm, hgr, h24, hte⟩ := id hE
  obtain ⟨c1, c2, c3, c4, c5, c6⟩ := id hC
  refine V_al i_X10_eat_0 rfl ?_
  refine V_getR i_X10_eat_1 rfl rfl ?_
  refine V_getI i_X10_eat_4 rfl ?_
  refine V_al i_X10_eat_7 rfl ?_
  refine V_getR i_X10_eat_8 rfl rfl ?_
  refine V_getI i_X10_eat_11 rfl ?_
  refine V_ic_lt_f i_X10_eat_14 (by rw [c2, hK.sz, he]; exact nI_nlt (Nat.le_refl _) (by have := hK.n7; omega)) ?_
  refine V_c i_X10_eat_17 ?_
  exact P_iret i_X10_eat_19 rfl ⟨rfl, I, J, FrC.rf, hK.Z, rfl, rfl⟩
set_option maxRecDepth 100000 in
set_option maxHeartbeats 4000000 in
theorem c_eat1 (I : IntM) (J : LngM) {n : Nat} {kd nd od : Nat → Nat} {lw pot : Nat} (hK : CK I n kd nd od lw pot) (h16 : I 16 1 = nI 7) {e how gr : Nat} {ln te : Nat → Nat} (hE : EvOK n how e ln gr te) (hC : EvC I J 15 n how e ln gr te) (he : e < n) : CtV 5 m_X10_eat [.ref 0] I J (.int (nI (ln e))) (uI (uI I 15 4 (nI (e + 1))) 15 6 (nI (whoN ln (e + 1)))) (tlJ 0 14 15 (some ((((tk (kd (ln e)) (nd (ln e) * un how) gr (dv lw e)) : Nat) : Int), un how)) (uJ (uJ J 19 (ln e) (lN (tk (kd (ln e)) (nd (ln e) * un how) gr (dv lw e)))) 15 5 (lN (gr - (tk (kd (ln e)) (nd (ln e) * un how) gr (dv lw e)))))) := by
  refine CtV_of (by decide) rfl (Nat.le_of_ble_eq_true rfl) ?_
  obtain ⟨hh, hen, hPm, hgr, h24, hte⟩ := id hE
  obtain ⟨c1, c2, c3, c4, c5, c6⟩ := id hC
  have hl := hPm.1 e he
  have hn7 := hK.n7
  have hkd := hK.kd _ hl
  have hnd := hK.nd _ hl
  have b0 := Nat.mul_le_mul hnd (un_le how)
  have b1 := un_le how
  obtain ⟨t1, t2, t3⟩ := ev_tk (kd := kd) (nd := nd) (lw := lw) hK.n7 hE he
  refine V_al i_X10_eat_0 rfl ?_
  refine V_getR i_X10_eat_1 rfl rfl ?_
  refine V_getI i_X10_eat_4 rfl ?_
  refine V_al i_X10_eat_7 rfl ?_
  refine V_getR i_X10_eat_8 rfl rfl ?_
  refine V_getI i_X10_eat_11 rfl ?_
  refine V_ic_lt_t i_X10_eat_14 (by rw [c2, hK.sz]; exact nI_lt he (by omega)) ?_
  refine V_al i_X10_eat_20 rfl ?_
  refine V_getR i_X10_eat_21 rfl rfl ?_
  refine V_al i_X10_eat_24 rfl ?_
  refine V_getR i_X10_eat_25 rfl rfl ?_
  refine P_callV1v i_X10_eat_28 mi_X2_nextEats rfl ⟨_, _, rfl⟩ (by decide) (Nat.le_of_ble_eq_true rfl) (c_E_next I J hK h16 hE hC he) ?_
  refine V_is (L' := [(0, _), (1, _)]) i_X10_eat_31 (by decide) ⟨rfl, rfl, trivial⟩ ?_
  refine V_al i_X10_eat_32 rfl ?_
  refine V_al i_X10_eat_33 rfl ?_
  refine V_getR i_X10_eat_34 rfl rfl ?_
  refine V_getR i_X10_eat_37 rfl rfl ?_
  refine V_il i_X10_eat_40 rfl ?_
  refine P_callV1v i_X10_eat_41 mi_X4_get rfl ⟨_, _, rfl⟩ (by decide) (Nat.le_of_ble_eq_true rfl) (c_L_get _ _ (x := 18) (n := 7) ⟨rfl, rfl, rfl, by decide⟩ (k := ln e) (by omega)) ?_
  rw [show (uJ (uJ J 19 (ln e) (lN (tk (kd (ln e)) (nd (ln e) * un how) gr (dv lw e)))) 15 5 (lN (gr - (tk (kd (ln e)) (nd (ln e) * un how) gr (dv lw e))))) (18 + 1) (ln e) = lN (tk (kd (ln e)) (nd (ln e) * un how) gr (dv lw e)) from by rw [uJ_ne _ _ (by simp), uJ_eq], lZ_N (tk (kd (ln e)) (nd (ln e) * un how) gr (dv lw e))]
  refine V_al i_X10_eat_44 rfl ?_
  refine V_getR i_X10_eat_45 rfl rfl ?_
  refine V_getI i_X10_eat_48 rfl ?_
  rw [uI_ne _ _ (by simp), uI_ne _ _ (by simp), c1]
  refine P_callV2u i_X10_eat_51 mi_X10_tellShare rfl ⟨_, _, rfl⟩ (by decide) (Nat.le_of_ble_eq_true rfl) (c_tellS _ _ hh (gr_62 (Nat.le_trans t1 hgr))) ?_
  refine V_il i_X10_eat_54 rfl ?_
  exact P_iret i_X10_eat_55 rfl ⟨rfl, rfl, rfl⟩
set_option maxRecDepth 100000 in
set_option maxHeartbeats 4000000 in
theorem m_eat0 (I : IntM) (J : LngM) {n : Nat} {kd nd od : Nat → Nat} {lw pot : Nat} (hK : MK I n kd nd od lw pot) {e how gr : Nat} {ln te : Nat → Nat} (hE : EvOK n how e ln gr te) (hV : EvM I J n how e ln gr te) (he : e = n) : CtP 6 m_X11_eat [.ref 146] I J (QM I J (.int (-4)) none none none) := by
  refine CtP_of (by decide) rfl (Nat.le_of_ble_eq_true rfl) ?_
  obtain ⟨hh, hen, hPm, hgr, h24, hte⟩ := id hE
  obtain ⟨v1, v2, v3, v4, v5⟩ := id hV
  refine V_al i_X11_eat_0 rfl ?_
  refine V_getI i_X11_eat_1 rfl ?_
  refine V_al i_X11_eat_4 rfl ?_
  refine V_getI i_X11_eat_5 rfl ?_
  refine V_ic_ne_f i_X11_eat_8 (by rw [v2, hK.sz, he]) ?_
  refine V_c i_X11_eat_11 ?_
  exact P_iret i_X11_eat_13 rfl ⟨rfl, I, J, FrM.rf, rfl, rfl⟩
set_option maxRecDepth 100000 in
set_option maxHeartbeats 4000000 in
theorem m_eat1 (I : IntM) (J : LngM) {n : Nat} {kd nd od : Nat → Nat} {lw pot : Nat} (hK : MK I n kd nd od lw pot) {e how gr : Nat} {ln te : Nat → Nat} (hE : EvOK n how e ln gr te) (hV : EvM I J n how e ln gr te) (he : e < n) : CtP 6 m_X11_eat [.ref 146] I J (fun r I1 J1 => r = some (.int (nI (ln e))) ∧ I1 = uI I 146 32 (nI (e + 1)) ∧ J1 146 3 = lZ (roN (((tk (kd (ln e)) (nd (ln e) * un how) gr (dv lw e)) : Nat) : Int) (un how)) ∧ J1 146 4 = lN (rdN (((tk (kd (ln e)) (nd (ln e) * un how) gr (dv lw e)) : Nat) : Int) (un how)) ∧ Fr (J1 146 35) (J1 146 36) ((gr - (tk (kd (ln e)) (nd (ln e) * un how) gr (dv lw e)) : Nat) : Int) (un how) ∧ Fr (J1 161 (ln e)) (J1 162 (ln e)) (((tk (kd (ln e)) (nd (ln e) * un how) gr (dv lw e)) : Nat) : Int) (un how) ∧ ∀ x k, ¬ (x = 146 ∧ (k = 3 ∨ k = 4 ∨ k = 23 ∨ k = 24 ∨ k = 35 ∨ k = 36)) → ¬ ((x = 161 ∨ x = 162) ∧ k = ln e) → J1 x k = J x k) := by
  refine CtP_of (by decide) rfl (Nat.le_of_ble_eq_true rfl) ?_
  obtain ⟨hh, hen, hPm, hgr, h24, hte⟩ := id hE
  obtain ⟨v1, v2, v3, v4, v5⟩ := id hV
  have hl := hPm.1 e he
  have hn7 := hK.n7
  have hkd := hK.kd _ hl
  have hnd := hK.nd _ hl
  have b0 := Nat.mul_le_mul hnd (un_le how)
  have b1 := un_le how
  obtain ⟨t1, t2, t3⟩ := ev_tk (kd := kd) (nd := nd) (lw := lw) hK.n7 hE he
  refine V_al i_X11_eat_0 rfl ?_
  refine V_getI i_X11_eat_1 rfl ?_
  refine V_al i_X11_eat_4 rfl ?_
  refine V_getI i_X11_eat_5 rfl ?_
  refine V_ic_ne_t i_X11_eat_8 (by rw [v2, hK.sz]; exact fun q => absurd ((nI_eq (by omega) (by omega)).mp q) (by omega)) ?_
  refine V_al i_X11_eat_14 rfl ?_
  refine V_getR i_X11_eat_15 rfl rfl ?_
  refine V_al i_X11_eat_18 rfl ?_
  refine V_getI i_X11_eat_19 rfl ?_
  refine K_iald e i_X11_eat_22 rfl v2 (by omega) (by omega) ?_
  rw [v4 e he]
  refine V_is (L' := [(0, _), (1, _)]) i_X11_eat_23 (by decide) ⟨rfl, rfl, trivial⟩ ?_
  refine V_al i_X11_eat_24 rfl ?_
  refine V_al i_X11_eat_25 rfl ?_
  refine V_getI i_X11_eat_26 rfl ?_
  rw [v1]
  refine V_al i_X11_eat_29 rfl ?_
  refine V_getR i_X11_eat_30 rfl rfl ?_
  refine V_il i_X11_eat_33 rfl ?_
  refine K_iald (ln e) i_X11_eat_34 rfl rfl (by omega) (by omega) ?_
  rw [hK.M.2.1 _ hl]
  refine V_al i_X11_eat_35 rfl ?_
  refine V_getR i_X11_eat_36 rfl rfl ?_
  refine V_il i_X11_eat_39 rfl ?_
  refine K_iald (ln e) i_X11_eat_40 rfl rfl (by omega) (by omega) ?_
  rw [hK.M.2.2 _ hl]
  refine V_al i_X11_eat_41 rfl ?_
  refine V_getJ i_X11_eat_42 rfl ?_
  refine V_al i_X11_eat_45 rfl ?_
  refine V_getJ i_X11_eat_46 rfl ?_
  refine V_al i_X11_eat_49 rfl ?_
  refine V_getI i_X11_eat_50 rfl ?_
  rw [hK.lw]
  refine V_al i_X11_eat_53 rfl ?_
  refine V_getI i_X11_eat_54 rfl ?_
  rw [v2]
  refine P_callS2v i_X11_eat_57 ms_X11_parts (by decide) (Nat.le_of_ble_eq_true rfl) (c_M_parts _ _ hK.l3 (by omega)) ?_
  refine P_callV6u i_X11_eat_60 mi_X11_takes rfl ⟨_, _, rfl⟩ (by decide) (Nat.le_of_ble_eq_true rfl) (c_M_takes _ _ hh hkd (by omega) hnd (dv_cases lw e) t2 v3) ?_
  obtain ⟨Ja, ja⟩ : ∃ Ja, Ja = loJ J (((tk (kd (ln e)) (nd (ln e) * un how) gr (dv lw e)) : Nat) : Int) (un how) := ⟨_, rfl⟩
  rw [← ja]
  have fa : Fr (Ja 146 23) (Ja 146 24) (((tk (kd (ln e)) (nd (ln e) * un how) gr (dv lw e)) : Nat) : Int) (un how) := by rw [ja]; exact loJ_get _ _ _
  refine V_al i_X11_eat_63 rfl ?_
  refine V_getR i_X11_eat_64 rfl rfl ?_
  refine V_il i_X11_eat_67 rfl ?_
  refine V_al i_X11_eat_68 rfl ?_
  refine V_getJ i_X11_eat_69 rfl ?_
  refine K_last (ln e) i_X11_eat_72 rfl rfl (by omega) (by omega) ?_
  obtain ⟨Jb, jb⟩ : ∃ Jb, Jb = uJ Ja 161 (ln e) (Ja 146 23) := ⟨_, rfl⟩
  rw [← jb]
  have gb : ∀ x k, ¬ (x = 161 ∧ k = ln e) → Jb x k = Ja x k := fun x k a => by rw [jb, uJ_ne _ _ (fun z => a (by cases z; exact ⟨rfl, rfl⟩))]
  refine V_al i_X11_eat_73 rfl ?_
  refine V_getR i_X11_eat_74 rfl rfl ?_
  refine V_il i_X11_eat_77 rfl ?_
  refine V_al i_X11_eat_78 rfl ?_
  refine V_getJ i_X11_eat_79 rfl ?_
  rw [gb 146 24 (by omega)]
  refine K_last (ln e) i_X11_eat_82 rfl rfl (by omega) (by omega) ?_
  obtain ⟨Jc, jc⟩ : ∃ Jc, Jc = uJ Jb 162 (ln e) (Ja 146 24) := ⟨_, rfl⟩
  rw [← jc]
  have gc : ∀ x k, ¬ (x = 161 ∧ k = ln e) → ¬ (x = 162 ∧ k = ln e) → Jc x k = Ja x k := fun x k a b => by rw [jc, uJ_ne _ _ (fun z => b (by cases z; exact ⟨rfl, rfl⟩)), gb x k a]
  have fc : Fr (Jc 161 (ln e)) (Jc 162 (ln e)) (((tk (kd (ln e)) (nd (ln e) * un how) gr (dv lw e)) : Nat) : Int) (un how) := by rw [show Jc 161 (ln e) = Ja 146 23 from by rw [jc, uJ_ne _ _ (by simp), jb, uJ_eq], show Jc 162 (ln e) = Ja 146 24 from by rw [jc, uJ_eq]]; exact fa
  have gaJ : ∀ x k, ¬ (x = 146 ∧ (k = 23 ∨ k = 24)) → Ja x k = J x k := fun x k a => by rw [ja]; unfold loJ uJ; rw [if_neg (by omega), if_neg (by omega)]
  have fp : Fr (Jc 146 35) (Jc 146 36) ((gr : Nat) : Int) (un how) := by rw [gc _ _ (by omega) (by omega), gc _ _ (by omega) (by omega), gaJ _ _ (by omega), gaJ _ _ (by omega)]; exact v3
  have fq : Fr (Jc 146 23) (Jc 146 24) (((tk (kd (ln e)) (nd (ln e) * un how) gr (dv lw e)) : Nat) : Int) (un how) := by rw [gc _ _ (by omega) (by omega), gc _ _ (by omega) (by omega)]; exact fa
  refine V_al i_X11_eat_83 rfl ?_
  refine V_al i_X11_eat_84 rfl ?_
  refine V_getJ i_X11_eat_85 rfl ?_
  refine V_al i_X11_eat_88 rfl ?_
  refine V_getJ i_X11_eat_89 rfl ?_
  refine V_al i_X11_eat_92 rfl ?_
  refine V_getJ i_X11_eat_93 rfl ?_
  refine V_lneg i_X11_eat_96 ?_
  refine V_al i_X11_eat_97 rfl ?_
  refine V_getJ i_X11_eat_98 rfl ?_
  refine P_callV4u i_X11_eat_101 mi_X11_sum rfl ⟨_, _, rfl⟩ (by decide) (Nat.le_of_ble_eq_true rfl) (c_M_sum _ Jc (un_pos how) (un_33 how) (gr_60 hgr) (by rw [Int.natAbs_neg]; exact gr_60 (Nat.le_trans t1 hgr)) fp fq.neg) ?_
  obtain ⟨Jd, jd⟩ : ∃ Jd, Jd = loJ Jc (((gr : Nat) : Int) + -(((tk (kd (ln e)) (nd (ln e) * un how) gr (dv lw e)) : Nat) : Int)) (un how) := ⟨_, rfl⟩
  rw [← jd]
  have fd : Fr (Jd 146 23) (Jd 146 24) ((gr - (tk (kd (ln e)) (nd (ln e) * un how) gr (dv lw e)) : Nat) : Int) (un how) := by rw [jd, show ((gr - (tk (kd (ln e)) (nd (ln e) * un how) gr (dv lw e)) : Nat) : Int) = ((gr : Nat) : Int) + -(((tk (kd (ln e)) (nd (ln e) * un how) gr (dv lw e)) : Nat) : Int) from by omega]; exact loJ_get _ _ _
  have gd : ∀ x k, ¬ (x = 146 ∧ (k = 23 ∨ k = 24)) → Jd x k = Jc x k := fun x k a => by rw [jd]; unfold loJ uJ; rw [if_neg (by omega), if_neg (by omega)]
  refine V_al i_X11_eat_104 rfl ?_
  refine V_al i_X11_eat_105 rfl ?_
  refine V_getJ i_X11_eat_106 rfl ?_
  refine V_putJ i_X11_eat_109 rfl ?_
  obtain ⟨Je, je⟩ : ∃ Je, Je = uJ Jd 146 35 (Jd 146 23) := ⟨_, rfl⟩
  rw [← je]
  have ge : ∀ x k, ¬ (x = 146 ∧ k = 35) → Je x k = Jd x k := fun x k a => by rw [je, uJ_ne _ _ (fun z => a (by cases z; exact ⟨rfl, rfl⟩))]
  refine V_al i_X11_eat_112 rfl ?_
  refine V_al i_X11_eat_113 rfl ?_
  refine V_getJ i_X11_eat_114 rfl ?_
  rw [ge 146 24 (by omega)]
  refine V_putJ i_X11_eat_117 rfl ?_
  obtain ⟨Jf, jf⟩ : ∃ Jf, Jf = uJ Je 146 36 (Jd 146 24) := ⟨_, rfl⟩
  rw [← jf]
  have gf : ∀ x k, ¬ (x = 146 ∧ (k = 35 ∨ k = 36)) → Jf x k = Jd x k := fun x k a => by rw [jf, uJ_ne _ _ (fun z => a (by cases z; exact ⟨rfl, Or.inr rfl⟩)), ge x k (by omega)]
  have ff : Fr (Jf 146 35) (Jf 146 36) ((gr - (tk (kd (ln e)) (nd (ln e) * un how) gr (dv lw e)) : Nat) : Int) (un how) := by rw [show Jf 146 35 = Jd 146 23 from by rw [jf, uJ_ne _ _ (by simp), je, uJ_eq], show Jf 146 36 = Jd 146 24 from by rw [jf, uJ_eq]]; exact fd
  have fg : Fr (Jf 161 (ln e)) (Jf 162 (ln e)) (((tk (kd (ln e)) (nd (ln e) * un how) gr (dv lw e)) : Nat) : Int) (un how) := by rw [gf _ _ (by omega), gf _ _ (by omega), gd _ _ (by omega), gd _ _ (by omega)]; exact fc
  refine V_al i_X11_eat_120 rfl ?_
  refine V_dup i_X11_eat_121 rfl ?_
  refine V_getI i_X11_eat_122 rfl ?_
  rw [v2]
  refine V_c i_X11_eat_125 ?_
  refine V_iadd i_X11_eat_126 ?_
  rw [show nI e + 1 = nI (e + 1) from nI_1 e]
  refine V_putI i_X11_eat_127 rfl ?_
  refine V_al i_X11_eat_130 rfl ?_
  refine V_il i_X11_eat_131 rfl ?_
  refine V_al i_X11_eat_132 rfl ?_
  refine V_getR i_X11_eat_133 rfl rfl ?_
  refine V_il i_X11_eat_136 rfl ?_
  refine K_lald (ln e) i_X11_eat_137 rfl rfl (by omega) (by omega) ?_
  refine V_al i_X11_eat_138 rfl ?_
  refine V_getR i_X11_eat_139 rfl rfl ?_
  refine V_il i_X11_eat_142 rfl ?_
  refine K_lald (ln e) i_X11_eat_143 rfl rfl (by omega) (by omega) ?_
  refine P_callV3v i_X11_eat_144 mi_X11_tells rfl ⟨_, _, rfl⟩ (by decide) (Nat.le_of_ble_eq_true rfl) (m_tells _ Jf (un_pos how) (un_62 how) (gr_62 (Nat.le_trans t1 hgr)) fg) ?_
  exact P_iret i_X11_eat_147 rfl ⟨rfl, rfl, by
    have G : ∀ x k, ¬ (x = 146 ∧ (k = 3 ∨ k = 4 ∨ k = 23 ∨ k = 24)) → tlJ 146 3 4 (some ((((tk (kd (ln e)) (nd (ln e) * un how) gr (dv lw e)) : Nat) : Int), un how)) (loJ Jf (((tk (kd (ln e)) (nd (ln e) * un how) gr (dv lw e)) : Nat) : Int) (un how)) x k = Jf x k := fun x k a => by
      rw [tlJ_ne (by omega) (by omega)]
      unfold loJ uJ
      rw [if_neg (by omega), if_neg (by omega)]
    refine ⟨?_, ?_, ?_, ?_, fun x k a b => ?_⟩
    · show uJ (uJ _ 146 3 _) 146 4 _ 146 3 = _
      rw [uJ_ne _ _ (by simp), uJ_eq]
    · show uJ (uJ _ 146 3 _) 146 4 _ 146 4 = _
      rw [uJ_eq]
    · rw [G _ _ (by omega), G _ _ (by omega)]; exact ff
    · rw [G _ _ (by omega), G _ _ (by omega)]; exact fg
    · rw [G _ _ (by omega), gf _ _ (by omega), gd _ _ (by omega), gc _ _ (by omega) (by omega), gaJ _ _ (by omega)]⟩
theorem p_eat {I : IntM} {J : LngM} (h : Inv I J) : Pair 5 m_X10_eat [.ref 0] 6 m_X11_eat [.ref 146] I J := by
  obtain ⟨n, kd, nd, od, lw, pot, hP, hK, hM⟩ := h.K
  obtain ⟨how, e, ln, gr, te, hE, hC, hV⟩ := hP.2.1
  rcases Nat.lt_or_ge e n with he | he
  · refine ⟨.int (nI (ln e)), (show ∃ z : Int32, _ = Value.int z from ⟨_, rfl⟩), CtP_mono (c_eat1 I J hK hP.2.2.2.2.2.2.2.2 hE hC he) (fun r I1 J1 q => ?_)⟩
    obtain ⟨rfl, q1, q2⟩ := q
    have a1 : ∀ x k, ¬ (x = 15 ∧ (k = 4 ∨ k = 6)) → I1 x k = I x k := fun x k a => by
      rw [q1, uI_ne _ _ (by intro z; injection z with z1 z2; omega), uI_ne _ _ (by intro z; injection z with z1 z2; omega)]
    have a2 : ∀ x k, ¬ (x = 0 ∧ (k = 14 ∨ k = 15)) → ¬ (x = 15 ∧ k = 5) → ¬ (x = 19 ∧ k = ln e) → J1 x k = J x k := fun x k a b c => by
      rw [q2, tlJ_ne (by omega) (by omega), uJ_ne _ _ (by intro z; injection z with z1 z2; omega), uJ_ne _ _ (by intro z; injection z with z1 z2; omega)]
    have a3 : J1 0 14 = lZ (roN (((tk (kd (ln e)) (nd (ln e) * un how) gr (dv lw e)) : Nat) : Int) (un how)) := by
      rw [q2]
      show uJ (uJ _ 0 14 _) 0 15 _ 0 14 = _
      rw [uJ_ne _ _ (by simp), uJ_eq]
    have a4 : J1 0 15 = lN (rdN (((tk (kd (ln e)) (nd (ln e) * un how) gr (dv lw e)) : Nat) : Int) (un how)) := by
      rw [q2]
      show uJ (uJ _ 0 14 _) 0 15 _ 0 15 = _
      rw [uJ_eq]
    have a5 : J1 15 5 = lN (gr - (tk (kd (ln e)) (nd (ln e) * un how) gr (dv lw e))) := by rw [q2, tlJ_ne (by omega) (by omega), uJ_eq]
    have a6 : J1 19 (ln e) = lN (tk (kd (ln e)) (nd (ln e) * un how) gr (dv lw e)) := by rw [q2, tlJ_ne (by omega) (by omega), uJ_ne _ _ (by simp), uJ_eq]
    have a7 : I1 15 4 = nI (e + 1) := by rw [q1, uI_ne _ _ (by simp), uI_eq]
    have a8 : I1 15 6 = nI (whoN ln (e + 1)) := by rw [q1, uI_eq]
    refine ⟨rfl, CtP_mono (m_eat1 I1 J1 (hM I1 (fun x k hx => a1 x k (by omega))) hE (EvM.to (fun x k hx => a1 x k (by omega)) (fun x k hx => a2 x k (by omega) (by omega) (by omega)) hV) he) (fun r I2 J2 w => ?_)⟩
    obtain ⟨rfl, w1, w2, w3, w4, w5, w6⟩ := w
    have b1 : ∀ x k, ¬ (x = 15 ∧ (k = 4 ∨ k = 6)) → ¬ (x = 146 ∧ k = 32) → I2 x k = I x k := fun x k a b => by
      rw [w1, uI_ne _ _ (fun z => b (by cases z; exact ⟨rfl, rfl⟩)), a1 x k a]
    have b2 : ∀ x k, x ≤ 145 → J2 x k = J1 x k := fun x k a => w6 x k (by omega) (by omega)
    have b3 : I2 15 4 = nI (e + 1) := by rw [w1, uI_ne _ _ (by simp), a7]
    have b4 : I2 15 6 = nI (whoN ln (e + 1)) := by rw [w1, uI_ne _ _ (by simp), a8]
    obtain ⟨hh, hen, hPm, hgr, h24, hte⟩ := id hE
    obtain ⟨c1, c2, c3, c4, c5, c6⟩ := id hC
    obtain ⟨v1, v2, v3, v4, v5⟩ := id hV
    obtain ⟨t1, t2, t3⟩ := ev_tk (kd := kd) (nd := nd) (lw := lw) hK.n7 hE he
    have inj : ∀ i, i < e → ln i ≠ ln e := fun i hi q => absurd (hPm.2 i e (by omega) he q) (by omega)
    refine ⟨rfl, Inv.ev hP hK.Z (fun x k z1 z2 z3 z4 => b1 x k (by omega) (by omega)) (fun x k z1 z2 z3 z4 z5 => by rw [w6 x k (by omega) (by omega)]; exact a2 x k (by omega) (by omega) (by omega)) ⟨how, e + 1, ln, gr - (tk (kd (ln e)) (nd (ln e) * un how) gr (dv lw e)), fun i => if i = e then (tk (kd (ln e)) (nd (ln e) * un how) gr (dv lw e)) else te i, ⟨hh, he, hPm, by omega, t3, fun i hi => ?_⟩, ⟨?_, b3, ?_, b4, fun k hk => ?_, fun i hi => ?_⟩, ⟨?_, ?_, w4, fun k hk => ?_, fun i hi => ?_⟩⟩ ⟨?_, ?_, ?_⟩⟩
    · show (if i = e then (tk (kd (ln e)) (nd (ln e) * un how) gr (dv lw e)) else te i) ≤ _
      split
      · omega
      · exact hte i (by omega)
    · rw [b1 _ _ (by omega) (by omega)]; exact c1
    · rw [b2 _ _ (by omega)]; exact a5
    · rw [b1 _ _ (by omega) (by omega)]; exact c5 k hk
    · show _ = lN (if i = e then (tk (kd (ln e)) (nd (ln e) * un how) gr (dv lw e)) else te i)
      by_cases hie : i = e
      · rw [if_pos hie, hie, b2 _ _ (by omega)]; exact a6
      · rw [if_neg hie, b2 _ _ (by omega), a2 _ _ (by omega) (by omega) (by have := inj i (by omega); omega)]
        exact c6 i (by omega)
    · rw [b1 _ _ (by omega) (by omega)]; exact v1
    · rw [w1, uI_eq]
    · rw [b1 _ _ (by omega) (by omega)]; exact v4 k hk
    · show Fr _ _ ((if i = e then (tk (kd (ln e)) (nd (ln e) * un how) gr (dv lw e)) else te i : Nat) : Int) _
      by_cases hie : i = e
      · rw [if_pos hie, hie]; exact w5
      · have h9 := inj i (by omega)
        rw [if_neg hie, w6 _ _ (by omega) (by omega), w6 _ _ (by omega) (by omega), a2 _ _ (by omega) (by omega) (by omega), a2 _ _ (by omega) (by omega) (by omega)]
        exact v5 i (by omega)
    · rw [b1 _ _ (by omega) (by omega), b1 _ _ (by omega) (by omega)]; exact h.2.1.1
    · rw [b2 _ _ (by omega), a3, w2]
    · rw [b2 _ _ (by omega), a4, w3]
  · have he2 : e = n := by have := hE.2.1; omega
    exact Pair.q h (fun _ => no_f) (c_eat0 I J hK hE hC he2) (fun I1 J1 e1 e2 => m_eat0 I1 J1 (hM I1 e1) hE (EvM.to e1 e2 hV) he2)

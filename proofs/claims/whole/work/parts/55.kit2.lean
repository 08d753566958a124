
/-! ===== kitchens: the reference ===== -/
theorem FrM.f157 {I I' : IntM} (J : LngM) (h : ∀ a b, a ≠ 157 → I' a b = I a b) : FrM I J I' J := ⟨fun x k q => h x k (by unfold pI at q; omega), fun _ _ _ => rfl⟩
theorem FrM.f174 {I I' : IntM} (J : LngM) (h : ∀ a b, a ≠ 174 → I' a b = I a b) : FrM I J I' J := ⟨fun x k q => h x k (by unfold pI at q; omega), fun _ _ _ => rfl⟩
theorem in_noG {y : Int32} {m : Nat} (hm : m < 2 ^ 31) (q : y < 1 ∨ nI m < y) : inL y.toInt64 1 (lN m) = 0 := by
  unfold inL
  rcases q with q | q
  · rw [if_pos (by rw [Int64.lt_iff_toInt_lt, Int32.toInt_toInt64]; exact Int32.lt_iff_toInt_lt.mp q)]
  · by_cases h : y.toInt64 < 1
    · rw [if_pos h]
    · rw [if_neg h, if_pos (by rw [← nI_long hm, Int64.lt_iff_toInt_lt, Int32.toInt_toInt64, Int32.toInt_toInt64]; exact Int32.lt_iff_toInt_lt.mp q)]
theorem big_le {y : Int32} (h : 2147483647 ≤ y) : nI 2147483646 < y := by
  rw [Int32.lt_iff_toInt_lt, nI_toInt (by decide)]
  have h1 := Int32.le_iff_toInt_le.mp h
  have e : (2147483647 : Int32).toInt = 2147483647 := rfl
  omega
theorem seed_of {y : Int32} (h1 : ¬ y < 1) (h2 : ¬ 2147483647 ≤ y) : ∃ s, 1 ≤ s ∧ s < 2147483647 ∧ y = nI s := by
  have a1 : ¬ y.toInt < 1 := fun q => h1 (Int32.lt_iff_toInt_lt.mpr q)
  have e : (2147483647 : Int32).toInt = 2147483647 := rfl
  have a2 : ¬ (2147483647 : Int) ≤ y.toInt := fun q => h2 (Int32.le_iff_toInt_le.mpr (by rw [e]; exact q))
  refine ⟨y.toInt.toNat, by omega, by omega, ?_⟩
  apply Int32.toInt_inj.mp
  rw [nI_toInt (by omega)]
  omega

theorem m_toldX (I : IntM) (J : LngM) {n : Nat} {kd nd od : Nat → Nat} {lw pot : Nat} (hK : MK I n kd nd od lw pot) : CtP 1 m_X11_seatsAsTold [.ref 146] I J (fun r I1 J1 => r = none ∧ (∀ a b, a ≠ 157 → I1 a b = I a b) ∧ AtI I1 157 n od ∧ J = J1) := by
  refine CtP_mono (c_M_told I J hK.n7 hK.sz) (fun r I1 J1 q => ?_)
  obtain ⟨rfl, rfl, rfl⟩ := q
  exact ⟨rfl, fun a b h => by unfold putI; rw [if_neg (fun z => h z.1)], putI_At hK.od, rfl⟩
set_option maxRecDepth 100000 in
set_option maxHeartbeats 4000000 in
theorem lp_M_draw (I : IntM) (J : LngM) {n N how r e : Nat} (hn : n ≤ 7) (Q : Option Value → IntM → LngM → Prop) : ∀ p, p < n → ∀ z f, z < 2147483647 → (∀ I1 : IntM, (∀ a k, a ≠ 157 → I1 a k = I a k) → AtI I1 157 n (drN p z f).2 → VP m_X11_kitchens 7 140 [(0, .ref 146), (1, .int (nI N)), (3, .int (nI how)), (4, .int (nI r)), (5, .long (lN (drN p z f).1)), (7, .int (nI e))] [] I1 J Q) → ∀ I1 : IntM, (∀ a k, a ≠ 157 → I1 a k = I a k) → AtI I1 157 n f → VP m_X11_kitchens 7 102 [(0, .ref 146), (1, .int (nI N)), (3, .int (nI how)), (4, .int (nI r)), (5, .long (lN z)), (7, .int (nI e)), (8, .int (nI p))] [] I1 J Q := by
  intro p
  induction p with
  | zero =>
    intro hp z f hz hq I1 fr hf
    refine V_il i_X11_kitchens_102 rfl ?_
    refine V_if_le_t i_X11_kitchens_104 (by decide) ?_
    exact V_L (L' := [(0, _), (1, _), (3, _), (4, _), (5, _), (7, _)]) ⟨rfl, rfl, rfl, rfl, rfl, rfl, trivial⟩ (hq I1 fr hf)
  | succ p ih =>
    intro hp z f hz hq I1 fr hf
    have hj := Nat.mod_lt (nzN z) (show 0 < p + 2 by omega)
    have hnz := nz_lt z
    refine V_il i_X11_kitchens_102 rfl ?_
    refine V_if_le_f i_X11_kitchens_104 (fun z => nI_ne0 (n := p + 1) (by omega) (by omega) (Int32.le_antisymm z (nI_pos' (by omega)))) ?_
    refine V_ll i_X11_kitchens_107 rfl ?_
    refine V_cl i_X11_kitchens_109 ?_
    refine V_lmul i_X11_kitchens_112 ?_
    refine V_cl i_X11_kitchens_113 ?_
    rw [show (48271 : Int64) = lN 48271 from rfl, lN_mul]
    refine V_lrem i_X11_kitchens_116 (by decide) ?_
    rw [show (2147483647 : Int64) = lN 2147483647 from rfl, pk_lRem (by omega) (by decide) (by decide), show z * 48271 % 2147483647 = nzN z from rfl]
    refine V_ls (L' := [(0, _), (1, _), (3, _), (4, _), (5, _), (7, _), (8, _)]) i_X11_kitchens_117 (by decide) ⟨rfl, rfl, rfl, rfl, rfl, rfl, rfl, trivial⟩ ?_
    refine V_al i_X11_kitchens_119 rfl ?_
    refine V_il i_X11_kitchens_120 rfl ?_
    refine V_ll i_X11_kitchens_122 rfl ?_
    refine V_il i_X11_kitchens_124 rfl ?_
    refine V_c i_X11_kitchens_126 ?_
    refine V_iadd i_X11_kitchens_127 ?_
    rw [nI_1, show p + 1 + 1 = p + 2 from rfl]
    refine V_i2l i_X11_kitchens_128 ?_
    rw [nI_long (by omega)]
    refine V_lrem i_X11_kitchens_129 (lN_ne (by omega) (by omega)) ?_
    rw [pk_lRem (by omega) (by omega) (by omega)]
    refine V_l2i i_X11_kitchens_130 ?_
    rw [lN_toI (by omega)]
    refine P_callV2u i_X11_kitchens_131 mi_X11_swapSeats rfl ⟨_, _, rfl⟩ (by decide) (Nat.le_of_ble_eq_true rfl) (c_M_swap _ _ (i := p + 1) (j := nzN z % (p + 2)) (by omega) (by omega)) ?_
    refine V_iinc (L' := [(0, _), (1, _), (3, _), (4, _), (5, _), (7, _), (8, _)]) (n' := (-1)) i_X11_kitchens_134 (by decide) rfl (by decide) ⟨rfl, rfl, rfl, rfl, rfl, rfl, rfl, trivial⟩ ?_
    refine V_goto i_X11_kitchens_137 ?_
    refine V_L (L' := [(0, _), (1, _), (3, _), (4, _), (5, _), (7, _), (8, _)]) ⟨rfl, rfl, rfl, rfl, rfl, rfl, rfl, trivial⟩ ?_
    rw [show nI (p + 1) + -1 = nI p from pk_m1 p]
    exact ih (by omega) (nzN z) _ (nz_lt z) hq _ (fun a k h => by rw [uI_nx h, uI_nx h]; exact fr a k h) (sw_row hf (by omega) (by omega))
set_option maxRecDepth 100000 in
set_option maxHeartbeats 4000000 in
theorem lp_M_add (I : IntM) (J : LngM) {n : Nat} {kd nd od : Nat → Nat} {lw pot : Nat} (hK : MK I n kd nd od lw pot) {N how r e w z : Nat} {c : Nat → Nat} (hw : w < 128) (hc : ∀ k, k < n → I 174 k = nI (c k)) (Q : Option Value → IntM → LngM → Prop) (hq : ∀ I1 : IntM, (∀ a k, a ≠ 174 → I1 a k = I a k) → (∀ k, k < n → I1 174 k = nI (c k + if w.testBit k = true then 1 else 0)) → VP m_X11_kitchens 7 195 [(0, .ref 146), (1, .int (nI N)), (3, .int (nI how)), (4, .int (nI r)), (5, .long (lN z)), (7, .int (nI e))] [] I1 J Q) : VP m_X11_kitchens 7 163 [(0, .ref 146), (1, .int (nI N)), (3, .int (nI how)), (4, .int (nI r)), (5, .long (lN z)), (7, .int (nI e)), (8, .int (nI w)), (9, .int 0)] [] I J Q := by
  have key : ∀ i, i ≤ n → ∀ I1 : IntM, (∀ a k, a ≠ 174 → I1 a k = I a k) → (∀ k, k < i → I1 174 k = nI (c k + if w.testBit k = true then 1 else 0)) → (∀ k, i ≤ k → k < n → I1 174 k = nI (c k)) → VP m_X11_kitchens 7 163 [(0, .ref 146), (1, .int (nI N)), (3, .int (nI how)), (4, .int (nI r)), (5, .long (lN z)), (7, .int (nI e)), (8, .int (nI w)), (9, .int (nI i))] [] I1 J Q := by
    refine down n ?_ (fun i hi ih => ?_)
    · intro I1 fr h1 h2
      refine V_il i_X11_kitchens_163 rfl ?_
      refine V_al i_X11_kitchens_165 rfl ?_
      refine V_getI i_X11_kitchens_166 rfl ?_
      refine V_ic_ge_t i_X11_kitchens_169 (by rw [fr _ _ (by decide), hK.sz]; exact Int32.le_refl _) ?_
      exact V_L (L' := [(0, _), (1, _), (3, _), (4, _), (5, _), (7, _)]) ⟨rfl, rfl, rfl, rfl, rfl, rfl, trivial⟩ (hq I1 fr h1)
    · intro I1 fr h1 h2
      refine V_il i_X11_kitchens_163 rfl ?_
      refine V_al i_X11_kitchens_165 rfl ?_
      refine V_getI i_X11_kitchens_166 rfl ?_
      refine V_ic_ge_f i_X11_kitchens_169 (by rw [fr _ _ (by decide), hK.sz]; exact nI_ge hi (by have := hK.n7; omega)) ?_
      refine V_al i_X11_kitchens_172 rfl ?_
      refine V_getR i_X11_kitchens_173 rfl rfl ?_
      refine V_il i_X11_kitchens_176 rfl ?_
      refine V_dup2 i_X11_kitchens_178 rfl rfl ?_
      refine K_iald i i_X11_kitchens_179 rfl rfl (by have := hK.n7; omega) (by omega) ?_
      refine V_il i_X11_kitchens_180 rfl ?_
      refine V_il i_X11_kitchens_182 rfl ?_
      refine V_ishr i_X11_kitchens_184 ?_
      refine V_c i_X11_kitchens_185 ?_
      refine V_iand i_X11_kitchens_186 ?_
      rw [shr_tab w hw i (by have := hK.n7; omega), show I1 174 i = nI (c i) from h2 i (Nat.le_refl i) hi]
      refine V_iadd i_X11_kitchens_187 ?_
      rw [nI_addb]
      refine K_iast i i_X11_kitchens_188 rfl rfl (by have := hK.n7; omega) (by omega) ?_
      refine V_iinc (L' := [(0, _), (1, _), (3, _), (4, _), (5, _), (7, _), (8, _), (9, _)]) (n' := 1) i_X11_kitchens_189 (by decide) rfl (by decide) ⟨rfl, rfl, rfl, rfl, rfl, rfl, rfl, rfl, trivial⟩ ?_
      refine V_goto i_X11_kitchens_192 ?_
      refine V_L (L' := [(0, _), (1, _), (3, _), (4, _), (5, _), (7, _), (8, _), (9, _)]) ⟨rfl, rfl, rfl, rfl, rfl, rfl, rfl, rfl, trivial⟩ ?_
      rw [show nI i + 1 = nI (i + 1) from nI_1 i]
      exact ih _ (fun a k h => by rw [uI_nx h]; exact fr a k h) (fun k hk => by
        by_cases hki : k = i
        · rw [hki, uI_eq]
        · rw [uI_nk hki]; exact h1 k (by omega)) (fun k hk hk2 => by rw [uI_nk (by omega)]; exact h2 k (by omega) hk2)
  exact key 0 (Nat.zero_le _) I (fun _ _ _ => rfl) (fun k hk => absurd hk (Nat.not_lt_zero k)) (fun k _ hk => hc k hk)
set_option maxRecDepth 100000 in
set_option maxHeartbeats 4000000 in
theorem lp_M_kit (I : IntM) (J : LngM) {n : Nat} {kd nd od : Nat → Nat} {lw pot : Nat} (hK : MK I n kd nd od lw pot) {N s how r : Nat} (hN : N ≤ 40) (h1 : 1 ≤ n) (hh : how ≤ 1) (hs : s < 2147483647) (Q : Option Value → IntM → LngM → Prop) (hq : ∀ I1 J1, FrM I J I1 J1 → (∀ k, k < n → I1 174 k = nI ((kiS kd nd lw how (pot * un how) od n s N).2 k)) → VP m_X11_kitchens 7 201 [(0, .ref 146), (4, .int (nI r))] [] I1 J1 Q) (h0 : ∀ k, k < n → I 174 k = 0) : VP m_X11_kitchens 7 84 [(0, .ref 146), (1, .int (nI N)), (3, .int (nI how)), (4, .int (nI r)), (5, .long (lN s)), (7, .int 0)] [] I J Q := by
  have key : ∀ i, i ≤ N → ∀ I1 J1, FrM I J I1 J1 → (∀ k, k < n → I1 174 k = nI ((kiS kd nd lw how (pot * un how) od n s i).2 k)) → VP m_X11_kitchens 7 84 [(0, .ref 146), (1, .int (nI N)), (3, .int (nI how)), (4, .int (nI r)), (5, .long (lN (kiS kd nd lw how (pot * un how) od n s i).1)), (7, .int (nI i))] [] I1 J1 Q := by
    refine down N ?_ (fun i hi ih => ?_)
    · intro I1 J1 f1 h2
      refine V_il i_X11_kitchens_84 rfl ?_
      refine V_il i_X11_kitchens_86 rfl ?_
      refine V_ic_ge_t i_X11_kitchens_87 (Int32.le_refl _) ?_
      exact V_L (L' := [(0, _), (4, _)]) ⟨rfl, rfl, trivial⟩ (hq I1 J1 f1 h2)
    · intro I1 J1 f1 h2
      have k1 := FrM.K f1 hK
      have hzl := kiS_lt (kd := kd) (nd := nd) (lw := lw) (how := how) (P := pot * un how) h1 hs hK.P i
      have hPz := (drN_ok (n - 1) (kiS kd nd lw how (pot * un how) od n s i).1 od (by omega) hzl hK.P).2
      refine V_il i_X11_kitchens_84 rfl ?_
      refine V_il i_X11_kitchens_86 rfl ?_
      refine V_ic_ge_f i_X11_kitchens_87 (nI_ge hi (by omega)) ?_
      refine V_al i_X11_kitchens_90 rfl ?_
      refine P_callV0 i_X11_kitchens_91 mi_X11_seatsAsTold rfl ⟨_, _, rfl⟩ (by decide) (Nat.le_of_ble_eq_true rfl) (m_toldX I1 J1 k1) (fun r9 I2 Jx q => ?_)
      obtain ⟨rfl, x2, a2, rfl⟩ := q
      have f2 := FrM.tr f1 (FrM.f157 J1 x2)
      have k2 := FrM.K f2 hK
      refine V_al i_X11_kitchens_94 rfl ?_
      refine V_getI i_X11_kitchens_95 rfl ?_
      rw [k2.sz]
      refine V_c i_X11_kitchens_98 ?_
      refine V_isub i_X11_kitchens_99 ?_
      rw [nI_sub1 h1]
      refine V_is (L' := [(0, _), (1, _), (3, _), (4, _), (5, _), (7, _), (8, _)]) i_X11_kitchens_100 (by decide) ⟨rfl, rfl, rfl, rfl, rfl, rfl, rfl, trivial⟩ ?_
      refine V_L (L' := [(0, _), (1, _), (3, _), (4, _), (5, _), (7, _), (8, _)]) ⟨rfl, rfl, rfl, rfl, rfl, rfl, rfl, trivial⟩ ?_
      refine lp_M_draw I2 J1 hK.n7 Q (n - 1) (by omega) (kiS kd nd lw how (pot * un how) od n s i).1 od hzl (fun I3 x3 a3 => ?_) I2 (fun _ _ _ => rfl) a2
      have f3 := FrM.tr f2 (FrM.f157 J1 x3)
      have k3 := FrM.K f3 hK
      refine V_al i_X11_kitchens_140 rfl ?_
      refine V_il i_X11_kitchens_141 rfl ?_
      refine V_al i_X11_kitchens_142 rfl ?_
      refine V_getI i_X11_kitchens_143 rfl ?_
      rw [k3.pt]
      refine V_al i_X11_kitchens_146 rfl ?_
      refine V_getI i_X11_kitchens_147 rfl ?_
      rw [k3.lw]
      refine V_c i_X11_kitchens_150 ?_
      refine P_callV4 i_X11_kitchens_151 mi_X11_goes rfl ⟨_, _, rfl⟩ (by decide) (Nat.le_of_ble_eq_true rfl) (m_goes0 I3 J1 k3 hh k3.l3 k3.p9 a3 hPz) (fun r9 Ix J4 q => ?_)
      obtain ⟨rfl, rfl, j4, g4⟩ := q
      have f4 := FrM.tr f3 (FrJ.M I3 j4)
      refine V_al i_X11_kitchens_154 rfl ?_
      refine P_callV0v i_X11_kitchens_155 mi_X11_fedSet rfl ⟨_, _, rfl⟩ (by decide) (Nat.le_of_ble_eq_true rfl) (m_fset I3 J4 k3 k3.p9 g4) ?_
      refine V_is (L' := [(0, _), (1, _), (3, _), (4, _), (5, _), (7, _), (8, _)]) i_X11_kitchens_158 (by decide) ⟨rfl, rfl, rfl, rfl, rfl, rfl, rfl, trivial⟩ ?_
      refine V_c i_X11_kitchens_160 ?_
      refine V_is (L' := [(0, _), (1, _), (3, _), (4, _), (5, _), (7, _), (8, _), (9, _)]) i_X11_kitchens_161 (by decide) ⟨rfl, rfl, rfl, rfl, rfl, rfl, rfl, rfl, trivial⟩ ?_
      refine V_L (L' := [(0, _), (1, _), (3, _), (4, _), (5, _), (7, _), (8, _), (9, _)]) ⟨rfl, rfl, rfl, rfl, rfl, rfl, rfl, rfl, trivial⟩ ?_
      refine lp_M_add I3 J4 k3 (w := setN (fdE kd nd lw how (pot * un how) (drN (n - 1) (kiS kd nd lw how (pot * un how) od n s i).1 od).2 n) n) (c := (kiS kd nd lw how (pot * un how) od n s i).2) (setN_lt _ n hK.n7) (fun k hk => by rw [x3 _ _ (by decide), x2 _ _ (by decide)]; exact h2 k hk) Q (fun I5 x5 h5 => ?_)
      refine V_iinc (L' := [(0, _), (1, _), (3, _), (4, _), (5, _), (7, _)]) (n' := 1) i_X11_kitchens_195 (by decide) rfl (by decide) ⟨rfl, rfl, rfl, rfl, rfl, rfl, trivial⟩ ?_
      refine V_goto i_X11_kitchens_198 ?_
      refine V_L (L' := [(0, _), (1, _), (3, _), (4, _), (5, _), (7, _)]) ⟨rfl, rfl, rfl, rfl, rfl, rfl, trivial⟩ ?_
      rw [show nI i + 1 = nI (i + 1) from nI_1 i]
      exact ih I5 J4 (FrM.tr f4 (FrM.f174 J4 x5)) (fun k hk => h5 k hk)
  exact key 0 (Nat.zero_le _) I J FrM.rf (fun k hk => h0 k hk)
set_option maxRecDepth 100000 in
set_option maxHeartbeats 4000000 in
theorem lp_M_krow (I : IntM) (J : LngM) {n r : Nat} {F : Nat → Int32} (hn : n ≤ 7) (hr : r < 6) (hsz : I 146 19 = nI n) (hF : ∀ k, k < n → I 174 k = F k) (Q : Option Value → IntM → LngM → Prop) (hq : ∀ I1 : IntM, (∀ x k, ¬ (x = 149 ∧ 60 * r ≤ k ∧ k < 60 * r + 60) → I1 x k = I x k) → (∀ k, k < n → I1 149 (60 * r + k) = F k) → Q (some (.int (nI (fgr F n)))) I1 J) : VP m_X11_kitchens 7 217 [(0, .ref 146), (4, .int (nI r)), (7, .int 0), (8, .int 0)] [] I J Q := by
  have key : ∀ i, i ≤ n → ∀ I1 : IntM, (∀ x k, ¬ (x = 149 ∧ 60 * r ≤ k ∧ k < 60 * r + 60) → I1 x k = I x k) → (∀ k, k < i → I1 149 (60 * r + k) = F k) → VP m_X11_kitchens 7 217 [(0, .ref 146), (4, .int (nI r)), (7, .int (nI (fgr F i))), (8, .int (nI i))] [] I1 J Q := by
    refine down n ?_ (fun i hi ih => ?_)
    · intro I1 fr h1
      refine V_il i_X11_kitchens_217 rfl ?_
      refine V_al i_X11_kitchens_219 rfl ?_
      refine V_getI i_X11_kitchens_220 rfl ?_
      refine V_ic_ge_t i_X11_kitchens_223 (by rw [fr _ _ (by omega), hsz]; exact Int32.le_refl _) ?_
      refine V_il i_X11_kitchens_278 rfl ?_
      exact P_iret i_X11_kitchens_280 rfl (hq I1 fr h1)
    · intro I1 fr h1
      have hfg : fgr F i < n := by
        cases i with
        | zero => exact Nat.lt_of_le_of_lt (Nat.le_refl 0) hi
        | succ j => have := fgr_le F j; omega
      refine V_il i_X11_kitchens_217 rfl ?_
      refine V_al i_X11_kitchens_219 rfl ?_
      refine V_getI i_X11_kitchens_220 rfl ?_
      refine V_ic_ge_f i_X11_kitchens_223 (by rw [fr _ _ (by omega), hsz]; exact nI_ge hi (by omega)) ?_
      refine V_al i_X11_kitchens_226 rfl ?_
      refine V_getR i_X11_kitchens_227 rfl rfl ?_
      refine V_c i_X11_kitchens_230 ?_
      refine V_il i_X11_kitchens_232 rfl ?_
      refine V_imul i_X11_kitchens_234 ?_
      refine V_il i_X11_kitchens_235 rfl ?_
      refine V_iadd i_X11_kitchens_237 ?_
      refine V_al i_X11_kitchens_238 rfl ?_
      refine V_getR i_X11_kitchens_239 rfl rfl ?_
      refine V_il i_X11_kitchens_242 rfl ?_
      refine K_iald i i_X11_kitchens_244 rfl rfl (by omega) (by omega) ?_
      rw [show I1 174 i = F i from by rw [fr _ _ (by omega)]; exact hF i hi, show (60 : Int32) = nI 60 from rfl, pk_mul, nI_add]
      refine K_iast (60 * r + i) i_X11_kitchens_245 rfl rfl (by omega) (by omega) ?_
      refine V_al i_X11_kitchens_246 rfl ?_
      refine V_getR i_X11_kitchens_247 rfl rfl ?_
      refine V_il i_X11_kitchens_250 rfl ?_
      refine K_iald i i_X11_kitchens_252 rfl rfl (by omega) (by omega) ?_
      rw [uI_nx (show (174 : Nat) ≠ 149 by decide), show I1 174 i = F i from by rw [fr _ _ (by omega)]; exact hF i hi]
      refine V_al i_X11_kitchens_253 rfl ?_
      refine V_getR i_X11_kitchens_254 rfl rfl ?_
      refine V_il i_X11_kitchens_257 rfl ?_
      refine K_iald (fgr F i) i_X11_kitchens_259 rfl rfl (by omega) (by omega) ?_
      rw [uI_nx (show (174 : Nat) ≠ 149 by decide), show I1 174 (fgr F i) = F (fgr F i) from by rw [fr _ _ (by omega)]; exact hF _ (by omega)]
      refine V_ic_le i_X11_kitchens_260 (fun c260 => ?_) (fun c260 => ?_)
      · have d1 : fgr F (i + 1) = fgr F i := if_neg (Int32.not_lt.mpr c260)
        refine V_il i_X11_kitchens_268 rfl ?_
        refine V_is (L' := [(0, _), (4, _), (7, _), (8, _)]) i_X11_kitchens_270 (by decide) ⟨rfl, rfl, rfl, rfl, trivial⟩ ?_
        refine V_iinc (L' := [(0, _), (4, _), (7, _), (8, _)]) (n' := 1) i_X11_kitchens_272 (by decide) rfl (by decide) ⟨rfl, rfl, rfl, rfl, trivial⟩ ?_
        refine V_goto i_X11_kitchens_275 ?_
        refine V_L (L' := [(0, _), (4, _), (7, _), (8, _)]) ⟨rfl, rfl, rfl, rfl, trivial⟩ ?_
        rw [show nI i + 1 = nI (i + 1) from nI_1 i]
        have ih2 := ih (uI I1 149 (60 * r + i) (F i)) (fun x k h => by rw [uI_ne _ _ (by intro z; cases z; omega)]; exact fr x k h) (fun k hk => by
          by_cases hki : k = i
          · rw [hki, uI_eq]
          · rw [uI_nk (by omega)]; exact h1 k (by omega))
        rw [d1] at ih2
        exact ih2
      · have d1 : fgr F (i + 1) = i := if_pos (Int32.not_le.mp c260)
        refine V_il i_X11_kitchens_263 rfl ?_
        refine V_goto i_X11_kitchens_265 ?_
        refine V_is (L' := [(0, _), (4, _), (7, _), (8, _)]) i_X11_kitchens_270 (by decide) ⟨rfl, rfl, rfl, rfl, trivial⟩ ?_
        refine V_iinc (L' := [(0, _), (4, _), (7, _), (8, _)]) (n' := 1) i_X11_kitchens_272 (by decide) rfl (by decide) ⟨rfl, rfl, rfl, rfl, trivial⟩ ?_
        refine V_goto i_X11_kitchens_275 ?_
        refine V_L (L' := [(0, _), (4, _), (7, _), (8, _)]) ⟨rfl, rfl, rfl, rfl, trivial⟩ ?_
        rw [show nI i + 1 = nI (i + 1) from nI_1 i]
        have ih2 := ih (uI I1 149 (60 * r + i) (F i)) (fun x k h => by rw [uI_ne _ _ (by intro z; cases z; omega)]; exact fr x k h) (fun k hk => by
          by_cases hki : k = i
          · rw [hki, uI_eq]
          · rw [uI_nk (by omega)]; exact h1 k (by omega))
        rw [d1] at ih2
        exact ih2
  exact key 0 (Nat.zero_le _) I (fun _ _ _ => rfl) (fun k hk => absurd hk (Nat.not_lt_zero k))
set_option maxRecDepth 100000 in
set_option maxHeartbeats 4000000 in
theorem lp_M_kz (I : IntM) (J : LngM) {n N s how r : Nat} (hn : n ≤ 7) (hsz : I 146 19 = nI n) (Q : Option Value → IntM → LngM → Prop) (hq : ∀ I1 : IntM, (∀ a k, a ≠ 174 → I1 a k = I a k) → (∀ k, k < n → I1 174 k = 0) → VP m_X11_kitchens 7 77 [(0, .ref 146), (1, .int (nI N)), (2, .int (nI s)), (3, .int (nI how)), (4, .int (nI r))] [] I1 J Q) : VP m_X11_kitchens 7 54 [(0, .ref 146), (1, .int (nI N)), (2, .int (nI s)), (3, .int (nI how)), (4, .int (nI r)), (5, .int 0)] [] I J Q := by
  have key : ∀ i, i ≤ n → ∀ I1 : IntM, (∀ a k, a ≠ 174 → I1 a k = I a k) → (∀ k, k < i → I1 174 k = 0) → VP m_X11_kitchens 7 54 [(0, .ref 146), (1, .int (nI N)), (2, .int (nI s)), (3, .int (nI how)), (4, .int (nI r)), (5, .int (nI i))] [] I1 J Q := by
    refine down n ?_ (fun i hi ih => ?_)
    · intro I1 fr h1
      refine V_il i_X11_kitchens_54 rfl ?_
      refine V_al i_X11_kitchens_56 rfl ?_
      refine V_getI i_X11_kitchens_57 rfl ?_
      refine V_ic_ge_t i_X11_kitchens_60 (by rw [fr _ _ (by decide), hsz]; exact Int32.le_refl _) ?_
      exact V_L (L' := [(0, _), (1, _), (2, _), (3, _), (4, _)]) ⟨rfl, rfl, rfl, rfl, rfl, trivial⟩ (hq I1 fr h1)
    · intro I1 fr h1
      refine V_il i_X11_kitchens_54 rfl ?_
      refine V_al i_X11_kitchens_56 rfl ?_
      refine V_getI i_X11_kitchens_57 rfl ?_
      refine V_ic_ge_f i_X11_kitchens_60 (by rw [fr _ _ (by decide), hsz]; exact nI_ge hi (by omega)) ?_
      refine V_al i_X11_kitchens_63 rfl ?_
      refine V_getR i_X11_kitchens_64 rfl rfl ?_
      refine V_il i_X11_kitchens_67 rfl ?_
      refine V_c i_X11_kitchens_69 ?_
      refine K_iast i i_X11_kitchens_70 rfl rfl (by omega) (by omega) ?_
      refine V_iinc (L' := [(0, _), (1, _), (2, _), (3, _), (4, _), (5, _)]) (n' := 1) i_X11_kitchens_71 (by decide) rfl (by decide) ⟨rfl, rfl, rfl, rfl, rfl, rfl, trivial⟩ ?_
      refine V_goto i_X11_kitchens_74 ?_
      refine V_L (L' := [(0, _), (1, _), (2, _), (3, _), (4, _), (5, _)]) ⟨rfl, rfl, rfl, rfl, rfl, rfl, trivial⟩ ?_
      rw [show nI i + 1 = nI (i + 1) from nI_1 i]
      exact ih _ (fun a k h => by rw [uI_nx h]; exact fr a k h) (fun k hk => by
        by_cases hki : k = i
        · rw [hki, uI_eq]
        · rw [uI_nk hki]; exact h1 k (by omega))
  exact key 0 (Nat.zero_le _) I (fun _ _ _ => rfl) (fun k hk => absurd hk (Nat.not_lt_zero k))
set_option maxRecDepth 100000 in
set_option maxHeartbeats 4000000 in
theorem m_kit0 (I : IntM) (J : LngM) {n : Nat} {kd nd od : Nat → Nat} {lw pot : Nat} (hK : MK I n kd nd od lw pot) {x y z w : Int32} (h : x < 1 ∨ 40 < x ∨ y < 1 ∨ 2147483647 ≤ y ∨ howv z = 0 ∨ hasC 6 w = 0) : CtP 7 m_X11_kitchens [.ref 146, .int x, .int y, .int z, .int w] I J (QM I J (.int (-1)) none none none) := by
  refine CtP_of (by decide) rfl (Nat.le_of_ble_eq_true rfl) ?_
  refine V_il i_X11_kitchens_0 rfl ?_
  refine V_i2l i_X11_kitchens_1 ?_
  refine V_cl i_X11_kitchens_2 ?_
  refine V_cl i_X11_kitchens_3 ?_
  refine P_callS3v i_X11_kitchens_6 ms_X11_in (by decide) (Nat.le_of_ble_eq_true rfl) (c_M_in _ _ _ _ _) ?_
  refine V_if_eq i_X11_kitchens_9 (fun c9 => ?_) (fun c9 => ?_)
  · refine V_c i_X11_kitchens_39 ?_
    exact P_iret i_X11_kitchens_40 rfl ⟨rfl, I, J, FrM.rf, rfl, rfl⟩
  · have c9 : ¬ (x < 1 ∨ nI 40 < x) := fun z => c9 (in_noG (by decide) z)
    refine V_il i_X11_kitchens_12 rfl ?_
    refine V_i2l i_X11_kitchens_13 ?_
    refine V_cl i_X11_kitchens_14 ?_
    refine V_cl i_X11_kitchens_15 ?_
    refine P_callS3v i_X11_kitchens_18 ms_X11_in (by decide) (Nat.le_of_ble_eq_true rfl) (c_M_in _ _ _ _ _) ?_
    refine V_if_eq i_X11_kitchens_21 (fun c21 => ?_) (fun c21 => ?_)
    · refine V_c i_X11_kitchens_39 ?_
      exact P_iret i_X11_kitchens_40 rfl ⟨rfl, I, J, FrM.rf, rfl, rfl⟩
    · have c21 : ¬ (y < 1 ∨ nI 2147483646 < y) := fun z => c21 (in_noG (by decide) z)
      refine V_il i_X11_kitchens_24 rfl ?_
      refine P_callS1v i_X11_kitchens_25 ms_X11_isHow (by decide) (Nat.le_of_ble_eq_true rfl) (c_M_isHow _ _ _) ?_
      refine V_if_eq i_X11_kitchens_28 (fun c28 => ?_) (fun c28 => ?_)
      · refine V_c i_X11_kitchens_39 ?_
        exact P_iret i_X11_kitchens_40 rfl ⟨rfl, I, J, FrM.rf, rfl, rfl⟩
      · refine V_il i_X11_kitchens_31 rfl ?_
        refine P_callS1v i_X11_kitchens_33 ms_X11_isRow (by decide) (Nat.le_of_ble_eq_true rfl) (c_M_isRow _ _ _) ?_
        refine V_if_ne_f i_X11_kitchens_36 (by rcases h with h | h | h | h | h | h; exact absurd (Or.inl h) c9; exact absurd (Or.inr h) c9; exact absurd (Or.inl h) c21; exact absurd (Or.inr (big_le h)) c21; exact absurd h c28; exact h) ?_
        refine V_c i_X11_kitchens_39 ?_
        exact P_iret i_X11_kitchens_40 rfl ⟨rfl, I, J, FrM.rf, rfl, rfl⟩
set_option maxRecDepth 100000 in
set_option maxHeartbeats 4000000 in
theorem m_kit2 (I : IntM) (J : LngM) {n : Nat} {kd nd od : Nat → Nat} {lw pot : Nat} (hK : MK I n kd nd od lw pot) {N s how r : Nat} (hr : r < 6) (hN1 : 1 ≤ N) (hN : N ≤ 40) (hs1 : 1 ≤ s) (hs : s < 2147483647) (hh : how ≤ 1) (h0 : n = 0) : CtP 7 m_X11_kitchens [.ref 146, .int (nI N), .int (nI s), .int (nI how), .int (nI r)] I J (QM I J (.int (-4)) none none none) := by
  refine CtP_of (by decide) rfl (Nat.le_of_ble_eq_true rfl) ?_
  refine V_il i_X11_kitchens_0 rfl ?_
  refine V_i2l i_X11_kitchens_1 ?_
  refine V_cl i_X11_kitchens_2 ?_
  refine V_cl i_X11_kitchens_3 ?_
  refine P_callS3v i_X11_kitchens_6 ms_X11_in (by decide) (Nat.le_of_ble_eq_true rfl) (c_M_in _ _ _ _ _) ?_
  refine V_if_eq_f i_X11_kitchens_9 (by rw [show inL (nI N).toInt64 1 40 = 1 from in_yes (lo := 1) (hi := 40) hN1 hN (by decide)]; decide) ?_
  refine V_il i_X11_kitchens_12 rfl ?_
  refine V_i2l i_X11_kitchens_13 ?_
  refine V_cl i_X11_kitchens_14 ?_
  refine V_cl i_X11_kitchens_15 ?_
  refine P_callS3v i_X11_kitchens_18 ms_X11_in (by decide) (Nat.le_of_ble_eq_true rfl) (c_M_in _ _ _ _ _) ?_
  refine V_if_eq_f i_X11_kitchens_21 (by rw [show inL (nI s).toInt64 1 2147483646 = 1 from in_yes (lo := 1) (hi := 2147483646) hs1 (by omega) (by decide)]; decide) ?_
  refine V_il i_X11_kitchens_24 rfl ?_
  refine P_callS1v i_X11_kitchens_25 ms_X11_isHow (by decide) (Nat.le_of_ble_eq_true rfl) (c_M_isHow _ _ _) ?_
  refine V_if_eq_f i_X11_kitchens_28 (by rw [howv_nI hh]; decide) ?_
  refine V_il i_X11_kitchens_31 rfl ?_
  refine P_callS1v i_X11_kitchens_33 ms_X11_isRow (by decide) (Nat.le_of_ble_eq_true rfl) (c_M_isRow _ _ _) ?_
  refine V_if_ne_t i_X11_kitchens_36 (by rw [hasN_nI (by decide) hr]; decide) ?_
  refine V_al i_X11_kitchens_41 rfl ?_
  refine V_getI i_X11_kitchens_42 rfl ?_
  refine V_if_ne_f i_X11_kitchens_45 (by rw [hK.sz, h0]; rfl) ?_
  refine V_c i_X11_kitchens_48 ?_
  exact P_iret i_X11_kitchens_50 rfl ⟨rfl, I, J, FrM.rf, rfl, rfl⟩
set_option maxRecDepth 100000 in
set_option maxHeartbeats 4000000 in
theorem m_kit3 (I : IntM) (J : LngM) {n : Nat} {kd nd od : Nat → Nat} {lw pot : Nat} (hK : MK I n kd nd od lw pot) {N s how r : Nat} (hr : r < 6) (hN1 : 1 ≤ N) (hN : N ≤ 40) (hs1 : 1 ≤ s) (hs : s < 2147483647) (hh : how ≤ 1) (h0 : 0 < n) : CtP 7 m_X11_kitchens [.ref 146, .int (nI N), .int (nI s), .int (nI how), .int (nI r)] I J (fun q I1 J1 => q = some (.int (nI (fgr (fun k => nI ((kiS kd nd lw how (pot * un how) od n s N).2 k)) n))) ∧ RowM I J r n (fun k => nI ((kiS kd nd lw how (pot * un how) od n s N).2 k)) I1 J1) := by
  refine CtP_of (by decide) rfl (Nat.le_of_ble_eq_true rfl) ?_
  refine V_il i_X11_kitchens_0 rfl ?_
  refine V_i2l i_X11_kitchens_1 ?_
  refine V_cl i_X11_kitchens_2 ?_
  refine V_cl i_X11_kitchens_3 ?_
  refine P_callS3v i_X11_kitchens_6 ms_X11_in (by decide) (Nat.le_of_ble_eq_true rfl) (c_M_in _ _ _ _ _) ?_
  refine V_if_eq_f i_X11_kitchens_9 (by rw [show inL (nI N).toInt64 1 40 = 1 from in_yes (lo := 1) (hi := 40) hN1 hN (by decide)]; decide) ?_
  refine V_il i_X11_kitchens_12 rfl ?_
  refine V_i2l i_X11_kitchens_13 ?_
  refine V_cl i_X11_kitchens_14 ?_
  refine V_cl i_X11_kitchens_15 ?_
  refine P_callS3v i_X11_kitchens_18 ms_X11_in (by decide) (Nat.le_of_ble_eq_true rfl) (c_M_in _ _ _ _ _) ?_
  refine V_if_eq_f i_X11_kitchens_21 (by rw [show inL (nI s).toInt64 1 2147483646 = 1 from in_yes (lo := 1) (hi := 2147483646) hs1 (by omega) (by decide)]; decide) ?_
  refine V_il i_X11_kitchens_24 rfl ?_
  refine P_callS1v i_X11_kitchens_25 ms_X11_isHow (by decide) (Nat.le_of_ble_eq_true rfl) (c_M_isHow _ _ _) ?_
  refine V_if_eq_f i_X11_kitchens_28 (by rw [howv_nI hh]; decide) ?_
  refine V_il i_X11_kitchens_31 rfl ?_
  refine P_callS1v i_X11_kitchens_33 ms_X11_isRow (by decide) (Nat.le_of_ble_eq_true rfl) (c_M_isRow _ _ _) ?_
  refine V_if_ne_t i_X11_kitchens_36 (by rw [hasN_nI (by decide) hr]; decide) ?_
  refine V_al i_X11_kitchens_41 rfl ?_
  refine V_getI i_X11_kitchens_42 rfl ?_
  refine V_if_ne_t i_X11_kitchens_45 (by rw [hK.sz]; exact nI_ne0 h0 (by have := hK.n7; omega)) ?_
  refine V_c i_X11_kitchens_51 ?_
  refine V_is (L' := [(0, _), (1, _), (2, _), (3, _), (4, _), (5, _)]) i_X11_kitchens_52 (by decide) ⟨rfl, rfl, rfl, rfl, rfl, rfl, trivial⟩ ?_
  refine V_L (L' := [(0, _), (1, _), (2, _), (3, _), (4, _), (5, _)]) ⟨rfl, rfl, rfl, rfl, rfl, rfl, trivial⟩ ?_
  refine lp_M_kz I J hK.n7 hK.sz _ (fun I1 x1 z1 => ?_)
  have f1 := FrM.f174 J x1
  have k1 := FrM.K f1 hK
  refine V_il i_X11_kitchens_77 rfl ?_
  refine V_i2l i_X11_kitchens_78 ?_
  rw [nI_long (by omega)]
  refine V_ls (L' := [(0, _), (1, _), (3, _), (4, _), (5, _)]) i_X11_kitchens_79 (by decide) ⟨rfl, rfl, rfl, rfl, rfl, trivial⟩ ?_
  refine V_c i_X11_kitchens_81 ?_
  refine V_is (L' := [(0, _), (1, _), (3, _), (4, _), (5, _), (7, _)]) i_X11_kitchens_82 (by decide) ⟨rfl, rfl, rfl, rfl, rfl, rfl, trivial⟩ ?_
  refine V_L (L' := [(0, _), (1, _), (3, _), (4, _), (5, _), (7, _)]) ⟨rfl, rfl, rfl, rfl, rfl, rfl, trivial⟩ ?_
  refine lp_M_kit I1 J k1 hN h0 hh hs _ (fun I2 J2 f2 h2 => ?_) z1
  have f3 := FrM.tr f1 f2
  have k2 := FrM.K f2 k1
  refine V_al i_X11_kitchens_201 rfl ?_
  refine V_il i_X11_kitchens_202 rfl ?_
  refine V_al i_X11_kitchens_204 rfl ?_
  refine V_getI i_X11_kitchens_205 rfl ?_
  rw [k2.sz]
  refine P_callV2u i_X11_kitchens_208 mi_X11_makeRow rfl ⟨_, _, rfl⟩ (by decide) (Nat.le_of_ble_eq_true rfl) (c_M_makeRow _ _ hr) ?_
  refine V_c i_X11_kitchens_211 ?_
  refine V_is (L' := [(0, _), (4, _), (7, _)]) i_X11_kitchens_212 (by decide) ⟨rfl, rfl, rfl, trivial⟩ ?_
  refine V_c i_X11_kitchens_214 ?_
  refine V_is (L' := [(0, _), (4, _), (7, _), (8, _)]) i_X11_kitchens_215 (by decide) ⟨rfl, rfl, rfl, rfl, trivial⟩ ?_
  refine V_L (L' := [(0, _), (4, _), (7, _), (8, _)]) ⟨rfl, rfl, rfl, rfl, trivial⟩ ?_
  refine lp_M_krow _ J2 hK.n7 hr (F := fun k => nI ((kiS kd nd lw how (pot * un how) od n s N).2 k)) ?_ ?_ _ (fun I5 fr5 h5 => ⟨rfl, fun x k a b c => ?_, fun x k a => f3.2 x k a, ?_, h5⟩)
  · unfold fillR uI
    rw [if_neg (by omega), if_neg (by omega)]
    exact k2.sz
  · intro p hp
    unfold fillR uI
    rw [if_neg (by omega), if_neg (by omega)]
    exact h2 p hp
  · rw [fr5 x k c]
    unfold fillR uI
    rw [if_neg (by omega), if_neg (by omega)]
    exact f3.1 x k a
  · rw [fr5 _ _ (by omega)]
    unfold fillR
    rw [if_neg (by omega), uI_eq]
theorem p_kitchens {I : IntM} {J : LngM} (h : Inv I J) (x y z w : Int32) : Pair 6 m_X10_kitchens [.ref 0, .int x, .int y, .int z, .int w] 7 m_X11_kitchens [.ref 146, .int x, .int y, .int z, .int w] I J := by
  obtain ⟨n, kd, nd, od, lw, pot, hP, hK, hM⟩ := h.K
  by_cases hw : hasC 6 w = 0
  · exact Pair.q h (fun _ => no_f) (c_kit0 I J hK hw) (fun I1 J1 e1 e2 => m_kit0 I1 J1 (hM I1 e1) (Or.inr (Or.inr (Or.inr (Or.inr (Or.inr hw))))))
  obtain ⟨r, hr, rfl⟩ := hasN_yes (by decide) hw
  by_cases hx1 : x < 1
  · exact Pair.q h (fun _ => no_f) (c_kit1 I J hK hr (Or.inl hx1)) (fun I1 J1 e1 e2 => m_kit0 I1 J1 (hM I1 e1) (Or.inl hx1))
  by_cases hx2 : 40 < x
  · exact Pair.q h (fun _ => no_f) (c_kit1 I J hK hr (Or.inr (Or.inl hx2))) (fun I1 J1 e1 e2 => m_kit0 I1 J1 (hM I1 e1) (Or.inr (Or.inl hx2)))
  obtain ⟨N, hN1, hN, rfl⟩ := days (m := 40) (by decide) hx1 hx2
  by_cases hy1 : y < 1
  · exact Pair.q h (fun _ => no_f) (c_kit1 I J hK hr (Or.inr (Or.inr (Or.inl hy1)))) (fun I1 J1 e1 e2 => m_kit0 I1 J1 (hM I1 e1) (Or.inr (Or.inr (Or.inl hy1))))
  by_cases hy2 : 2147483647 ≤ y
  · exact Pair.q h (fun _ => no_f) (c_kit1 I J hK hr (Or.inr (Or.inr (Or.inr (Or.inl hy2))))) (fun I1 J1 e1 e2 => m_kit0 I1 J1 (hM I1 e1) (Or.inr (Or.inr (Or.inr (Or.inl hy2)))))
  obtain ⟨s, hs1, hs, rfl⟩ := seed_of hy1 hy2
  by_cases hz : howv z = 0
  · exact Pair.q h (fun _ => no_f) (c_kit1 I J hK hr (Or.inr (Or.inr (Or.inr (Or.inr hz))))) (fun I1 J1 e1 e2 => m_kit0 I1 J1 (hM I1 e1) (Or.inr (Or.inr (Or.inr (Or.inr (Or.inl hz))))))
  obtain ⟨how, hh, rfl⟩ := howv_yes hz
  rcases Nat.eq_zero_or_pos n with h0 | h0
  · exact Pair.q h (fun _ => no_f) (c_kit2 I J hK hr hN1 hN hs1 hs hh h0) (fun I1 J1 e1 e2 => m_kit2 I1 J1 (hM I1 e1) hr hN1 hN hs1 hs hh h0)
  exact Pair.row h hr (by have := hK.n7; omega) (c_kit3 I J hK hr hN1 hN hs1 hs hh h0) (fun I1 J1 e1 e2 => m_kit3 I1 J1 (hM I1 e1) hr hN1 hN hs1 hs hh h0)


/-! ===== digest ===== -/
def dsF (h : Int64) (g u : Nat) : Int64 := 31 * (31 * h + lZ (roN (g : Int) u)) + lN (rdN (g : Int) u)
def deF (ln te : Nat → Nat) (u : Nat) (h : Int64) : Nat → Int64 := fun i => match i with
  | 0 => h
  | i + 1 => dsF (31 * deF ln te u h i + (nI (ln i)).toInt64) (te i) u

set_option maxRecDepth 100000 in
set_option maxHeartbeats 4000000 in
theorem c_digS (I : IntM) (J : LngM) {how g : Nat} (hh : how ≤ 1) (hg : g ≤ 999 * un how) (c1 : I 15 3 = nI how) (h : Int64) : CtV 3 m_X10_digestOfShare [.ref 0, .long h, .long (lN g)] I J (.long (dsF h g (un how))) I J := by
  refine CtV_of (by decide) rfl (Nat.le_of_ble_eq_true rfl) ?_
  have hu := un_pos how
  have hu2 := un_le how
  have hg0 : 0 < Nat.gcd (g : Int).natAbs (un how) := Nat.gcd_pos_of_pos_right _ hu
  have hgl : Nat.gcd (g : Int).natAbs (un how) ≤ un how := Nat.gcd_le_right _ hu
  refine V_al i_X10_digestOfShare_0 rfl ?_
  refine V_getR i_X10_digestOfShare_1 rfl rfl ?_
  refine V_getI i_X10_digestOfShare_4 rfl ?_
  rw [c1]
  refine P_callS1v i_X10_digestOfShare_7 ms_X8_unit (by decide) (Nat.le_of_ble_eq_true rfl) (c_unit _ _ hh) ?_
  refine V_ls (L' := [(1, _), (3, _), (5, _)]) i_X10_digestOfShare_10 (by decide) ⟨rfl, rfl, rfl, trivial⟩ ?_
  refine V_ll i_X10_digestOfShare_12 rfl ?_
  refine V_ll i_X10_digestOfShare_13 rfl ?_
  rw [lZ_N g]
  refine P_callS2v i_X10_digestOfShare_15 ms_X10_common (by decide) (Nat.le_of_ble_eq_true rfl) (c_common I J (gr_62 hg) (un_62 how) (un_pos how)) ?_
  refine V_ls (L' := [(1, _), (3, _), (5, _), (7, _)]) i_X10_digestOfShare_18 (by decide) ⟨rfl, rfl, rfl, rfl, trivial⟩ ?_
  refine V_cl i_X10_digestOfShare_20 ?_
  refine V_cl i_X10_digestOfShare_23 ?_
  refine V_ll i_X10_digestOfShare_26 rfl ?_
  refine V_lmul i_X10_digestOfShare_27 ?_
  refine V_ll i_X10_digestOfShare_28 rfl ?_
  refine V_ll i_X10_digestOfShare_29 rfl ?_
  refine V_ldiv i_X10_digestOfShare_31 (lN_ne (by omega) hg0) ?_
  rw [lZ_div (by omega) (by omega) hg0 (by omega) (Int.ofNat_dvd_left.mpr (Nat.gcd_dvd_left _ _))]
  refine V_ladd i_X10_digestOfShare_32 ?_
  refine V_lmul i_X10_digestOfShare_33 ?_
  refine V_ll i_X10_digestOfShare_34 rfl ?_
  refine V_ll i_X10_digestOfShare_36 rfl ?_
  refine V_ldiv i_X10_digestOfShare_38 (lN_ne (by omega) hg0) ?_
  rw [pk_lDiv (by omega) hg0 (by omega)]
  refine V_ladd i_X10_digestOfShare_39 ?_
  exact P_lret i_X10_digestOfShare_40 rfl ⟨rfl, rfl, rfl⟩
set_option maxRecDepth 100000 in
set_option maxHeartbeats 4000000 in
theorem lp_digE (I : IntM) (J : LngM) {n : Nat} (hn : n ≤ 7) (h16 : I 16 1 = nI 7) {e how gr : Nat} {ln te : Nat → Nat} (hE : EvOK n how e ln gr te) (hC : EvC I J 15 n how e ln gr te) (h : Int64) (Q : Option Value → IntM → LngM → Prop) (hq : Q (some (.long (deF ln te (un how) h e))) I J) : VP m_X10_digestOfEvening 4 16 [(0, .ref 0), (3, .long h), (5, .int 0)] [] I J Q := by
  obtain ⟨hh, hen, hPm, hgr, h24, hte⟩ := id hE
  obtain ⟨c1, c2, c3, c4, c5, c6⟩ := id hC
  have key : ∀ i, i ≤ e → VP m_X10_digestOfEvening 4 16 [(0, .ref 0), (3, .long (deF ln te (un how) h i)), (5, .int (nI i))] [] I J Q := by
    refine down e ?_ (fun i hi ih => ?_)
    · refine V_il i_X10_digestOfEvening_16 rfl ?_
      refine V_al i_X10_digestOfEvening_18 rfl ?_
      refine V_getR i_X10_digestOfEvening_19 rfl rfl ?_
      refine V_getI i_X10_digestOfEvening_22 rfl ?_
      refine V_ic_ge_t i_X10_digestOfEvening_25 (by rw [c2]; exact Int32.le_refl _) ?_
      refine V_ll i_X10_digestOfEvening_74 rfl ?_
      exact P_lret i_X10_digestOfEvening_75 rfl hq
    · have hl := hPm.1 i (by omega)
      refine V_il i_X10_digestOfEvening_16 rfl ?_
      refine V_al i_X10_digestOfEvening_18 rfl ?_
      refine V_getR i_X10_digestOfEvening_19 rfl rfl ?_
      refine V_getI i_X10_digestOfEvening_22 rfl ?_
      refine V_ic_ge_f i_X10_digestOfEvening_25 (by rw [c2]; exact nI_ge hi (by omega)) ?_
      refine V_al i_X10_digestOfEvening_28 rfl ?_
      refine V_getR i_X10_digestOfEvening_29 rfl rfl ?_
      refine V_getR i_X10_digestOfEvening_32 rfl rfl ?_
      refine V_il i_X10_digestOfEvening_35 rfl ?_
      refine P_callV1v i_X10_digestOfEvening_37 mi_X3_get rfl ⟨_, _, rfl⟩ (by decide) (Nat.le_of_ble_eq_true rfl) (c_I_getN (x := 16) (n := 7) (s := 7) (k := i) _ _ ⟨rfl, rfl, rfl, by decide⟩ h16 rfl (by omega) (by decide)) ?_
      rw [show I (16 + 1) i = nI (ln i) from c5 i (by omega)]
      refine V_is (L' := [(0, _), (3, _), (5, _), (6, _)]) i_X10_digestOfEvening_40 (by decide) ⟨rfl, rfl, rfl, rfl, trivial⟩ ?_
      refine V_al i_X10_digestOfEvening_42 rfl ?_
      refine V_cl i_X10_digestOfEvening_43 ?_
      refine V_ll i_X10_digestOfEvening_46 rfl ?_
      refine V_lmul i_X10_digestOfEvening_47 ?_
      refine V_il i_X10_digestOfEvening_48 rfl ?_
      refine V_i2l i_X10_digestOfEvening_50 ?_
      refine V_ladd i_X10_digestOfEvening_51 ?_
      refine V_al i_X10_digestOfEvening_52 rfl ?_
      refine V_getR i_X10_digestOfEvening_53 rfl rfl ?_
      refine V_getR i_X10_digestOfEvening_56 rfl rfl ?_
      refine V_il i_X10_digestOfEvening_59 rfl ?_
      refine P_callV1v i_X10_digestOfEvening_61 mi_X4_get rfl ⟨_, _, rfl⟩ (by decide) (Nat.le_of_ble_eq_true rfl) (c_L_get _ _ (x := 18) (n := 7) ⟨rfl, rfl, rfl, by decide⟩ (k := ln i) (by omega)) ?_
      rw [show J (18 + 1) (ln i) = lN (te i) from c6 i hi]
      refine P_callV2v i_X10_digestOfEvening_64 mi_X10_digestOfShare rfl ⟨_, _, rfl⟩ (by decide) (Nat.le_of_ble_eq_true rfl) (c_digS I J hh (hte i hi) c1 _) ?_
      refine V_ls (L' := [(0, _), (3, _), (5, _)]) i_X10_digestOfEvening_67 (by decide) ⟨rfl, rfl, rfl, trivial⟩ ?_
      refine V_iinc (L' := [(0, _), (3, _), (5, _)]) (n' := 1) i_X10_digestOfEvening_68 (by decide) rfl (by decide) ⟨rfl, rfl, rfl, trivial⟩ ?_
      refine V_goto i_X10_digestOfEvening_71 ?_
      refine V_L (L' := [(0, _), (3, _), (5, _)]) ⟨rfl, rfl, rfl, trivial⟩ ?_
      rw [show nI i + 1 = nI (i + 1) from nI_1 i]
      exact ih
  exact key 0 (Nat.zero_le _)
set_option maxRecDepth 100000 in
set_option maxHeartbeats 4000000 in
theorem c_digE (I : IntM) (J : LngM) {n : Nat} (hn : n ≤ 7) (h16 : I 16 1 = nI 7) {e how gr : Nat} {ln te : Nat → Nat} (hE : EvOK n how e ln gr te) (hC : EvC I J 15 n how e ln gr te) (h : Int64) : CtV 4 m_X10_digestOfEvening [.ref 0, .long h] I J (.long (deF ln te (un how) (dsF h gr (un how)) e)) I J := by
  refine CtV_of (by decide) rfl (Nat.le_of_ble_eq_true rfl) ?_
  obtain ⟨hh, hen, hPm, hgr, h24, hte⟩ := id hE
  obtain ⟨c1, c2, c3, c4, c5, c6⟩ := id hC
  refine V_al i_X10_digestOfEvening_0 rfl ?_
  refine V_ll i_X10_digestOfEvening_1 rfl ?_
  refine V_al i_X10_digestOfEvening_2 rfl ?_
  refine V_getR i_X10_digestOfEvening_3 rfl rfl ?_
  refine V_getJ i_X10_digestOfEvening_6 rfl ?_
  rw [c3]
  refine P_callV2v i_X10_digestOfEvening_9 mi_X10_digestOfShare rfl ⟨_, _, rfl⟩ (by decide) (Nat.le_of_ble_eq_true rfl) (c_digS I J hh hgr c1 _) ?_
  refine V_ls (L' := [(0, _), (3, _)]) i_X10_digestOfEvening_12 (by decide) ⟨rfl, rfl, trivial⟩ ?_
  refine V_c i_X10_digestOfEvening_13 ?_
  refine V_is (L' := [(0, _), (3, _), (5, _)]) i_X10_digestOfEvening_14 (by decide) ⟨rfl, rfl, rfl, trivial⟩ ?_
  refine V_L (L' := [(0, _), (3, _), (5, _)]) ⟨rfl, rfl, rfl, trivial⟩ ?_
  exact lp_digE I J hn h16 hE hC _ _ ⟨rfl, rfl, rfl⟩
def dwF (I : IntM) (n e : Nat) (kd nd : Nat → Nat) (h : Int64) : Nat → Int64 := fun i => match i with
  | 0 => h
  | i + 1 => 31 * dwF I n e kd nd h i + (cnW I n e kd nd i).toInt64
def aqF (kd nd od : Nat → Nat) (n k : Nat) (h : Int64) : Nat → Int64 := fun j => match j with
  | 0 => h
  | j + 1 => 31 * aqF kd nd od n k h j + (nI (abN kd nd od n k j)).toInt64
def abF (kd nd od : Nat → Nat) (n : Nat) (h : Int64) : Nat → Int64 := fun i => match i with
  | 0 => h
  | i + 1 => aqF kd nd od n i (abF kd nd od n h i) 3
def kpF (I : IntM) (h : Int64) : Nat → Int64 := fun i => match i with
  | 0 => h
  | i + 1 => 31 * kpF I h i + (I 163 i).toInt64
set_option maxRecDepth 100000 in
set_option maxHeartbeats 4000000 in
theorem lp_digW (I : IntM) (J : LngM) {n : Nat} {kd nd od : Nat → Nat} {lw pot : Nat} (hK : CK I n kd nd od lw pot) (hKe : ∀ c, c < 3 → KeI I J n c) (hR : ∀ r, r < 6 → I (111 + 2 * r) 1 = I 148 r) (hT : ∀ r, r < 4 → I (123 + 2 * r) 1 = I 150 r) {e : Nat} (he : I 15 4 = nI e) (h : Int64) (Q : Option Value → IntM → LngM → Prop) (hq : VP m_X10_digest 7 31 [(0, .ref 0), (1, .long (dwF I n e kd nd h 8))] [] I J Q) : VP m_X10_digest 7 6 [(0, .ref 0), (1, .long h), (3, .int 0)] [] I J Q := by
  have key : ∀ i, i ≤ 8 → VP m_X10_digest 7 6 [(0, .ref 0), (1, .long (dwF I n e kd nd h i)), (3, .int (nI i))] [] I J Q := by
    refine down 8 ?_ (fun i hi ih => ?_)
    · refine V_il i_X10_digest_6 rfl ?_
      refine V_c i_X10_digest_7 ?_
      refine V_ic_gt_t i_X10_digest_9 (by decide) ?_
      exact V_L (L' := [(0, _), (1, _)]) ⟨rfl, rfl, trivial⟩ hq
    · refine V_il i_X10_digest_6 rfl ?_
      refine V_c i_X10_digest_7 ?_
      refine V_ic_gt_f i_X10_digest_9 (fun q => by have := (nI_ltI (a := 7) (by decide) (by omega)).mp q; omega) ?_
      refine V_cl i_X10_digest_12 ?_
      refine V_ll i_X10_digest_15 rfl ?_
      refine V_lmul i_X10_digest_16 ?_
      refine V_al i_X10_digest_17 rfl ?_
      refine V_il i_X10_digest_18 rfl ?_
      refine P_callV1v i_X10_digest_19 mi_X10_count rfl ⟨_, _, rfl⟩ (by decide) (Nat.le_of_ble_eq_true rfl) (c_count I J hK hKe hR hT he (show i ≤ 7 by omega)) ?_
      refine V_i2l i_X10_digest_22 ?_
      refine V_ladd i_X10_digest_23 ?_
      refine V_ls (L' := [(0, _), (1, _), (3, _)]) i_X10_digest_24 (by decide) ⟨rfl, rfl, rfl, trivial⟩ ?_
      refine V_iinc (L' := [(0, _), (1, _), (3, _)]) (n' := 1) i_X10_digest_25 (by decide) rfl (by decide) ⟨rfl, rfl, rfl, trivial⟩ ?_
      refine V_goto i_X10_digest_28 ?_
      refine V_L (L' := [(0, _), (1, _), (3, _)]) ⟨rfl, rfl, rfl, trivial⟩ ?_
      rw [show nI i + 1 = nI (i + 1) from nI_1 i]
      exact ih
  exact key 0 (Nat.zero_le _)
set_option maxRecDepth 100000 in
set_option maxHeartbeats 4000000 in
theorem lp_digQ (I : IntM) (J : LngM) {n : Nat} {kd nd od : Nat → Nat} {lw pot : Nat} (hK : CK I n kd nd od lw pot) {k : Nat} (hk : k < n) (h : Int64) (Q : Option Value → IntM → LngM → Prop) (hq : VP m_X10_digest 7 107 [(0, .ref 0), (1, .long (aqF kd nd od n k h 3)), (3, .int (nI k))] [] I J Q) : VP m_X10_digest 7 77 [(0, .ref 0), (1, .long h), (3, .int (nI k)), (4, .int 0)] [] I J Q := by
  have key : ∀ j, j ≤ 3 → VP m_X10_digest 7 77 [(0, .ref 0), (1, .long (aqF kd nd od n k h j)), (3, .int (nI k)), (4, .int (nI j))] [] I J Q := by
    refine down 3 ?_ (fun j hj ih => ?_)
    · refine V_il i_X10_digest_77 rfl ?_
      refine V_c i_X10_digest_79 ?_
      refine V_ic_gt_t i_X10_digest_80 (by decide) ?_
      exact V_L (L' := [(0, _), (1, _), (3, _)]) ⟨rfl, rfl, rfl, trivial⟩ hq
    · refine V_il i_X10_digest_77 rfl ?_
      refine V_c i_X10_digest_79 ?_
      refine V_ic_gt_f i_X10_digest_80 (fun q => by have := (nI_ltI (a := 2) (by decide) (by omega)).mp q; omega) ?_
      refine V_cl i_X10_digest_83 ?_
      refine V_ll i_X10_digest_86 rfl ?_
      refine V_lmul i_X10_digest_87 ?_
      refine V_al i_X10_digest_88 rfl ?_
      refine V_getR i_X10_digest_89 rfl rfl ?_
      refine V_il i_X10_digest_92 rfl ?_
      refine V_il i_X10_digest_93 rfl ?_
      refine P_callV2v i_X10_digest_95 mi_X0_about rfl ⟨_, _, rfl⟩ (by decide) (Nat.le_of_ble_eq_true rfl) (c_C_about _ _ hK.1 hK.C hk (show j ≤ 2 by omega)) ?_
      refine V_i2l i_X10_digest_98 ?_
      refine V_ladd i_X10_digest_99 ?_
      refine V_ls (L' := [(0, _), (1, _), (3, _), (4, _)]) i_X10_digest_100 (by decide) ⟨rfl, rfl, rfl, rfl, trivial⟩ ?_
      refine V_iinc (L' := [(0, _), (1, _), (3, _), (4, _)]) (n' := 1) i_X10_digest_101 (by decide) rfl (by decide) ⟨rfl, rfl, rfl, rfl, trivial⟩ ?_
      refine V_goto i_X10_digest_104 ?_
      refine V_L (L' := [(0, _), (1, _), (3, _), (4, _)]) ⟨rfl, rfl, rfl, rfl, trivial⟩ ?_
      rw [show nI j + 1 = nI (j + 1) from nI_1 j]
      exact ih
  exact key 0 (Nat.zero_le _)
set_option maxRecDepth 100000 in
set_option maxHeartbeats 4000000 in
theorem lp_digA (I : IntM) (J : LngM) {n : Nat} {kd nd od : Nat → Nat} {lw pot : Nat} (hK : CK I n kd nd od lw pot) (h : Int64) (Q : Option Value → IntM → LngM → Prop) (hq : VP m_X10_digest 7 113 [(0, .ref 0), (1, .long (abF kd nd od n h n))] [] I J Q) : VP m_X10_digest 7 63 [(0, .ref 0), (1, .long h), (3, .int 0)] [] I J Q := by
  have key : ∀ i, i ≤ n → VP m_X10_digest 7 63 [(0, .ref 0), (1, .long (abF kd nd od n h i)), (3, .int (nI i))] [] I J Q := by
    refine down n ?_ (fun i hi ih => ?_)
    · refine V_il i_X10_digest_63 rfl ?_
      refine V_al i_X10_digest_64 rfl ?_
      refine V_getR i_X10_digest_65 rfl rfl ?_
      refine V_getI i_X10_digest_68 rfl ?_
      refine V_ic_ge_t i_X10_digest_71 (by rw [hK.sz]; exact Int32.le_refl _) ?_
      exact V_L (L' := [(0, _), (1, _)]) ⟨rfl, rfl, trivial⟩ hq
    · refine V_il i_X10_digest_63 rfl ?_
      refine V_al i_X10_digest_64 rfl ?_
      refine V_getR i_X10_digest_65 rfl rfl ?_
      refine V_getI i_X10_digest_68 rfl ?_
      refine V_ic_ge_f i_X10_digest_71 (by rw [hK.sz]; exact nI_ge hi (by have := hK.n7; omega)) ?_
      refine V_c i_X10_digest_74 ?_
      refine V_is (L' := [(0, _), (1, _), (3, _), (4, _)]) i_X10_digest_75 (by decide) ⟨rfl, rfl, rfl, rfl, trivial⟩ ?_
      refine V_L (L' := [(0, _), (1, _), (3, _), (4, _)]) ⟨rfl, rfl, rfl, rfl, trivial⟩ ?_
      refine lp_digQ I J hK hi _ _ ?_
      refine V_iinc (L' := [(0, _), (1, _), (3, _)]) (n' := 1) i_X10_digest_107 (by decide) rfl (by decide) ⟨rfl, rfl, rfl, trivial⟩ ?_
      refine V_goto i_X10_digest_110 ?_
      refine V_L (L' := [(0, _), (1, _), (3, _)]) ⟨rfl, rfl, rfl, trivial⟩ ?_
      rw [show nI i + 1 = nI (i + 1) from nI_1 i]
      exact ih
  exact key 0 (Nat.zero_le _)
theorem digF_cong {f g : Nat → Int32} : ∀ {s} (h : Int64), (∀ i, i < s → f i = g i) → digF f s h = digF g s h
  | 0, _, _ => rfl
  | s + 1, h, e => by
    show 31 * digF f s h + (f s).toInt64 = 31 * digF g s h + (g s).toInt64
    rw [digF_cong h (fun i hi => e i (by omega)), e s (by omega)]
def rsF (I : IntM) (xs xi r : Nat) (h : Int64) : Int64 := digF (fun k => I xi (60 * r + k)) (I xs r).toNatClampNeg (31 * h + (I xs r).toInt64)
def rwF (I : IntM) (xs xi : Nat) (h : Int64) : Nat → Int64 := fun i => match i with
  | 0 => h
  | i + 1 => rsF I xs xi i (rwF I xs xi h i)
theorem c_digR (I : IntM) (J : LngM) {a b c N r : Nat} (hR : RoI I a b c N) (hr : r < N) (hL : LI (a + 2 * r) 60) (h : Int64) : CtV 3 m_X3_digestInto [.ref (a + 2 * r), .long h] I J (.long (rsF I b c r h)) I J := by
  rcases ro_size hR hr with ⟨h1, h2⟩ | ⟨s, hs6, h1, h2, h3⟩
  · have hc := c_I_dig0 I J hL h1 h
    rw [show 31 * h + (-1 : Int32).toInt64 = rsF I b c r h from by unfold rsF; rw [h2]; rfl] at hc
    exact hc
  · have hc := c_I_dig I J hL hs6 h1 h
    rw [show digF (I (a + 2 * r + 1)) s (31 * h + (I (a + 2 * r) 1).toInt64) = rsF I b c r h from by
      unfold rsF
      rw [h1, h2, nI_clamp (by omega)]
      exact digF_cong _ h3] at hc
    exact hc
set_option maxRecDepth 100000 in
set_option maxHeartbeats 4000000 in
theorem lp_digK (I : IntM) (J : LngM) {n : Nat} (hKe : ∀ c, c < 3 → KeI I J n c) (h : Int64) (Q : Option Value → IntM → LngM → Prop) (hq : VP m_X10_digest 7 188 [(0, .ref 0), (1, .long (kpF I h 3))] [] I J Q) : VP m_X10_digest 7 144 [(0, .ref 0), (1, .long h), (3, .ref 20), (4, .int (nI 3)), (5, .int 0)] [] I J Q := by
  have key : ∀ i, i ≤ 3 → VP m_X10_digest 7 144 [(0, .ref 0), (1, .long (kpF I h i)), (3, .ref 20), (4, .int (nI 3)), (5, .int (nI i))] [] I J Q := by
    refine down 3 ?_ (fun i hi ih => ?_)
    · refine V_il i_X10_digest_144 rfl ?_
      refine V_il i_X10_digest_146 rfl ?_
      refine V_ic_ge_t i_X10_digest_148 (Int32.le_refl _) ?_
      exact V_L (L' := [(0, _), (1, _)]) ⟨rfl, rfl, trivial⟩ hq
    · refine V_il i_X10_digest_144 rfl ?_
      refine V_il i_X10_digest_146 rfl ?_
      refine V_ic_ge_f i_X10_digest_148 (nI_ge (show i < 3 by omega) (by decide)) ?_
      refine V_al i_X10_digest_151 rfl ?_
      refine V_il i_X10_digest_152 rfl ?_
      refine K_aald i i_X10_digest_154 rfl (by decide) rfl hi (by omega) (RF_kept hi) ?_
      refine V_as (L' := [(0, _), (1, _), (3, _), (4, _), (5, _), (6, _)]) i_X10_digest_155 (by decide) ⟨rfl, rfl, rfl, rfl, rfl, rfl, trivial⟩ ?_
      refine V_cl i_X10_digest_157 ?_
      refine V_ll i_X10_digest_160 rfl ?_
      refine V_lmul i_X10_digest_161 ?_
      refine V_al i_X10_digest_162 rfl ?_
      refine V_getZ i_X10_digest_164 (LE_k hi).1 ?_
      refine V_if_eq i_X10_digest_167 (fun c167 => ?_) (fun c167 => ?_)
      · have d1 : I 163 i = -1 := by rcases (hKe i hi).2 with q | q; exact q.2; exact absurd (q.1.symm.trans c167) (by decide)
        refine V_c i_X10_digest_178 ?_
        refine V_i2l i_X10_digest_179 ?_
        refine V_ladd i_X10_digest_180 ?_
        refine V_ls (L' := [(0, _), (1, _), (3, _), (4, _), (5, _)]) i_X10_digest_181 (by decide) ⟨rfl, rfl, rfl, rfl, rfl, trivial⟩ ?_
        refine V_iinc (L' := [(0, _), (1, _), (3, _), (4, _), (5, _)]) (n' := 1) i_X10_digest_182 (by decide) rfl (by decide) ⟨rfl, rfl, rfl, rfl, rfl, trivial⟩ ?_
        refine V_goto i_X10_digest_185 ?_
        refine V_L (L' := [(0, _), (1, _), (3, _), (4, _), (5, _)]) ⟨rfl, rfl, rfl, rfl, rfl, trivial⟩ ?_
        rw [show nI i + 1 = nI (i + 1) from nI_1 i]
        have ih2 := ih
        rw [show kpF I h (i + 1) = 31 * kpF I h i + (I 163 i).toInt64 from rfl, d1] at ih2
        exact ih2
      · have d1 : I 163 i = I (131 + 5 * i) 4 := by rcases (hKe i hi).2 with q | q; exact absurd q.1 c167; obtain ⟨-, -, how, e, ln, gr, te, -, hC, hV⟩ := q; rw [hV.1, hC.2.1]
        refine V_al i_X10_digest_170 rfl ?_
        refine V_getI i_X10_digest_172 (LE_k hi).1 ?_
        refine V_goto i_X10_digest_175 ?_
        refine V_i2l i_X10_digest_179 ?_
        refine V_ladd i_X10_digest_180 ?_
        refine V_ls (L' := [(0, _), (1, _), (3, _), (4, _), (5, _)]) i_X10_digest_181 (by decide) ⟨rfl, rfl, rfl, rfl, rfl, trivial⟩ ?_
        refine V_iinc (L' := [(0, _), (1, _), (3, _), (4, _), (5, _)]) (n' := 1) i_X10_digest_182 (by decide) rfl (by decide) ⟨rfl, rfl, rfl, rfl, rfl, trivial⟩ ?_
        refine V_goto i_X10_digest_185 ?_
        refine V_L (L' := [(0, _), (1, _), (3, _), (4, _), (5, _)]) ⟨rfl, rfl, rfl, rfl, rfl, trivial⟩ ?_
        rw [show nI i + 1 = nI (i + 1) from nI_1 i]
        have ih2 := ih
        rw [show kpF I h (i + 1) = 31 * kpF I h i + (I 163 i).toInt64 from rfl, d1] at ih2
        exact ih2
  exact key 0 (Nat.zero_le _)
set_option maxRecDepth 100000 in
set_option maxHeartbeats 4000000 in
theorem lp_digR (I : IntM) (J : LngM) (hR : RoI I 111 148 149 6) (h : Int64) (Q : Option Value → IntM → LngM → Prop) (hq : VP m_X10_digest 7 226 [(0, .ref 0), (1, .long (rwF I 148 149 h 6))] [] I J Q) : VP m_X10_digest 7 200 [(0, .ref 0), (1, .long h), (3, .ref 1), (4, .int (nI 6)), (5, .int 0)] [] I J Q := by
  have key : ∀ i, i ≤ 6 → VP m_X10_digest 7 200 [(0, .ref 0), (1, .long (rwF I 148 149 h i)), (3, .ref 1), (4, .int (nI 6)), (5, .int (nI i))] [] I J Q := by
    refine down 6 ?_ (fun i hi ih => ?_)
    · refine V_il i_X10_digest_200 rfl ?_
      refine V_il i_X10_digest_202 rfl ?_
      refine V_ic_ge_t i_X10_digest_204 (Int32.le_refl _) ?_
      exact V_L (L' := [(0, _), (1, _)]) ⟨rfl, rfl, trivial⟩ hq
    · refine V_il i_X10_digest_200 rfl ?_
      refine V_il i_X10_digest_202 rfl ?_
      refine V_ic_ge_f i_X10_digest_204 (nI_ge (show i < 6 by omega) (by decide)) ?_
      refine V_al i_X10_digest_207 rfl ?_
      refine V_il i_X10_digest_208 rfl ?_
      refine K_aald i i_X10_digest_210 rfl (by decide) rfl hi (by omega) (RF_row hi) ?_
      refine V_as (L' := [(0, _), (1, _), (3, _), (4, _), (5, _), (6, _)]) i_X10_digest_211 (by decide) ⟨rfl, rfl, rfl, rfl, rfl, rfl, trivial⟩ ?_
      refine V_al i_X10_digest_213 rfl ?_
      refine V_ll i_X10_digest_215 rfl ?_
      refine P_callV1v i_X10_digest_216 mi_X3_digestInto (LI_row hi).1 ⟨_, _, rfl⟩ (by decide) (Nat.le_of_ble_eq_true rfl) (c_digR I J hR hi (LI_row hi) _) ?_
      refine V_ls (L' := [(0, _), (1, _), (3, _), (4, _), (5, _)]) i_X10_digest_219 (by decide) ⟨rfl, rfl, rfl, rfl, rfl, trivial⟩ ?_
      refine V_iinc (L' := [(0, _), (1, _), (3, _), (4, _), (5, _)]) (n' := 1) i_X10_digest_220 (by decide) rfl (by decide) ⟨rfl, rfl, rfl, rfl, rfl, trivial⟩ ?_
      refine V_goto i_X10_digest_223 ?_
      refine V_L (L' := [(0, _), (1, _), (3, _), (4, _), (5, _)]) ⟨rfl, rfl, rfl, rfl, rfl, trivial⟩ ?_
      rw [show nI i + 1 = nI (i + 1) from nI_1 i]
      exact ih
  exact key 0 (Nat.zero_le _)
set_option maxRecDepth 100000 in
set_option maxHeartbeats 4000000 in
theorem lp_digT (I : IntM) (J : LngM) (hR : RoI I 123 150 151 4) (h : Int64) (Q : Option Value → IntM → LngM → Prop) (hq : Q (some (.long (rwF I 150 151 h 4))) I J) : VP m_X10_digest 7 238 [(1, .long h), (3, .ref 2), (4, .int (nI 4)), (5, .int 0)] [] I J Q := by
  have key : ∀ i, i ≤ 4 → VP m_X10_digest 7 238 [(1, .long (rwF I 150 151 h i)), (3, .ref 2), (4, .int (nI 4)), (5, .int (nI i))] [] I J Q := by
    refine down 4 ?_ (fun i hi ih => ?_)
    · refine V_il i_X10_digest_238 rfl ?_
      refine V_il i_X10_digest_240 rfl ?_
      refine V_ic_ge_t i_X10_digest_242 (Int32.le_refl _) ?_
      refine V_ll i_X10_digest_264 rfl ?_
      exact P_lret i_X10_digest_265 rfl hq
    · refine V_il i_X10_digest_238 rfl ?_
      refine V_il i_X10_digest_240 rfl ?_
      refine V_ic_ge_f i_X10_digest_242 (nI_ge (show i < 4 by omega) (by decide)) ?_
      refine V_al i_X10_digest_245 rfl ?_
      refine V_il i_X10_digest_246 rfl ?_
      refine K_aald i i_X10_digest_248 rfl (by decide) rfl hi (by omega) (RF_text hi) ?_
      refine V_as (L' := [(1, _), (3, _), (4, _), (5, _), (6, _)]) i_X10_digest_249 (by decide) ⟨rfl, rfl, rfl, rfl, rfl, trivial⟩ ?_
      refine V_al i_X10_digest_251 rfl ?_
      refine V_ll i_X10_digest_253 rfl ?_
      refine P_callV1v i_X10_digest_254 mi_X3_digestInto (LI_text hi).1 ⟨_, _, rfl⟩ (by decide) (Nat.le_of_ble_eq_true rfl) (c_digR I J hR hi (LI_text hi) _) ?_
      refine V_ls (L' := [(1, _), (3, _), (4, _), (5, _)]) i_X10_digest_257 (by decide) ⟨rfl, rfl, rfl, rfl, trivial⟩ ?_
      refine V_iinc (L' := [(1, _), (3, _), (4, _), (5, _)]) (n' := 1) i_X10_digest_258 (by decide) rfl (by decide) ⟨rfl, rfl, rfl, rfl, trivial⟩ ?_
      refine V_goto i_X10_digest_261 ?_
      refine V_L (L' := [(1, _), (3, _), (4, _), (5, _)]) ⟨rfl, rfl, rfl, rfl, trivial⟩ ?_
      rw [show nI i + 1 = nI (i + 1) from nI_1 i]
      exact ih
  exact key 0 (Nat.zero_le _)
def dgV (I : IntM) (n e : Nat) (kd nd od : Nat → Nat) (lw pot how gr : Nat) (ln te : Nat → Nat) : Int64 := rwF I 150 151 (rwF I 148 149 (kpF I (deF ln te (un how) (dsF (31 * abF kd nd od n (31 * (31 * dwF I n e kd nd 17 8 + (nI pot).toInt64) + (nI lw).toInt64) n + (nI how).toInt64) gr (un how)) e) 3) 6) 4
set_option maxRecDepth 100000 in
set_option maxHeartbeats 4000000 in
theorem c_digest (I : IntM) (J : LngM) {n : Nat} {kd nd od : Nat → Nat} {lw pot : Nat} (hK : CK I n kd nd od lw pot) (h16 : I 16 1 = nI 7) (hKe : ∀ c, c < 3 → KeI I J n c) (hRo : RoI I 111 148 149 6) (hTe : RoI I 123 150 151 4) {e how gr : Nat} {ln te : Nat → Nat} (hE : EvOK n how e ln gr te) (hC : EvC I J 15 n how e ln gr te) : CtV 7 m_X10_digest [.ref 0] I J (.long (dgV I n e kd nd od lw pot how gr ln te)) I J := by
  refine CtV_of (by decide) rfl (Nat.le_of_ble_eq_true rfl) ?_
  obtain ⟨hh, hen, hPm, hgr, h24, hte⟩ := id hE
  obtain ⟨c1, c2, c3, c4, c5, c6⟩ := id hC
  refine V_cl i_X10_digest_0 ?_
  refine V_ls (L' := [(0, _), (1, _)]) i_X10_digest_3 (by decide) ⟨rfl, rfl, trivial⟩ ?_
  refine V_c i_X10_digest_4 ?_
  refine V_is (L' := [(0, _), (1, _), (3, _)]) i_X10_digest_5 (by decide) ⟨rfl, rfl, rfl, trivial⟩ ?_
  refine V_L (L' := [(0, _), (1, _), (3, _)]) ⟨rfl, rfl, rfl, trivial⟩ ?_
  refine lp_digW I J hK hKe (fun r hr => (hRo r hr).1) (fun r hr => (hTe r hr).1) c2 _ _ ?_
  refine V_cl i_X10_digest_31 ?_
  refine V_ll i_X10_digest_34 rfl ?_
  refine V_lmul i_X10_digest_35 ?_
  refine V_al i_X10_digest_36 rfl ?_
  refine V_getR i_X10_digest_37 rfl rfl ?_
  refine V_getI i_X10_digest_40 rfl ?_
  rw [hK.pt]
  refine V_i2l i_X10_digest_43 ?_
  refine V_ladd i_X10_digest_44 ?_
  refine V_ls (L' := [(0, _), (1, _)]) i_X10_digest_45 (by decide) ⟨rfl, rfl, trivial⟩ ?_
  refine V_cl i_X10_digest_46 ?_
  refine V_ll i_X10_digest_49 rfl ?_
  refine V_lmul i_X10_digest_50 ?_
  refine V_al i_X10_digest_51 rfl ?_
  refine V_getR i_X10_digest_52 rfl rfl ?_
  refine V_getI i_X10_digest_55 rfl ?_
  rw [hK.lw]
  refine V_i2l i_X10_digest_58 ?_
  refine V_ladd i_X10_digest_59 ?_
  refine V_ls (L' := [(0, _), (1, _)]) i_X10_digest_60 (by decide) ⟨rfl, rfl, trivial⟩ ?_
  refine V_c i_X10_digest_61 ?_
  refine V_is (L' := [(0, _), (1, _), (3, _)]) i_X10_digest_62 (by decide) ⟨rfl, rfl, rfl, trivial⟩ ?_
  refine V_L (L' := [(0, _), (1, _), (3, _)]) ⟨rfl, rfl, rfl, trivial⟩ ?_
  refine lp_digA I J hK _ _ ?_
  refine V_al i_X10_digest_113 rfl ?_
  refine V_cl i_X10_digest_114 ?_
  refine V_ll i_X10_digest_117 rfl ?_
  refine V_lmul i_X10_digest_118 ?_
  refine V_al i_X10_digest_119 rfl ?_
  refine V_getR i_X10_digest_120 rfl rfl ?_
  refine V_getI i_X10_digest_123 rfl ?_
  rw [c1]
  refine V_i2l i_X10_digest_126 ?_
  refine V_ladd i_X10_digest_127 ?_
  refine P_callV1v i_X10_digest_128 mi_X10_digestOfEvening rfl ⟨_, _, rfl⟩ (by decide) (Nat.le_of_ble_eq_true rfl) (c_digE I J hK.n7 h16 hE hC _) ?_
  refine V_ls (L' := [(0, _), (1, _)]) i_X10_digest_131 (by decide) ⟨rfl, rfl, trivial⟩ ?_
  refine V_al i_X10_digest_132 rfl ?_
  refine V_getR i_X10_digest_133 rfl rfl ?_
  refine V_as (L' := [(0, _), (1, _), (3, _)]) i_X10_digest_136 (by decide) ⟨rfl, rfl, rfl, trivial⟩ ?_
  refine V_al i_X10_digest_137 rfl ?_
  refine V_alen4 (v := nI _) i_X10_digest_138 rfl rfl ?_
  refine V_is (L' := [(0, _), (1, _), (3, _), (4, _)]) i_X10_digest_139 (by decide) ⟨rfl, rfl, rfl, rfl, trivial⟩ ?_
  refine V_c i_X10_digest_141 ?_
  refine V_is (L' := [(0, _), (1, _), (3, _), (4, _), (5, _)]) i_X10_digest_142 (by decide) ⟨rfl, rfl, rfl, rfl, rfl, trivial⟩ ?_
  refine V_L (L' := [(0, _), (1, _), (3, _), (4, _), (5, _)]) ⟨rfl, rfl, rfl, rfl, rfl, trivial⟩ ?_
  refine lp_digK I J hKe _ _ ?_
  refine V_al i_X10_digest_188 rfl ?_
  refine V_getR i_X10_digest_189 rfl rfl ?_
  refine V_as (L' := [(0, _), (1, _), (3, _)]) i_X10_digest_192 (by decide) ⟨rfl, rfl, rfl, trivial⟩ ?_
  refine V_al i_X10_digest_193 rfl ?_
  refine V_alen3 (v := nI _) i_X10_digest_194 rfl rfl ?_
  refine V_is (L' := [(0, _), (1, _), (3, _), (4, _)]) i_X10_digest_195 (by decide) ⟨rfl, rfl, rfl, rfl, trivial⟩ ?_
  refine V_c i_X10_digest_197 ?_
  refine V_is (L' := [(0, _), (1, _), (3, _), (4, _), (5, _)]) i_X10_digest_198 (by decide) ⟨rfl, rfl, rfl, rfl, rfl, trivial⟩ ?_
  refine V_L (L' := [(0, _), (1, _), (3, _), (4, _), (5, _)]) ⟨rfl, rfl, rfl, rfl, rfl, trivial⟩ ?_
  refine lp_digR I J hRo _ _ ?_
  refine V_al i_X10_digest_226 rfl ?_
  refine V_getR i_X10_digest_227 rfl rfl ?_
  refine V_as (L' := [(1, _), (3, _)]) i_X10_digest_230 (by decide) ⟨rfl, rfl, trivial⟩ ?_
  refine V_al i_X10_digest_231 rfl ?_
  refine V_alen3 (v := nI _) i_X10_digest_232 rfl rfl ?_
  refine V_is (L' := [(1, _), (3, _), (4, _)]) i_X10_digest_233 (by decide) ⟨rfl, rfl, rfl, trivial⟩ ?_
  refine V_c i_X10_digest_235 ?_
  refine V_is (L' := [(1, _), (3, _), (4, _), (5, _)]) i_X10_digest_236 (by decide) ⟨rfl, rfl, rfl, rfl, trivial⟩ ?_
  refine V_L (L' := [(1, _), (3, _), (4, _), (5, _)]) ⟨rfl, rfl, rfl, rfl, trivial⟩ ?_
  exact lp_digT I J hTe _ _ ⟨rfl, rfl, rfl⟩
set_option maxRecDepth 100000 in
set_option maxHeartbeats 4000000 in
theorem lm_digW (I : IntM) (J : LngM) {n : Nat} {kd nd od : Nat → Nat} {lw pot : Nat} (hK : MK I n kd nd od lw pot) {e : Nat} (he : I 146 32 = nI e) (h : Int64) (Q : Option Value → IntM → LngM → Prop) (hq : VP m_X11_digest 3 31 [(0, .ref 146), (1, .long (dwF I n e kd nd h 8))] [] I J Q) : VP m_X11_digest 3 6 [(0, .ref 146), (1, .long h), (3, .int 0)] [] I J Q := by
  have key : ∀ i, i ≤ 8 → VP m_X11_digest 3 6 [(0, .ref 146), (1, .long (dwF I n e kd nd h i)), (3, .int (nI i))] [] I J Q := by
    refine down 8 ?_ (fun i hi ih => ?_)
    · refine V_il i_X11_digest_6 rfl ?_
      refine V_c i_X11_digest_7 ?_
      refine V_ic_ge_t i_X11_digest_9 (Int32.le_refl _) ?_
      exact V_L (L' := [(0, _), (1, _)]) ⟨rfl, rfl, trivial⟩ hq
    · refine V_il i_X11_digest_6 rfl ?_
      refine V_c i_X11_digest_7 ?_
      refine V_ic_ge_f i_X11_digest_9 (nI_ge (show i < 8 by omega) (by decide)) ?_
      refine V_cl i_X11_digest_12 ?_
      refine V_ll i_X11_digest_15 rfl ?_
      refine V_lmul i_X11_digest_16 ?_
      refine V_al i_X11_digest_17 rfl ?_
      refine V_il i_X11_digest_18 rfl ?_
      refine P_callV1v i_X11_digest_19 mi_X11_countBy rfl ⟨_, _, rfl⟩ (by decide) (Nat.le_of_ble_eq_true rfl) (m_countBy I J hK (show i ≤ 7 by omega) he) ?_
      refine V_i2l i_X11_digest_22 ?_
      refine V_ladd i_X11_digest_23 ?_
      refine V_ls (L' := [(0, _), (1, _), (3, _)]) i_X11_digest_24 (by decide) ⟨rfl, rfl, rfl, trivial⟩ ?_
      refine V_iinc (L' := [(0, _), (1, _), (3, _)]) (n' := 1) i_X11_digest_25 (by decide) rfl (by decide) ⟨rfl, rfl, rfl, trivial⟩ ?_
      refine V_goto i_X11_digest_28 ?_
      refine V_L (L' := [(0, _), (1, _), (3, _)]) ⟨rfl, rfl, rfl, trivial⟩ ?_
      rw [show nI i + 1 = nI (i + 1) from nI_1 i]
      exact ih
  exact key 0 (Nat.zero_le _)
set_option maxRecDepth 100000 in
set_option maxHeartbeats 4000000 in
theorem lm_digQ (I : IntM) (J : LngM) {n : Nat} {kd nd od : Nat → Nat} {lw pot : Nat} (hK : MK I n kd nd od lw pot) {k : Nat} (hk : k < n) (h : Int64) (Q : Option Value → IntM → LngM → Prop) (hq : VP m_X11_digest 3 93 [(0, .ref 146), (1, .long (aqF kd nd od n k h 3)), (3, .int (nI k))] [] I J Q) : VP m_X11_digest 3 66 [(0, .ref 146), (1, .long h), (3, .int (nI k)), (4, .int 0)] [] I J Q := by
  have key : ∀ j, j ≤ 3 → VP m_X11_digest 3 66 [(0, .ref 146), (1, .long (aqF kd nd od n k h j)), (3, .int (nI k)), (4, .int (nI j))] [] I J Q := by
    refine down 3 ?_ (fun j hj ih => ?_)
    · refine V_il i_X11_digest_66 rfl ?_
      refine V_c i_X11_digest_68 ?_
      refine V_ic_ge_t i_X11_digest_69 (Int32.le_refl _) ?_
      exact V_L (L' := [(0, _), (1, _), (3, _)]) ⟨rfl, rfl, rfl, trivial⟩ hq
    · refine V_il i_X11_digest_66 rfl ?_
      refine V_c i_X11_digest_68 ?_
      refine V_ic_ge_f i_X11_digest_69 (nI_ge (show j < 3 by omega) (by decide)) ?_
      refine V_cl i_X11_digest_72 ?_
      refine V_ll i_X11_digest_75 rfl ?_
      refine V_lmul i_X11_digest_76 ?_
      refine V_al i_X11_digest_77 rfl ?_
      refine V_il i_X11_digest_78 rfl ?_
      refine V_il i_X11_digest_79 rfl ?_
      refine P_callV2v i_X11_digest_81 mi_X11_eaterBy rfl ⟨_, _, rfl⟩ (by decide) (Nat.le_of_ble_eq_true rfl) (c_M_eaterBy _ _ hK.n7 hK.M hK.od hK.P hk (show j ≤ 2 by omega)) ?_
      refine V_i2l i_X11_digest_84 ?_
      refine V_ladd i_X11_digest_85 ?_
      refine V_ls (L' := [(0, _), (1, _), (3, _), (4, _)]) i_X11_digest_86 (by decide) ⟨rfl, rfl, rfl, rfl, trivial⟩ ?_
      refine V_iinc (L' := [(0, _), (1, _), (3, _), (4, _)]) (n' := 1) i_X11_digest_87 (by decide) rfl (by decide) ⟨rfl, rfl, rfl, rfl, trivial⟩ ?_
      refine V_goto i_X11_digest_90 ?_
      refine V_L (L' := [(0, _), (1, _), (3, _), (4, _)]) ⟨rfl, rfl, rfl, rfl, trivial⟩ ?_
      rw [show nI j + 1 = nI (j + 1) from nI_1 j]
      exact ih
  exact key 0 (Nat.zero_le _)
set_option maxRecDepth 100000 in
set_option maxHeartbeats 4000000 in
theorem lm_digA (I : IntM) (J : LngM) {n : Nat} {kd nd od : Nat → Nat} {lw pot : Nat} (hK : MK I n kd nd od lw pot) (h : Int64) (Q : Option Value → IntM → LngM → Prop) (hq : VP m_X11_digest 3 99 [(0, .ref 146), (1, .long (abF kd nd od n h n))] [] I J Q) : VP m_X11_digest 3 55 [(0, .ref 146), (1, .long h), (3, .int 0)] [] I J Q := by
  have key : ∀ i, i ≤ n → VP m_X11_digest 3 55 [(0, .ref 146), (1, .long (abF kd nd od n h i)), (3, .int (nI i))] [] I J Q := by
    refine down n ?_ (fun i hi ih => ?_)
    · refine V_il i_X11_digest_55 rfl ?_
      refine V_al i_X11_digest_56 rfl ?_
      refine V_getI i_X11_digest_57 rfl ?_
      refine V_ic_ge_t i_X11_digest_60 (by rw [hK.sz]; exact Int32.le_refl _) ?_
      exact V_L (L' := [(0, _), (1, _)]) ⟨rfl, rfl, trivial⟩ hq
    · refine V_il i_X11_digest_55 rfl ?_
      refine V_al i_X11_digest_56 rfl ?_
      refine V_getI i_X11_digest_57 rfl ?_
      refine V_ic_ge_f i_X11_digest_60 (by rw [hK.sz]; exact nI_ge hi (by have := hK.n7; omega)) ?_
      refine V_c i_X11_digest_63 ?_
      refine V_is (L' := [(0, _), (1, _), (3, _), (4, _)]) i_X11_digest_64 (by decide) ⟨rfl, rfl, rfl, rfl, trivial⟩ ?_
      refine V_L (L' := [(0, _), (1, _), (3, _), (4, _)]) ⟨rfl, rfl, rfl, rfl, trivial⟩ ?_
      refine lm_digQ I J hK hi _ _ ?_
      refine V_iinc (L' := [(0, _), (1, _), (3, _)]) (n' := 1) i_X11_digest_93 (by decide) rfl (by decide) ⟨rfl, rfl, rfl, trivial⟩ ?_
      refine V_goto i_X11_digest_96 ?_
      refine V_L (L' := [(0, _), (1, _), (3, _)]) ⟨rfl, rfl, rfl, trivial⟩ ?_
      rw [show nI i + 1 = nI (i + 1) from nI_1 i]
      exact ih
  exact key 0 (Nat.zero_le _)
set_option maxRecDepth 100000 in
set_option maxHeartbeats 4000000 in
theorem lm_digE (I : IntM) (J : LngM) {n : Nat} (hn : n ≤ 7) {e how gr : Nat} {ln te : Nat → Nat} (hE : EvOK n how e ln gr te) (hV : EvM I J n how e ln gr te) (h : Int64) (Q : Option Value → IntM → LngM → Prop) (hq : VP m_X11_digest 3 187 [(0, .ref 146), (1, .long (deF ln te (un how) h e))] [] I J Q) : VP m_X11_digest 3 131 [(0, .ref 146), (1, .long h), (3, .int 0)] [] I J Q := by
  obtain ⟨hh, hen, hPm, hgr, h24, hte⟩ := id hE
  obtain ⟨v1, v2, v3, v4, v5⟩ := id hV
  have key : ∀ i, i ≤ e → VP m_X11_digest 3 131 [(0, .ref 146), (1, .long (deF ln te (un how) h i)), (3, .int (nI i))] [] I J Q := by
    refine down e ?_ (fun i hi ih => ?_)
    · refine V_il i_X11_digest_131 rfl ?_
      refine V_al i_X11_digest_132 rfl ?_
      refine V_getI i_X11_digest_133 rfl ?_
      refine V_ic_ge_t i_X11_digest_136 (by rw [v2]; exact Int32.le_refl _) ?_
      exact V_L (L' := [(0, _), (1, _)]) ⟨rfl, rfl, trivial⟩ hq
    · have hl := hPm.1 i (by omega)
      obtain ⟨x1, x2⟩ := v5 i hi
      refine V_il i_X11_digest_131 rfl ?_
      refine V_al i_X11_digest_132 rfl ?_
      refine V_getI i_X11_digest_133 rfl ?_
      refine V_ic_ge_f i_X11_digest_136 (by rw [v2]; exact nI_ge hi (by omega)) ?_
      refine V_al i_X11_digest_139 rfl ?_
      refine V_getR i_X11_digest_140 rfl rfl ?_
      refine V_il i_X11_digest_143 rfl ?_
      refine K_iald i i_X11_digest_144 rfl rfl (by omega) (by omega) ?_
      rw [v4 i (by omega)]
      refine V_is (L' := [(0, _), (1, _), (3, _), (4, _)]) i_X11_digest_145 (by decide) ⟨rfl, rfl, rfl, rfl, trivial⟩ ?_
      refine V_cl i_X11_digest_147 ?_
      refine V_cl i_X11_digest_150 ?_
      refine V_cl i_X11_digest_153 ?_
      refine V_ll i_X11_digest_156 rfl ?_
      refine V_lmul i_X11_digest_157 ?_
      refine V_il i_X11_digest_158 rfl ?_
      refine V_i2l i_X11_digest_160 ?_
      refine V_ladd i_X11_digest_161 ?_
      refine V_lmul i_X11_digest_162 ?_
      refine V_al i_X11_digest_163 rfl ?_
      refine V_getR i_X11_digest_164 rfl rfl ?_
      refine V_il i_X11_digest_167 rfl ?_
      refine K_lald (ln i) i_X11_digest_169 rfl rfl (by omega) (by omega) ?_
      rw [x1]
      refine V_ladd i_X11_digest_170 ?_
      refine V_lmul i_X11_digest_171 ?_
      refine V_al i_X11_digest_172 rfl ?_
      refine V_getR i_X11_digest_173 rfl rfl ?_
      refine V_il i_X11_digest_176 rfl ?_
      refine K_lald (ln i) i_X11_digest_178 rfl rfl (by omega) (by omega) ?_
      rw [x2]
      refine V_ladd i_X11_digest_179 ?_
      refine V_ls (L' := [(0, _), (1, _), (3, _)]) i_X11_digest_180 (by decide) ⟨rfl, rfl, rfl, trivial⟩ ?_
      refine V_iinc (L' := [(0, _), (1, _), (3, _)]) (n' := 1) i_X11_digest_181 (by decide) rfl (by decide) ⟨rfl, rfl, rfl, trivial⟩ ?_
      refine V_goto i_X11_digest_184 ?_
      refine V_L (L' := [(0, _), (1, _), (3, _)]) ⟨rfl, rfl, rfl, trivial⟩ ?_
      rw [show nI i + 1 = nI (i + 1) from nI_1 i]
      exact ih
  exact key 0 (Nat.zero_le _)
set_option maxRecDepth 100000 in
set_option maxHeartbeats 4000000 in
theorem lm_digK (I : IntM) (J : LngM) (h : Int64) (Q : Option Value → IntM → LngM → Prop) (hq : VP m_X11_digest 3 214 [(0, .ref 146), (1, .long (kpF I h 3))] [] I J Q) : VP m_X11_digest 3 189 [(0, .ref 146), (1, .long h), (3, .int 0)] [] I J Q := by
  have key : ∀ i, i ≤ 3 → VP m_X11_digest 3 189 [(0, .ref 146), (1, .long (kpF I h i)), (3, .int (nI i))] [] I J Q := by
    refine down 3 ?_ (fun i hi ih => ?_)
    · refine V_il i_X11_digest_189 rfl ?_
      refine V_c i_X11_digest_190 ?_
      refine V_ic_ge_t i_X11_digest_191 (Int32.le_refl _) ?_
      exact V_L (L' := [(0, _), (1, _)]) ⟨rfl, rfl, trivial⟩ hq
    · refine V_il i_X11_digest_189 rfl ?_
      refine V_c i_X11_digest_190 ?_
      refine V_ic_ge_f i_X11_digest_191 (nI_ge (show i < 3 by omega) (by decide)) ?_
      refine V_cl i_X11_digest_194 ?_
      refine V_ll i_X11_digest_197 rfl ?_
      refine V_lmul i_X11_digest_198 ?_
      refine V_al i_X11_digest_199 rfl ?_
      refine V_getR i_X11_digest_200 rfl rfl ?_
      refine V_il i_X11_digest_203 rfl ?_
      refine K_iald i i_X11_digest_204 rfl rfl hi (by omega) ?_
      refine V_i2l i_X11_digest_205 ?_
      refine V_ladd i_X11_digest_206 ?_
      refine V_ls (L' := [(0, _), (1, _), (3, _)]) i_X11_digest_207 (by decide) ⟨rfl, rfl, rfl, trivial⟩ ?_
      refine V_iinc (L' := [(0, _), (1, _), (3, _)]) (n' := 1) i_X11_digest_208 (by decide) rfl (by decide) ⟨rfl, rfl, rfl, trivial⟩ ?_
      refine V_goto i_X11_digest_211 ?_
      refine V_L (L' := [(0, _), (1, _), (3, _)]) ⟨rfl, rfl, rfl, trivial⟩ ?_
      rw [show nI i + 1 = nI (i + 1) from nI_1 i]
      exact ih
  exact key 0 (Nat.zero_le _)
set_option maxRecDepth 100000 in
set_option maxHeartbeats 4000000 in
theorem lm_digIR (I : IntM) (J : LngM) {r s : Nat} (hr : r < 6) (hs6 : s ≤ 60) (hs : I 148 r = nI s) (h : Int64) (Q : Option Value → IntM → LngM → Prop) (hq : VP m_X11_digest 3 276 [(0, .ref 146), (1, .long (digF (fun k => I 149 (60 * r + k)) s h)), (3, .int (nI r))] [] I J Q) : VP m_X11_digest 3 239 [(0, .ref 146), (1, .long h), (3, .int (nI r)), (4, .int 0)] [] I J Q := by
  have key : ∀ i, i ≤ s → VP m_X11_digest 3 239 [(0, .ref 146), (1, .long (digF (fun k => I 149 (60 * r + k)) i h)), (3, .int (nI r)), (4, .int (nI i))] [] I J Q := by
    refine down s ?_ (fun i hi ih => ?_)
    · refine V_il i_X11_digest_239 rfl ?_
      refine V_al i_X11_digest_241 rfl ?_
      refine V_getR i_X11_digest_242 rfl rfl ?_
      refine V_il i_X11_digest_245 rfl ?_
      refine K_iald r i_X11_digest_246 rfl rfl hr (by omega) ?_
      refine V_ic_ge_t i_X11_digest_247 (by rw [hs]; exact Int32.le_refl _) ?_
      exact V_L (L' := [(0, _), (1, _), (3, _)]) ⟨rfl, rfl, rfl, trivial⟩ hq
    · refine V_il i_X11_digest_239 rfl ?_
      refine V_al i_X11_digest_241 rfl ?_
      refine V_getR i_X11_digest_242 rfl rfl ?_
      refine V_il i_X11_digest_245 rfl ?_
      refine K_iald r i_X11_digest_246 rfl rfl hr (by omega) ?_
      refine V_ic_ge_f i_X11_digest_247 (by rw [hs]; exact nI_ge hi (by omega)) ?_
      refine V_cl i_X11_digest_250 ?_
      refine V_ll i_X11_digest_253 rfl ?_
      refine V_lmul i_X11_digest_254 ?_
      refine V_al i_X11_digest_255 rfl ?_
      refine V_getR i_X11_digest_256 rfl rfl ?_
      refine V_c i_X11_digest_259 ?_
      refine V_il i_X11_digest_261 rfl ?_
      refine V_imul i_X11_digest_262 ?_
      refine V_il i_X11_digest_263 rfl ?_
      refine V_iadd i_X11_digest_265 ?_
      refine K_iald (60 * r + i) i_X11_digest_266 rfl (by rw [show (60 : Int32) = nI 60 from rfl, nI_mul, nI_add]) (by omega) (by omega) ?_
      refine V_i2l i_X11_digest_267 ?_
      refine V_ladd i_X11_digest_268 ?_
      refine V_ls (L' := [(0, _), (1, _), (3, _), (4, _)]) i_X11_digest_269 (by decide) ⟨rfl, rfl, rfl, rfl, trivial⟩ ?_
      refine V_iinc (L' := [(0, _), (1, _), (3, _), (4, _)]) (n' := 1) i_X11_digest_270 (by decide) rfl (by decide) ⟨rfl, rfl, rfl, rfl, trivial⟩ ?_
      refine V_goto i_X11_digest_273 ?_
      refine V_L (L' := [(0, _), (1, _), (3, _), (4, _)]) ⟨rfl, rfl, rfl, rfl, trivial⟩ ?_
      rw [show nI i + 1 = nI (i + 1) from nI_1 i]
      exact ih
  exact key 0 (Nat.zero_le _)
set_option maxRecDepth 100000 in
set_option maxHeartbeats 4000000 in
theorem lm_digR (I : IntM) (J : LngM) (hR : RoI I 111 148 149 6) (h : Int64) (Q : Option Value → IntM → LngM → Prop) (hq : VP m_X11_digest 3 282 [(0, .ref 146), (1, .long (rwF I 148 149 h 6))] [] I J Q) : VP m_X11_digest 3 216 [(0, .ref 146), (1, .long h), (3, .int 0)] [] I J Q := by
  have key : ∀ i, i ≤ 6 → VP m_X11_digest 3 216 [(0, .ref 146), (1, .long (rwF I 148 149 h i)), (3, .int (nI i))] [] I J Q := by
    refine down 6 ?_ (fun i hi ih => ?_)
    · refine V_il i_X11_digest_216 rfl ?_
      refine V_c i_X11_digest_217 ?_
      refine V_ic_ge_t i_X11_digest_219 (Int32.le_refl _) ?_
      exact V_L (L' := [(0, _), (1, _)]) ⟨rfl, rfl, trivial⟩ hq
    · refine V_il i_X11_digest_216 rfl ?_
      refine V_c i_X11_digest_217 ?_
      refine V_ic_ge_f i_X11_digest_219 (nI_ge (show i < 6 by omega) (by decide)) ?_
      refine V_cl i_X11_digest_222 ?_
      refine V_ll i_X11_digest_225 rfl ?_
      refine V_lmul i_X11_digest_226 ?_
      refine V_al i_X11_digest_227 rfl ?_
      refine V_getR i_X11_digest_228 rfl rfl ?_
      refine V_il i_X11_digest_231 rfl ?_
      refine K_iald i i_X11_digest_232 rfl rfl hi (by omega) ?_
      refine V_i2l i_X11_digest_233 ?_
      refine V_ladd i_X11_digest_234 ?_
      refine V_ls (L' := [(0, _), (1, _), (3, _)]) i_X11_digest_235 (by decide) ⟨rfl, rfl, rfl, trivial⟩ ?_
      refine V_c i_X11_digest_236 ?_
      refine V_is (L' := [(0, _), (1, _), (3, _), (4, _)]) i_X11_digest_237 (by decide) ⟨rfl, rfl, rfl, rfl, trivial⟩ ?_
      refine V_L (L' := [(0, _), (1, _), (3, _), (4, _)]) ⟨rfl, rfl, rfl, rfl, trivial⟩ ?_
      rcases ro_size hR hi with ⟨-, hs⟩ | ⟨s, hs6, -, hs, -⟩
      · refine V_il i_X11_digest_239 rfl ?_
        refine V_al i_X11_digest_241 rfl ?_
        refine V_getR i_X11_digest_242 rfl rfl ?_
        refine V_il i_X11_digest_245 rfl ?_
        refine K_iald i i_X11_digest_246 rfl rfl hi (by omega) ?_
        refine V_ic_ge_t i_X11_digest_247 (by rw [hs]; decide) ?_
        have ih2 := ih
        rw [show rwF I 148 149 h (i + 1) = 31 * rwF I 148 149 h i + (I 148 i).toInt64 from by show rsF I 148 149 i _ = _; unfold rsF; rw [hs]; rfl] at ih2
        refine V_iinc (L' := [(0, _), (1, _), (3, _)]) (n' := 1) i_X11_digest_276 (by decide) rfl (by decide) ⟨rfl, rfl, rfl, trivial⟩ ?_
        refine V_goto i_X11_digest_279 ?_
        refine V_L (L' := [(0, _), (1, _), (3, _)]) ⟨rfl, rfl, rfl, trivial⟩ ?_
        rw [show nI i + 1 = nI (i + 1) from nI_1 i]
        exact ih2
      · refine lm_digIR I J hi hs6 hs _ _ ?_
        have ih2 := ih
        rw [show rwF I 148 149 h (i + 1) = digF (fun k => I 149 (60 * i + k)) s (31 * rwF I 148 149 h i + (I 148 i).toInt64) from by show rsF I 148 149 i _ = _; unfold rsF; rw [hs, nI_clamp (by omega)]] at ih2
        refine V_iinc (L' := [(0, _), (1, _), (3, _)]) (n' := 1) i_X11_digest_276 (by decide) rfl (by decide) ⟨rfl, rfl, rfl, trivial⟩ ?_
        refine V_goto i_X11_digest_279 ?_
        refine V_L (L' := [(0, _), (1, _), (3, _)]) ⟨rfl, rfl, rfl, trivial⟩ ?_
        rw [show nI i + 1 = nI (i + 1) from nI_1 i]
        exact ih2
  exact key 0 (Nat.zero_le _)
set_option maxRecDepth 100000 in
set_option maxHeartbeats 4000000 in
theorem lm_digIT (I : IntM) (J : LngM) {r s : Nat} (hr : r < 4) (hs6 : s ≤ 60) (hs : I 150 r = nI s) (h : Int64) (Q : Option Value → IntM → LngM → Prop) (hq : VP m_X11_digest 3 343 [(0, .ref 146), (1, .long (digF (fun k => I 151 (60 * r + k)) s h)), (3, .int (nI r))] [] I J Q) : VP m_X11_digest 3 306 [(0, .ref 146), (1, .long h), (3, .int (nI r)), (4, .int 0)] [] I J Q := by
  have key : ∀ i, i ≤ s → VP m_X11_digest 3 306 [(0, .ref 146), (1, .long (digF (fun k => I 151 (60 * r + k)) i h)), (3, .int (nI r)), (4, .int (nI i))] [] I J Q := by
    refine down s ?_ (fun i hi ih => ?_)
    · refine V_il i_X11_digest_306 rfl ?_
      refine V_al i_X11_digest_308 rfl ?_
      refine V_getR i_X11_digest_309 rfl rfl ?_
      refine V_il i_X11_digest_312 rfl ?_
      refine K_iald r i_X11_digest_313 rfl rfl hr (by omega) ?_
      refine V_ic_ge_t i_X11_digest_314 (by rw [hs]; exact Int32.le_refl _) ?_
      exact V_L (L' := [(0, _), (1, _), (3, _)]) ⟨rfl, rfl, rfl, trivial⟩ hq
    · refine V_il i_X11_digest_306 rfl ?_
      refine V_al i_X11_digest_308 rfl ?_
      refine V_getR i_X11_digest_309 rfl rfl ?_
      refine V_il i_X11_digest_312 rfl ?_
      refine K_iald r i_X11_digest_313 rfl rfl hr (by omega) ?_
      refine V_ic_ge_f i_X11_digest_314 (by rw [hs]; exact nI_ge hi (by omega)) ?_
      refine V_cl i_X11_digest_317 ?_
      refine V_ll i_X11_digest_320 rfl ?_
      refine V_lmul i_X11_digest_321 ?_
      refine V_al i_X11_digest_322 rfl ?_
      refine V_getR i_X11_digest_323 rfl rfl ?_
      refine V_c i_X11_digest_326 ?_
      refine V_il i_X11_digest_328 rfl ?_
      refine V_imul i_X11_digest_329 ?_
      refine V_il i_X11_digest_330 rfl ?_
      refine V_iadd i_X11_digest_332 ?_
      refine K_iald (60 * r + i) i_X11_digest_333 rfl (by rw [show (60 : Int32) = nI 60 from rfl, nI_mul, nI_add]) (by omega) (by omega) ?_
      refine V_i2l i_X11_digest_334 ?_
      refine V_ladd i_X11_digest_335 ?_
      refine V_ls (L' := [(0, _), (1, _), (3, _), (4, _)]) i_X11_digest_336 (by decide) ⟨rfl, rfl, rfl, rfl, trivial⟩ ?_
      refine V_iinc (L' := [(0, _), (1, _), (3, _), (4, _)]) (n' := 1) i_X11_digest_337 (by decide) rfl (by decide) ⟨rfl, rfl, rfl, rfl, trivial⟩ ?_
      refine V_goto i_X11_digest_340 ?_
      refine V_L (L' := [(0, _), (1, _), (3, _), (4, _)]) ⟨rfl, rfl, rfl, rfl, trivial⟩ ?_
      rw [show nI i + 1 = nI (i + 1) from nI_1 i]
      exact ih
  exact key 0 (Nat.zero_le _)
set_option maxRecDepth 100000 in
set_option maxHeartbeats 4000000 in
theorem lm_digT (I : IntM) (J : LngM) (hR : RoI I 123 150 151 4) (h : Int64) (Q : Option Value → IntM → LngM → Prop) (hq : Q (some (.long (rwF I 150 151 h 4))) I J) : VP m_X11_digest 3 284 [(0, .ref 146), (1, .long h), (3, .int 0)] [] I J Q := by
  have key : ∀ i, i ≤ 4 → VP m_X11_digest 3 284 [(0, .ref 146), (1, .long (rwF I 150 151 h i)), (3, .int (nI i))] [] I J Q := by
    refine down 4 ?_ (fun i hi ih => ?_)
    · refine V_il i_X11_digest_284 rfl ?_
      refine V_c i_X11_digest_285 ?_
      refine V_ic_ge_t i_X11_digest_286 (Int32.le_refl _) ?_
      refine V_ll i_X11_digest_349 rfl ?_
      exact P_lret i_X11_digest_350 rfl hq
    · refine V_il i_X11_digest_284 rfl ?_
      refine V_c i_X11_digest_285 ?_
      refine V_ic_ge_f i_X11_digest_286 (nI_ge (show i < 4 by omega) (by decide)) ?_
      refine V_cl i_X11_digest_289 ?_
      refine V_ll i_X11_digest_292 rfl ?_
      refine V_lmul i_X11_digest_293 ?_
      refine V_al i_X11_digest_294 rfl ?_
      refine V_getR i_X11_digest_295 rfl rfl ?_
      refine V_il i_X11_digest_298 rfl ?_
      refine K_iald i i_X11_digest_299 rfl rfl hi (by omega) ?_
      refine V_i2l i_X11_digest_300 ?_
      refine V_ladd i_X11_digest_301 ?_
      refine V_ls (L' := [(0, _), (1, _), (3, _)]) i_X11_digest_302 (by decide) ⟨rfl, rfl, rfl, trivial⟩ ?_
      refine V_c i_X11_digest_303 ?_
      refine V_is (L' := [(0, _), (1, _), (3, _), (4, _)]) i_X11_digest_304 (by decide) ⟨rfl, rfl, rfl, rfl, trivial⟩ ?_
      refine V_L (L' := [(0, _), (1, _), (3, _), (4, _)]) ⟨rfl, rfl, rfl, rfl, trivial⟩ ?_
      rcases ro_size hR hi with ⟨-, hs⟩ | ⟨s, hs6, -, hs, -⟩
      · refine V_il i_X11_digest_306 rfl ?_
        refine V_al i_X11_digest_308 rfl ?_
        refine V_getR i_X11_digest_309 rfl rfl ?_
        refine V_il i_X11_digest_312 rfl ?_
        refine K_iald i i_X11_digest_313 rfl rfl hi (by omega) ?_
        refine V_ic_ge_t i_X11_digest_314 (by rw [hs]; decide) ?_
        have ih2 := ih
        rw [show rwF I 150 151 h (i + 1) = 31 * rwF I 150 151 h i + (I 150 i).toInt64 from by show rsF I 150 151 i _ = _; unfold rsF; rw [hs]; rfl] at ih2
        refine V_iinc (L' := [(0, _), (1, _), (3, _)]) (n' := 1) i_X11_digest_343 (by decide) rfl (by decide) ⟨rfl, rfl, rfl, trivial⟩ ?_
        refine V_goto i_X11_digest_346 ?_
        refine V_L (L' := [(0, _), (1, _), (3, _)]) ⟨rfl, rfl, rfl, trivial⟩ ?_
        rw [show nI i + 1 = nI (i + 1) from nI_1 i]
        exact ih2
      · refine lm_digIT I J hi hs6 hs _ _ ?_
        have ih2 := ih
        rw [show rwF I 150 151 h (i + 1) = digF (fun k => I 151 (60 * i + k)) s (31 * rwF I 150 151 h i + (I 150 i).toInt64) from by show rsF I 150 151 i _ = _; unfold rsF; rw [hs, nI_clamp (by omega)]] at ih2
        refine V_iinc (L' := [(0, _), (1, _), (3, _)]) (n' := 1) i_X11_digest_343 (by decide) rfl (by decide) ⟨rfl, rfl, rfl, trivial⟩ ?_
        refine V_goto i_X11_digest_346 ?_
        refine V_L (L' := [(0, _), (1, _), (3, _)]) ⟨rfl, rfl, rfl, trivial⟩ ?_
        rw [show nI i + 1 = nI (i + 1) from nI_1 i]
        exact ih2
  exact key 0 (Nat.zero_le _)
set_option maxRecDepth 100000 in
set_option maxHeartbeats 4000000 in
theorem m_digest (I : IntM) (J : LngM) {n : Nat} {kd nd od : Nat → Nat} {lw pot : Nat} (hK : MK I n kd nd od lw pot) (hRo : RoI I 111 148 149 6) (hTe : RoI I 123 150 151 4) {e how gr : Nat} {ln te : Nat → Nat} (hE : EvOK n how e ln gr te) (hV : EvM I J n how e ln gr te) : CtV 3 m_X11_digest [.ref 146] I J (.long (dgV I n e kd nd od lw pot how gr ln te)) I J := by
  refine CtV_of (by decide) rfl (Nat.le_of_ble_eq_true rfl) ?_
  obtain ⟨hh, hen, hPm, hgr, h24, hte⟩ := id hE
  obtain ⟨v1, v2, v3, v4, v5⟩ := id hV
  refine V_cl i_X11_digest_0 ?_
  refine V_ls (L' := [(0, _), (1, _)]) i_X11_digest_3 (by decide) ⟨rfl, rfl, trivial⟩ ?_
  refine V_c i_X11_digest_4 ?_
  refine V_is (L' := [(0, _), (1, _), (3, _)]) i_X11_digest_5 (by decide) ⟨rfl, rfl, rfl, trivial⟩ ?_
  refine V_L (L' := [(0, _), (1, _), (3, _)]) ⟨rfl, rfl, rfl, trivial⟩ ?_
  refine lm_digW I J hK v2 _ _ ?_
  refine V_cl i_X11_digest_31 ?_
  refine V_cl i_X11_digest_34 ?_
  refine V_ll i_X11_digest_37 rfl ?_
  refine V_lmul i_X11_digest_38 ?_
  refine V_al i_X11_digest_39 rfl ?_
  refine V_getI i_X11_digest_40 rfl ?_
  rw [hK.pt]
  refine V_i2l i_X11_digest_43 ?_
  refine V_ladd i_X11_digest_44 ?_
  refine V_lmul i_X11_digest_45 ?_
  refine V_al i_X11_digest_46 rfl ?_
  refine V_getI i_X11_digest_47 rfl ?_
  rw [hK.lw]
  refine V_i2l i_X11_digest_50 ?_
  refine V_ladd i_X11_digest_51 ?_
  refine V_ls (L' := [(0, _), (1, _)]) i_X11_digest_52 (by decide) ⟨rfl, rfl, trivial⟩ ?_
  refine V_c i_X11_digest_53 ?_
  refine V_is (L' := [(0, _), (1, _), (3, _)]) i_X11_digest_54 (by decide) ⟨rfl, rfl, rfl, trivial⟩ ?_
  refine V_L (L' := [(0, _), (1, _), (3, _)]) ⟨rfl, rfl, rfl, trivial⟩ ?_
  refine lm_digA I J hK _ _ ?_
  refine V_cl i_X11_digest_99 ?_
  refine V_cl i_X11_digest_102 ?_
  refine V_cl i_X11_digest_105 ?_
  refine V_ll i_X11_digest_108 rfl ?_
  refine V_lmul i_X11_digest_109 ?_
  refine V_al i_X11_digest_110 rfl ?_
  refine V_getI i_X11_digest_111 rfl ?_
  rw [v1]
  refine V_i2l i_X11_digest_114 ?_
  refine V_ladd i_X11_digest_115 ?_
  refine V_lmul i_X11_digest_116 ?_
  refine V_al i_X11_digest_117 rfl ?_
  refine V_getJ i_X11_digest_118 rfl ?_
  rw [v3.1]
  refine V_ladd i_X11_digest_121 ?_
  refine V_lmul i_X11_digest_122 ?_
  refine V_al i_X11_digest_123 rfl ?_
  refine V_getJ i_X11_digest_124 rfl ?_
  rw [v3.2]
  refine V_ladd i_X11_digest_127 ?_
  refine V_ls (L' := [(0, _), (1, _)]) i_X11_digest_128 (by decide) ⟨rfl, rfl, trivial⟩ ?_
  refine V_c i_X11_digest_129 ?_
  refine V_is (L' := [(0, _), (1, _), (3, _)]) i_X11_digest_130 (by decide) ⟨rfl, rfl, rfl, trivial⟩ ?_
  refine V_L (L' := [(0, _), (1, _), (3, _)]) ⟨rfl, rfl, rfl, trivial⟩ ?_
  refine lm_digE I J hK.n7 hE hV _ _ ?_
  refine V_c i_X11_digest_187 ?_
  refine V_is (L' := [(0, _), (1, _), (3, _)]) i_X11_digest_188 (by decide) ⟨rfl, rfl, rfl, trivial⟩ ?_
  refine V_L (L' := [(0, _), (1, _), (3, _)]) ⟨rfl, rfl, rfl, trivial⟩ ?_
  refine lm_digK I J _ _ ?_
  refine V_c i_X11_digest_214 ?_
  refine V_is (L' := [(0, _), (1, _), (3, _)]) i_X11_digest_215 (by decide) ⟨rfl, rfl, rfl, trivial⟩ ?_
  refine V_L (L' := [(0, _), (1, _), (3, _)]) ⟨rfl, rfl, rfl, trivial⟩ ?_
  refine lm_digR I J hRo _ _ ?_
  refine V_c i_X11_digest_282 ?_
  refine V_is (L' := [(0, _), (1, _), (3, _)]) i_X11_digest_283 (by decide) ⟨rfl, rfl, rfl, trivial⟩ ?_
  refine V_L (L' := [(0, _), (1, _), (3, _)]) ⟨rfl, rfl, rfl, trivial⟩ ?_
  exact lm_digT I J hTe _ _ ⟨rfl, rfl, rfl⟩
theorem p_digest {I : IntM} {J : LngM} (h : Inv I J) : Pair 7 m_X10_digest [.ref 0] 3 m_X11_digest [.ref 146] I J := by
  obtain ⟨n, kd, nd, od, lw, pot, hP, hK, hM⟩ := h.K
  obtain ⟨hR, hT⟩ := hP.ro
  obtain ⟨how, e, ln, gr, te, hE, hC, hV⟩ := hP.2.1
  exact Pair.m (c_digest I J hK hP.2.2.2.2.2.2.2.2 hP.2.2.1 hR hT hE hC) (m_digest I J (hM I (fun _ _ _ => rfl)) hR hT hE hV) h

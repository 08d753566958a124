
/-! ===== the Reader: letters, blanks, figures ===== -/
theorem w_let : (Jvm.Cond.fieldLink "ThirdLeft$Reader" (61 : Nat) "ThirdLeft$Reader" "LETTERS" "[C") ∈ gtb := gt_2 219 (by decide +kernel) (by decide +kernel)
theorem dk_3 : decode cX6_kindBy 3 = .ok (.getstatic 61, 3) := by decide +kernel
theorem dk_6 : decode cX6_kindBy 6 = .ok (.arraylength, 1) := by decide +kernel
theorem dk_10 : decode cX6_kindBy 10 = .ok (.getstatic 61, 3) := by decide +kernel
theorem dk_13 : decode cX6_kindBy 13 = .ok (.iload_n 1, 1) := by decide +kernel
theorem dk_14 : decode cX6_kindBy 14 = .ok (.caload, 1) := by decide +kernel
section
variable {d u1 u2 mc ms : Nat} {L : List (Nat × Value)} {S : List Value} {sh : List Shp} {R : RefM} {I : IntM} {J : LngM} {Q : PostV}
theorem V_letN (k : V m_X6_kindBy d u1 u2 mc ms 7 L (.int 6 :: S) sh R I J Q) : V m_X6_kindBy d u1 u2 mc ms 3 L S sh R I J Q := by
  intro p l e Rm s mid args below meth c H locs ls b D cA F hz hw hS hl
  obtain ⟨t, hZ, hT⟩ := F.lt
  exact va_gets F.x F.cc hZ hS F.o (F.t _ w_let) (fun _ h => h) dk_3 (va_tlen (v := 6) F.x F.cc hT hS rfl dk_6 (k p l e Rm s mid args below meth c H locs ls b D cA F hz hw hS hl))
theorem V_letG {i : Nat} (hi : i < 6) (hk : lkL L 1 = some (.int (nI i))) (k : V m_X6_kindBy d u1 u2 mc ms 15 L (.int (ltr i) :: S) sh R I J Q) : V m_X6_kindBy d u1 u2 mc ms 10 L S sh R I J Q := by
  intro p l e Rm s mid args below meth c H locs ls b D cA F hz hw hS hl
  obtain ⟨t, hZ, hT⟩ := F.lt
  exact va_gets F.x F.cc hZ hS F.o (F.t _ w_let) (fun _ h => h) dk_10 (lv_iload_n F.x F.cc dk_13 rfl (lk_at hl hk) (va_tc F.x F.cc hT hS (i := nI i) (vp_in_nI hi (by omega)) (v := .int (ltr i)) (by rw [nI_clamp (by omega)]) dk_14 (k p l e Rm s mid args below meth c H locs ls b D cA F hz hw hS hl)))
end
set_option maxRecDepth 100000 in
set_option maxHeartbeats 4000000 in
theorem c_kb (I : IntM) (J : LngM) (c : Int32) : CtV 1 m_X6_kindBy [.int c] I J (.int (kvI (-1) (kdN c))) I J := by
  refine CtV_of (by decide) rfl (Nat.le_of_ble_eq_true rfl) ?_
  refine V_c i_X6_kindBy_0 ?_
  refine V_is (L' := [(0, _), (1, _)]) i_X6_kindBy_1 (by decide) ⟨rfl, rfl, trivial⟩ ?_
  have key : ∀ i, i ≤ 6 → (∀ j, j < i → ¬ ltr j = c) → VP m_X6_kindBy 1 2 [(0, .int c), (1, .int (nI i))] [] I J (fun r I2 J2 => r = some (.int (kvI (-1) (kdN c))) ∧ I2 = I ∧ J2 = J) := by
    refine down 6 ?_ (fun i hi ih => ?_)
    · intro hno
      refine V_il i_X6_kindBy_2 rfl ?_
      refine V_letN ?_
      refine V_ic_ge_t i_X6_kindBy_7 (Int32.le_refl _) ?_
      refine V_c i_X6_kindBy_27 ?_
      exact P_iret i_X6_kindBy_28 rfl ⟨by rw [kdN_no hno]; rfl, rfl, rfl⟩
    · intro hno
      refine V_il i_X6_kindBy_2 rfl ?_
      refine V_letN ?_
      refine V_ic_ge_f i_X6_kindBy_7 (nI_ge (b := 6) hi (by decide)) ?_
      refine V_letG hi rfl ?_
      refine V_il i_X6_kindBy_15 rfl ?_
      refine V_ic_ne i_X6_kindBy_16 (fun c16 => ?_) (fun c16 => ?_)
      · refine V_iinc (L' := [(0, _), (1, _)]) (n' := 1) i_X6_kindBy_21 (by decide) rfl (by decide) ⟨rfl, rfl, trivial⟩ ?_
        refine V_goto i_X6_kindBy_24 ?_
        refine V_L (L' := [(0, _), (1, _)]) ⟨rfl, rfl, trivial⟩ ?_
        rw [show nI i + 1 = nI (i + 1) from nI_1 i]
        exact ih (fun j hj => by
          by_cases e : j = i
          · rw [e]; exact c16
          · exact hno j (by omega))
      · refine V_il i_X6_kindBy_19 rfl ?_
        exact P_iret i_X6_kindBy_20 rfl ⟨by rw [← c16, kdN_lt i hi]; rfl, rfl, rfl⟩
  exact key 0 (Nat.zero_le _) (fun j hj => absurd hj (Nat.not_lt_zero j))
def gvN (v : Nat → Int32) (s a : Nat) : Int32 := if a < s then v a else 0
theorem c_getv (I : IntM) (J : LngM) {x s a : Nat} (hL : LI x 60) (hs : s ≤ 60) (hz : I x 1 = nI s) (ha : a ≤ 1000) : CtV 2 m_X3_get [.ref x, .int (nI a)] I J (.int (gvN (I (x + 1)) s a)) I J := by
  have h := c_I_get I J hL (nI a)
  unfold gvN
  by_cases c : a < s
  · rw [gI_in hz c hs (by decide)] at h
    rw [if_pos c]
    exact h
  · rw [gI_out hz (by omega) ha] at h
    rw [if_neg c]
    exact h
theorem gv_dg {v : Nat → Int32} {s a : Nat} : (¬ gvN v s a < 48 ∧ ¬ 57 < gvN v s a) ↔ dgP v s a := by
  unfold gvN dgP
  by_cases c : a < s
  · rw [if_pos c]
    exact ⟨fun h => ⟨c, h⟩, fun h => h.2⟩
  · rw [if_neg c]
    exact ⟨fun h => absurd (by decide) h.1, fun h => absurd h.1 c⟩
theorem gv_is {v : Nat → Int32} {s a : Nat} {c : Int32} (hc : ¬ c = 0) : gvN v s a = c ↔ (a < s ∧ v a = c) := by
  unfold gvN
  by_cases h : a < s
  · rw [if_pos h]
    exact ⟨fun z => ⟨h, z⟩, fun z => z.2⟩
  · rw [if_neg h]
    exact ⟨fun z => absurd z.symm hc, fun z => absurd z.1 h⟩

set_option maxRecDepth 100000 in
set_option maxHeartbeats 4000000 in
theorem lp_bb (I : IntM) (J : LngM) {x s : Nat} (hL : LI x 60) (hs : s ≤ 60) (hz : I x 1 = nI s) (Q : Option Value → IntM → LngM → Prop) : ∀ k a, s - a = k → Q (some (.int (nI (blN (I (x + 1)) k a)))) I J → a ≤ 200 → VP m_X6_behindBlanks 3 2 [(0, .ref x), (2, .int (nI a))] [] I J Q := by
  intro k
  induction k with
  | zero =>
    intro a hk hq ha
    refine V_il i_X6_behindBlanks_2 rfl ?_
    refine V_al i_X6_behindBlanks_3 rfl ?_
    refine P_callV0v i_X6_behindBlanks_4 mi_X3_size hL.1 ⟨_, _, rfl⟩ (by decide) (Nat.le_of_ble_eq_true rfl) (c_I_size _ _ hL) ?_
    rw [hz]
    refine V_ic_ge_t i_X6_behindBlanks_7 (nI_le (by omega) (by omega)) ?_
    refine V_il i_X6_behindBlanks_26 rfl ?_
    exact P_iret i_X6_behindBlanks_27 rfl hq
  | succ k ih =>
    intro a hk hq ha
    refine V_il i_X6_behindBlanks_2 rfl ?_
    refine V_al i_X6_behindBlanks_3 rfl ?_
    refine P_callV0v i_X6_behindBlanks_4 mi_X3_size hL.1 ⟨_, _, rfl⟩ (by decide) (Nat.le_of_ble_eq_true rfl) (c_I_size _ _ hL) ?_
    rw [hz]
    refine V_ic_ge_f i_X6_behindBlanks_7 (nI_ge (show a < s by omega) (by omega)) ?_
    refine V_al i_X6_behindBlanks_10 rfl ?_
    refine V_il i_X6_behindBlanks_11 rfl ?_
    refine P_callV1v i_X6_behindBlanks_12 mi_X3_get hL.1 ⟨_, _, rfl⟩ (by decide) (Nat.le_of_ble_eq_true rfl) (c_I_getN (n := 60) (s := s) (k := a) _ _ hL hz rfl (by omega) hs) ?_
    refine V_c i_X6_behindBlanks_15 ?_
    refine V_ic_ne i_X6_behindBlanks_17 (fun c17 => ?_) (fun c17 => ?_)
    · have e : blN (I (x + 1)) (k + 1) a = a := if_neg c17
      refine V_il i_X6_behindBlanks_26 rfl ?_
      exact P_iret i_X6_behindBlanks_27 rfl (by rw [e] at hq; exact hq)
    · have e : blN (I (x + 1)) (k + 1) a = blN (I (x + 1)) k (a + 1) := if_pos c17
      refine V_iinc (L' := [(0, _), (2, _)]) (n' := 1) i_X6_behindBlanks_20 (by decide) rfl (by decide) ⟨rfl, rfl, trivial⟩ ?_
      refine V_goto i_X6_behindBlanks_23 ?_
      refine V_L (L' := [(0, _), (2, _)]) ⟨rfl, rfl, trivial⟩ ?_
      rw [show nI a + 1 = nI (a + 1) from nI_1 a]
      rw [e] at hq
      exact ih (a + 1) (by omega) hq (by omega)
set_option maxRecDepth 100000 in
set_option maxHeartbeats 4000000 in
theorem c_bb (I : IntM) (J : LngM) {x s : Nat} (hL : LI x 60) (hs : s ≤ 60) (hz : I x 1 = nI s) {a : Nat} (ha : a ≤ 200) : CtV 3 m_X6_behindBlanks [.ref x, .int (nI a)] I J (.int (nI (BL (I (x + 1)) s a))) I J := by
  refine CtV_of (by decide) rfl (Nat.le_of_ble_eq_true rfl) ?_
  refine V_il i_X6_behindBlanks_0 rfl ?_
  refine V_is (L' := [(0, _), (2, _)]) i_X6_behindBlanks_1 (by decide) ⟨rfl, rfl, trivial⟩ ?_
  refine V_L (L' := [(0, _), (2, _)]) ⟨rfl, rfl, trivial⟩ ?_
  exact lp_bb I J hL hs hz _ (s - a) a rfl ⟨rfl, rfl, rfl⟩ ha
set_option maxRecDepth 100000 in
set_option maxHeartbeats 4000000 in
theorem lp_bf (I : IntM) (J : LngM) {x s : Nat} (hL : LI x 60) (hs : s ≤ 60) (hz : I x 1 = nI s) {a m : Nat} (ha : a ≤ 200) (hm : m ≤ 3) (Q : Option Value → IntM → LngM → Prop) : ∀ k p, p + k = a + m → Q (some (.int (nI (fgE (I (x + 1)) s k p)))) I J → VP m_X6_behindFigures 3 2 [(0, .ref x), (1, .int (nI a)), (2, .int (nI m)), (3, .int (nI p))] [] I J Q := by
  intro k
  induction k with
  | zero =>
    intro p hk hq
    refine V_il i_X6_behindFigures_2 rfl ?_
    refine V_il i_X6_behindFigures_3 rfl ?_
    refine V_il i_X6_behindFigures_4 rfl ?_
    refine V_iadd i_X6_behindFigures_5 ?_
    rw [nI_add]
    refine V_ic_ge_t i_X6_behindFigures_6 (nI_le (by omega) (by omega)) ?_
    refine V_il i_X6_behindFigures_35 rfl ?_
    exact P_iret i_X6_behindFigures_36 rfl hq
  | succ k ih =>
    intro p hk hq
    refine V_il i_X6_behindFigures_2 rfl ?_
    refine V_il i_X6_behindFigures_3 rfl ?_
    refine V_il i_X6_behindFigures_4 rfl ?_
    refine V_iadd i_X6_behindFigures_5 ?_
    rw [nI_add]
    refine V_ic_ge_f i_X6_behindFigures_6 (nI_ge (show p < a + m by omega) (by omega)) ?_
    refine V_al i_X6_behindFigures_9 rfl ?_
    refine V_il i_X6_behindFigures_10 rfl ?_
    refine P_callV1v i_X6_behindFigures_11 mi_X3_get hL.1 ⟨_, _, rfl⟩ (by decide) (Nat.le_of_ble_eq_true rfl) (c_getv _ _ hL hs hz (by omega)) ?_
    refine V_c i_X6_behindFigures_14 ?_
    refine V_ic_lt i_X6_behindFigures_16 (fun c16 => ?_) (fun c16 => ?_)
    · have e : fgE (I (x + 1)) s (k + 1) p = p := fgE_f (fun z => (gv_dg.mpr z).1 c16)
      refine V_il i_X6_behindFigures_35 rfl ?_
      exact P_iret i_X6_behindFigures_36 rfl (by rw [e] at hq; exact hq)
    · refine V_al i_X6_behindFigures_19 rfl ?_
      refine V_il i_X6_behindFigures_20 rfl ?_
      refine P_callV1v i_X6_behindFigures_21 mi_X3_get hL.1 ⟨_, _, rfl⟩ (by decide) (Nat.le_of_ble_eq_true rfl) (c_getv _ _ hL hs hz (by omega)) ?_
      refine V_c i_X6_behindFigures_24 ?_
      refine V_ic_gt i_X6_behindFigures_26 (fun c26 => ?_) (fun c26 => ?_)
      · have e : fgE (I (x + 1)) s (k + 1) p = p := fgE_f (fun z => (gv_dg.mpr z).2 c26)
        refine V_il i_X6_behindFigures_35 rfl ?_
        exact P_iret i_X6_behindFigures_36 rfl (by rw [e] at hq; exact hq)
      · have e : fgE (I (x + 1)) s (k + 1) p = fgE (I (x + 1)) s k (p + 1) := fgE_t (gv_dg.mp ⟨c16, c26⟩)
        refine V_iinc (L' := [(0, _), (1, _), (2, _), (3, _)]) (n' := 1) i_X6_behindFigures_29 (by decide) rfl (by decide) ⟨rfl, rfl, rfl, rfl, trivial⟩ ?_
        refine V_goto i_X6_behindFigures_32 ?_
        refine V_L (L' := [(0, _), (1, _), (2, _), (3, _)]) ⟨rfl, rfl, rfl, rfl, trivial⟩ ?_
        rw [show nI p + 1 = nI (p + 1) from nI_1 p]
        rw [e] at hq
        exact ih (p + 1) (by omega) hq
set_option maxRecDepth 100000 in
set_option maxHeartbeats 4000000 in
theorem c_bf (I : IntM) (J : LngM) {x s : Nat} (hL : LI x 60) (hs : s ≤ 60) (hz : I x 1 = nI s) {a m : Nat} (ha : a ≤ 200) (hm : m ≤ 3) : CtV 3 m_X6_behindFigures [.ref x, .int (nI a), .int (nI m)] I J (.int (nI (fgE (I (x + 1)) s m a))) I J := by
  refine CtV_of (by decide) rfl (Nat.le_of_ble_eq_true rfl) ?_
  refine V_il i_X6_behindFigures_0 rfl ?_
  refine V_is (L' := [(0, _), (1, _), (2, _), (3, _)]) i_X6_behindFigures_1 (by decide) ⟨rfl, rfl, rfl, rfl, trivial⟩ ?_
  refine V_L (L' := [(0, _), (1, _), (2, _), (3, _)]) ⟨rfl, rfl, rfl, rfl, trivial⟩ ?_
  exact lp_bf I J hL hs hz ha hm _ m a rfl ⟨rfl, rfl, rfl⟩
set_option maxRecDepth 100000 in
set_option maxHeartbeats 4000000 in
theorem lp_nu (I : IntM) (J : LngM) {x s : Nat} (hL : LI x 60) (hs : s ≤ 60) (hz : I x 1 = nI s) {a e : Nat} (hae : a ≤ e) (hes : e ≤ s) (Q : Option Value → IntM → LngM → Prop) (hq : Q (some (.int (nuI (I (x + 1)) a (e - a)))) I J) : VP m_X6_number 3 5 [(0, .ref x), (2, .int (nI e)), (3, .int 0), (4, .int (nI a))] [] I J Q := by
  have key : ∀ i, i ≤ e - a → VP m_X6_number 3 5 [(0, .ref x), (2, .int (nI e)), (3, .int (nuI (I (x + 1)) a i)), (4, .int (nI (a + i)))] [] I J Q := by
    refine down (e - a) ?_ (fun i hi ih => ?_)
    · refine V_il i_X6_number_5 rfl ?_
      refine V_il i_X6_number_7 rfl ?_
      refine V_ic_ge_t i_X6_number_8 (nI_le (by omega) (by omega)) ?_
      refine V_il i_X6_number_32 rfl ?_
      exact P_iret i_X6_number_33 rfl hq
    · refine V_il i_X6_number_5 rfl ?_
      refine V_il i_X6_number_7 rfl ?_
      refine V_ic_ge_f i_X6_number_8 (nI_ge (show a + i < e by omega) (by omega)) ?_
      refine V_c i_X6_number_11 ?_
      refine V_il i_X6_number_13 rfl ?_
      refine V_imul i_X6_number_14 ?_
      refine V_al i_X6_number_15 rfl ?_
      refine V_il i_X6_number_16 rfl ?_
      refine P_callV1v i_X6_number_18 mi_X3_get hL.1 ⟨_, _, rfl⟩ (by decide) (Nat.le_of_ble_eq_true rfl) (c_I_getN (n := 60) (s := s) (k := a + i) _ _ hL hz rfl (by omega) hs) ?_
      refine V_iadd i_X6_number_21 ?_
      refine V_c i_X6_number_22 ?_
      refine V_isub i_X6_number_24 ?_
      refine V_is (L' := [(0, _), (2, _), (3, _), (4, _)]) i_X6_number_25 (by decide) ⟨rfl, rfl, rfl, rfl, trivial⟩ ?_
      refine V_iinc (L' := [(0, _), (2, _), (3, _), (4, _)]) (n' := 1) i_X6_number_26 (by decide) rfl (by decide) ⟨rfl, rfl, rfl, rfl, trivial⟩ ?_
      refine V_goto i_X6_number_29 ?_
      refine V_L (L' := [(0, _), (2, _), (3, _), (4, _)]) ⟨rfl, rfl, rfl, rfl, trivial⟩ ?_
      rw [show nI (a + i) + 1 = nI (a + (i + 1)) from nI_1 _]
      exact ih
  exact key 0 (Nat.zero_le _)
set_option maxRecDepth 100000 in
set_option maxHeartbeats 4000000 in
theorem c_nu (I : IntM) (J : LngM) {x s : Nat} (hL : LI x 60) (hs : s ≤ 60) (hz : I x 1 = nI s) {a e : Nat} (hae : a ≤ e) (hes : e ≤ s) : CtV 3 m_X6_number [.ref x, .int (nI a), .int (nI e)] I J (.int (nuI (I (x + 1)) a (e - a))) I J := by
  refine CtV_of (by decide) rfl (Nat.le_of_ble_eq_true rfl) ?_
  refine V_c i_X6_number_0 ?_
  refine V_is (L' := [(0, _), (1, _), (2, _), (3, _)]) i_X6_number_1 (by decide) ⟨rfl, rfl, rfl, rfl, trivial⟩ ?_
  refine V_il i_X6_number_2 rfl ?_
  refine V_is (L' := [(0, _), (2, _), (3, _), (4, _)]) i_X6_number_3 (by decide) ⟨rfl, rfl, rfl, rfl, trivial⟩ ?_
  refine V_L (L' := [(0, _), (2, _), (3, _), (4, _)]) ⟨rfl, rfl, rfl, rfl, trivial⟩ ?_
  exact lp_nu I J hL hs hz hae hes _ ⟨rfl, rfl, rfl⟩

def RdF (I I1 : IntM) : Prop := ∀ x k, ¬ (x = 3 ∨ x = 5 ∨ x = 7) → I1 x k = I x k
def eaQ (I1 : IntM) (r : Option Value) (w : EaR) : Prop := match w with
  | .inl p => r = some (.int (nI p))
  | .inr q => r = some (.int (-1)) ∧ I1 3 2 = nI q.1 ∧ AtI I1 5 q.1 q.2.1 ∧ AtI I1 7 q.1 q.2.2
def RdE (I I1 : IntM) : Prop := ∀ x k, ¬ ((x = 3 ∧ k = 2) ∨ x = 5 ∨ x = 7) → I1 x k = I x k
theorem RdE.F {I I1 : IntM} (h : RdE I I1) : RdF I I1 := fun x k q => h x k (by omega)
theorem RdE.v {I I1 : IntM} {x : Nat} (hx : 111 ≤ x) (h : RdE I I1) : I1 (x + 1) = I (x + 1) := funext fun k => h _ _ (by omega)

set_option maxRecDepth 100000 in
set_option maxHeartbeats 4000000 in
theorem lp_re (I : IntM) (J : LngM) {x s : Nat} (hL : LI x 60) (hx : 111 ≤ x) (hs : s ≤ 60) (hz : I x 1 = nI s) (z4 : I 4 1 = nI 7) (z6 : I 6 1 = nI 7) (Q : Option Value → IntM → LngM → Prop) : ∀ k a m kd nd, k + m = 8 → a ≤ s → m ≤ 7 → (∀ r I1, RdE I I1 → eaQ I1 r (eaP (I (x + 1)) s k a m kd nd) → Q r I1 J) → ∀ I1, RdE I I1 → I1 3 2 = nI m → AtI I1 5 m kd → AtI I1 7 m nd → VP m_X6_readEaters 4 5 [(0, .ref 3), (1, .ref x), (3, .int (nI a)), (4, .int (nI m))] [] I1 J Q := by
  intro k
  induction k with
  | zero => intro a m kd nd h1 h2 h3; omega
  | succ k ih =>
    intro a m kd nd hkm ha hm hq I1 f1 m1 k1 n1
    have hz1 : I1 x 1 = nI s := (f1 _ _ (by omega)).trans hz
    have hv1 : I1 (x + 1) = I (x + 1) := RdE.v hx f1
    have hb := fgE_b (v := (I (x + 1))) (s := s) 2 (a + 1)
    refine V_il i_X6_readEaters_5 rfl ?_
    refine V_c i_X6_readEaters_7 ?_
    refine V_ic_gt_f i_X6_readEaters_9 (nI_nlt (show m ≤ 7 by omega) (by decide)) ?_
    refine V_al i_X6_readEaters_12 rfl ?_
    refine V_il i_X6_readEaters_13 rfl ?_
    refine P_callV1v i_X6_readEaters_14 mi_X3_has hL.1 ⟨_, _, rfl⟩ (by decide) (Nat.le_of_ble_eq_true rfl) (c_I_has _ _ hL _) ?_
    refine V_if_eq i_X6_readEaters_17 (fun c17 => ?_) (fun c17 => ?_)
    · have d1 : ¬ a < s := fun z => by
        rw [hasv_yes hz1 z hs (by decide)] at c17
        exact absurd c17 (by decide)
      refine V_L (L' := []) trivial ?_
      rw [ea_end d1] at hq
      refine V_c i_X6_readEaters_123 ?_
      exact P_iret i_X6_readEaters_124 rfl (hq _ I1 f1 ⟨rfl, m1, k1, n1⟩)
    · have d1 : a < s := by
        rcases Nat.lt_or_ge a s with z | z
        · exact z
        · exact absurd (hasv_no hz1 z (by omega)) c17
      refine V_al i_X6_readEaters_20 rfl ?_
      refine V_il i_X6_readEaters_21 rfl ?_
      refine P_callV1v i_X6_readEaters_22 mi_X3_get hL.1 ⟨_, _, rfl⟩ (by decide) (Nat.le_of_ble_eq_true rfl) (c_getv _ _ hL hs hz1 (by omega)) ?_
      rw [hv1, show gvN (I (x + 1)) s a = (I (x + 1)) a from if_pos d1]
      refine P_callS1v i_X6_readEaters_25 ms_X6_kindBy (by decide) (Nat.le_of_ble_eq_true rfl) (c_kb _ _ _) ?_
      refine V_is (L' := [(0, _), (1, _), (3, _), (4, _), (5, _)]) i_X6_readEaters_28 (by decide) ⟨rfl, rfl, rfl, rfl, rfl, trivial⟩ ?_
      refine V_il i_X6_readEaters_30 rfl ?_
      refine V_if_lt i_X6_readEaters_32 (fun c32 => ?_) (fun c32 => ?_)
      · have d2 : kdN ((I (x + 1)) a) = none := by
          cases hk : kdN ((I (x + 1)) a) with
          | none => rfl
          | some c =>
            rw [hk] at c32
            exact absurd c32 (nI_pos (by have := kdN_le hk; omega))
        rw [ea_no d1 d2] at hq
        refine V_il i_X6_readEaters_44 rfl ?_
        exact P_iret i_X6_readEaters_45 rfl (hq _ I1 f1 rfl)
      · obtain ⟨c, d2⟩ : ∃ c, kdN ((I (x + 1)) a) = some c := by
          cases hk : kdN ((I (x + 1)) a) with
          | none =>
            rw [hk] at c32
            exact absurd (by decide) c32
          | some c => exact ⟨c, rfl⟩
        have hc5 := kdN_le d2
        refine V_al i_X6_readEaters_35 rfl ?_
        refine V_getI i_X6_readEaters_36 rfl ?_
        refine V_c i_X6_readEaters_39 ?_
        rw [m1]
        refine V_ic_lt i_X6_readEaters_41 (fun c41 => ?_) (fun c41 => ?_)
        · have d3 : ¬ m = 7 := by
            have := (nI_ltI (a := m) (b := 7) (by omega) (by decide)).mp c41
            omega
          refine V_al i_X6_readEaters_46 rfl ?_
          refine V_il i_X6_readEaters_47 rfl ?_
          refine V_c i_X6_readEaters_48 ?_
          refine V_iadd i_X6_readEaters_49 ?_
          refine V_c i_X6_readEaters_50 ?_
          rw [nI_1]
          refine P_callS3v i_X6_readEaters_51 ms_X6_behindFigures (by decide) (Nat.le_of_ble_eq_true rfl) (c_bf I1 J hL hs hz1 (a := a + 1) (m := 2) (by omega) (by decide)) ?_
          rw [hv1]
          refine V_is (L' := [(0, _), (1, _), (3, _), (4, _), (5, _), (6, _)]) i_X6_readEaters_54 (by decide) ⟨rfl, rfl, rfl, rfl, rfl, rfl, trivial⟩ ?_
          refine V_il i_X6_readEaters_56 rfl ?_
          refine V_il i_X6_readEaters_58 rfl ?_
          refine V_c i_X6_readEaters_59 ?_
          refine V_iadd i_X6_readEaters_60 ?_
          rw [nI_1]
          refine V_ic_ne i_X6_readEaters_61 (fun c61 => ?_) (fun c61 => ?_)
          · have d4 : ¬ (fgE (I (x + 1)) s 2 (a + 1)) = a + 1 := fun z => c61 (congrArg nI z)
            refine V_al i_X6_readEaters_67 rfl ?_
            refine V_getR i_X6_readEaters_68 rfl rfl ?_
            refine V_al i_X6_readEaters_71 rfl ?_
            refine V_getI i_X6_readEaters_72 rfl ?_
            rw [m1, d2]
            refine V_il i_X6_readEaters_75 rfl ?_
            refine P_callV2u i_X6_readEaters_77 mi_X3_set rfl ⟨_, _, rfl⟩ (by decide) (Nat.le_of_ble_eq_true rfl) (c_I_setN _ _ (x := 4) (n := 7) (s := 7) (k := m) _ ⟨rfl, rfl, rfl, by decide⟩ (by rw [f1 _ _ (by decide)]; exact z4) rfl (by omega) (by decide)) ?_
            obtain ⟨I2, hI2⟩ : ∃ y, y = uI I1 (4 + 1) m (kvI (-1) (some c)) := ⟨_, rfl⟩
            rw [← hI2]
            have f2 : RdE I I2 := fun x k h => by rw [hI2, uI_nx (show x ≠ 4 + 1 by omega)]; exact f1 x k h
            have k2 : AtI I2 5 (m + 1) (upN kd m c) := fun k hk => by
              unfold upN
              by_cases e : k = m
              · rw [if_pos e, e, hI2, show (5 : Nat) = 4 + 1 from rfl, uI_eq]
                rfl
              · rw [if_neg e, hI2, uI_nk e]
                exact k1 k (by omega)
            have n2 : AtI I2 7 m nd := fun k hk => by rw [hI2, uI_nx (by decide)]; exact n1 k hk
            have m2 : I2 3 2 = nI m := by rw [hI2, uI_nx (by decide)]; exact m1
            have hv2 : I2 (x + 1) = I (x + 1) := RdE.v hx f2
            have hz2 : I2 x 1 = nI s := (f2 _ _ (by omega)).trans hz
            refine V_al i_X6_readEaters_80 rfl ?_
            refine V_getR i_X6_readEaters_81 rfl rfl ?_
            refine V_al i_X6_readEaters_84 rfl ?_
            refine V_getI i_X6_readEaters_85 rfl ?_
            rw [m2]
            refine V_al i_X6_readEaters_88 rfl ?_
            refine V_il i_X6_readEaters_89 rfl ?_
            refine V_c i_X6_readEaters_90 ?_
            refine V_iadd i_X6_readEaters_91 ?_
            refine V_il i_X6_readEaters_92 rfl ?_
            rw [nI_1]
            refine P_callS3v i_X6_readEaters_94 ms_X6_number (by decide) (Nat.le_of_ble_eq_true rfl) (c_nu I2 J hL hs hz2 hb.1 (hb.2.2.1 (by omega))) ?_
            rw [hv2, (nu_ok (v := (I (x + 1))) (s := s) (a := a + 1) ((fgE (I (x + 1)) s 2 (a + 1)) - (a + 1)) (fun i h1 h2 => hb.2.2.2 i h1 (by omega))).1]
            refine P_callV2u i_X6_readEaters_97 mi_X3_set rfl ⟨_, _, rfl⟩ (by decide) (Nat.le_of_ble_eq_true rfl) (c_I_setN _ _ (x := 6) (n := 7) (s := 7) (k := m) _ ⟨rfl, rfl, rfl, by decide⟩ (by rw [f2 _ _ (by decide)]; exact z6) rfl (by omega) (by decide)) ?_
            obtain ⟨I3, hI3⟩ : ∃ y, y = uI I2 (6 + 1) m (nI (nuN (I (x + 1)) (a + 1) ((fgE (I (x + 1)) s 2 (a + 1)) - (a + 1)))) := ⟨_, rfl⟩
            rw [← hI3]
            have f3 : RdE I I3 := fun x k h => by rw [hI3, uI_nx (show x ≠ 6 + 1 by omega)]; exact f2 x k h
            have k3 : AtI I3 5 (m + 1) (upN kd m c) := fun k hk => by rw [hI3, uI_nx (by decide)]; exact k2 k hk
            have n3 : AtI I3 7 (m + 1) (upN nd m (nuN (I (x + 1)) (a + 1) ((fgE (I (x + 1)) s 2 (a + 1)) - (a + 1)))) := fun k hk => by
              unfold upN
              by_cases e : k = m
              · rw [if_pos e, e, hI3, show (7 : Nat) = 6 + 1 from rfl, uI_eq]
              · rw [if_neg e, hI3, uI_nk e]
                exact n2 k (by omega)
            have m3 : I3 3 2 = nI m := by rw [hI3, uI_nx (by decide)]; exact m2
            refine V_al i_X6_readEaters_100 rfl ?_
            refine V_dup i_X6_readEaters_101 rfl ?_
            refine V_getI i_X6_readEaters_102 rfl ?_
            rw [m3]
            refine V_c i_X6_readEaters_105 ?_
            refine V_iadd i_X6_readEaters_106 ?_
            rw [nI_1]
            refine V_putI i_X6_readEaters_107 rfl ?_
            obtain ⟨I4, hI4⟩ : ∃ y, y = uI I3 3 2 (nI (m + 1)) := ⟨_, rfl⟩
            rw [← hI4]
            have f4 : RdE I I4 := fun x k h => by rw [hI4]; unfold uI; rw [if_neg (by omega)]; exact f3 x k h
            have k4 : AtI I4 5 (m + 1) (upN kd m c) := fun k hk => by rw [hI4, uI_nx (by decide)]; exact k3 k hk
            have n4 : AtI I4 7 (m + 1) (upN nd m (nuN (I (x + 1)) (a + 1) ((fgE (I (x + 1)) s 2 (a + 1)) - (a + 1)))) := fun k hk => by rw [hI4, uI_nx (by decide)]; exact n3 k hk
            have hv4 : I4 (x + 1) = I (x + 1) := RdE.v hx f4
            have hz4 : I4 x 1 = nI s := (f4 _ _ (by omega)).trans hz
            refine V_al i_X6_readEaters_110 rfl ?_
            refine V_il i_X6_readEaters_111 rfl ?_
            refine P_callS2v i_X6_readEaters_113 ms_X6_behindBlanks (by decide) (Nat.le_of_ble_eq_true rfl) (c_bb I4 J hL hs hz4 (a := (fgE (I (x + 1)) s 2 (a + 1))) (by have := hb.2.1; omega)) ?_
            rw [hv4]
            refine V_is (L' := [(0, _), (1, _), (3, _), (4, _)]) i_X6_readEaters_116 (by decide) ⟨rfl, rfl, rfl, rfl, trivial⟩ ?_
            refine V_iinc (L' := [(0, _), (1, _), (3, _), (4, _)]) (n' := 1) i_X6_readEaters_117 (by decide) rfl (by decide) ⟨rfl, rfl, rfl, rfl, trivial⟩ ?_
            refine V_goto i_X6_readEaters_120 ?_
            refine V_L (L' := [(0, _), (1, _), (3, _), (4, _)]) ⟨rfl, rfl, rfl, rfl, trivial⟩ ?_
            rw [show nI m + 1 = nI (m + 1) from nI_1 m]
            rw [ea_go d1 d2 d3 d4] at hq
            exact ih _ (m + 1) _ _ (by omega) (BL_b (hb.2.2.1 (by omega))).2 (by omega) hq I4 f4 (by rw [hI4, uI_eq]) k4 n4
          · have d4 : (fgE (I (x + 1)) s 2 (a + 1)) = a + 1 := (nI_eq (by have := hb.2.1; omega) (by omega)).mp c61
            rw [ea_fig d1 d2 d3 d4] at hq
            refine V_il i_X6_readEaters_64 rfl ?_
            rw [d4]
            exact P_iret i_X6_readEaters_66 rfl (hq _ I1 f1 rfl)
        · have d3 : m = 7 := by
            have : ¬ m < 7 := fun z => c41 ((nI_ltI (a := m) (b := 7) (by omega) (by decide)).mpr z)
            omega
          rw [ea_7 d1 d3] at hq
          refine V_il i_X6_readEaters_44 rfl ?_
          exact P_iret i_X6_readEaters_45 rfl (hq _ I1 f1 rfl)
set_option maxRecDepth 100000 in
set_option maxHeartbeats 4000000 in
theorem c_re (I : IntM) (J : LngM) {x s : Nat} (hL : LI x 60) (hx : 111 ≤ x) (hs : s ≤ 60) (hz : I x 1 = nI s) (z4 : I 4 1 = nI 7) (z6 : I 6 1 = nI 7) {a : Nat} (ha : a ≤ s) (m0 : I 3 2 = 0) : CtP 4 m_X6_readEaters [.ref 3, .ref x, .int (nI a)] I J (fun r I1 J1 => J1 = J ∧ RdE I I1 ∧ eaQ I1 r (eaP (I (x + 1)) s 8 a 0 z0 z0)) := by
  refine CtP_of (by decide) rfl (Nat.le_of_ble_eq_true rfl) ?_
  refine V_il i_X6_readEaters_0 rfl ?_
  refine V_is (L' := [(0, _), (1, _), (3, _)]) i_X6_readEaters_1 (by decide) ⟨rfl, rfl, rfl, trivial⟩ ?_
  refine V_c i_X6_readEaters_2 ?_
  refine V_is (L' := [(0, _), (1, _), (3, _), (4, _)]) i_X6_readEaters_3 (by decide) ⟨rfl, rfl, rfl, rfl, trivial⟩ ?_
  refine V_L (L' := [(0, _), (1, _), (3, _), (4, _)]) ⟨rfl, rfl, rfl, rfl, trivial⟩ ?_
  exact lp_re I J hL hx hs hz z4 z6 _ 8 a 0 z0 z0 rfl ha (by decide) (fun r I1 f1 h1 => ⟨rfl, f1, h1⟩) I (fun _ _ _ => rfl) m0 (fun k hk => absurd hk (Nat.not_lt_zero k)) (fun k hk => absurd hk (Nat.not_lt_zero k))

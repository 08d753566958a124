
/-! ===== order ===== -/
def osN (f : Nat → Int32) (n : Nat) : Nat → Option Nat := fun i => match i with
  | 0 => some 0
  | i + 1 => match osN f n i with
    | none => none
    | some w => if hasC n (f i) = 0 then none else if w.testBit (f i).toNatClampNeg = true then none else some (w ||| 2 ^ (f i).toNatClampNeg)
theorem osN_s {f : Nat → Int32} {n i w : Nat} (h : osN f n i = some w) : osN f n (i + 1) = if hasC n (f i) = 0 then none else if w.testBit (f i).toNatClampNeg = true then none else some (w ||| 2 ^ (f i).toNatClampNeg) := by
  show (match osN f n i with
    | none => none
    | some w => if hasC n (f i) = 0 then none else if w.testBit (f i).toNatClampNeg = true then none else some (w ||| 2 ^ (f i).toNatClampNeg)) = _
  rw [h]
theorem osN_no {f : Nat → Int32} {n i : Nat} (h : osN f n i = none) : ∀ d, osN f n (i + d) = none
  | 0 => h
  | d + 1 => by
    show (match osN f n (i + d) with
      | none => none
      | some w => if hasC n (f (i + d)) = 0 then none else if w.testBit (f (i + d)).toNatClampNeg = true then none else some (w ||| 2 ^ (f (i + d)).toNatClampNeg)) = none
    rw [osN_no h d]
theorem osN_end {f : Nat → Int32} {n i : Nat} (hi : i ≤ n) (h : osN f n i = none) : osN f n n = none := by
  have := osN_no h (n - i)
  rwa [show i + (n - i) = n by omega] at this
theorem osN_ok {f : Nat → Int32} {n : Nat} (hn : n ≤ 7) : ∀ i w, osN f n i = some w → w < 128 ∧ (∀ j, j < i → ∃ k, k < n ∧ f j = nI k) ∧ (∀ k, k < n → (w.testBit k = true ↔ ∃ j, j < i ∧ f j = nI k)) ∧ ∀ j j', j < i → j' < i → f j = f j' → j = j'
  | 0, w, h => by
    have e : 0 = w := Option.some.inj h
    subst e
    exact ⟨by decide, fun j hj => absurd hj (Nat.not_lt_zero _), fun k _ => by simp, fun j j' hj => absurd hj (Nat.not_lt_zero _)⟩
  | i + 1, w, h => by
    cases hp : osN f n i with
    | none =>
      rw [osN_no hp 1] at h
      cases h
    | some v =>
      obtain ⟨a0, a1, a2, a3⟩ := osN_ok hn i v hp
      rw [osN_s hp] at h
      by_cases h1 : hasC n (f i) = 0
      · rw [if_pos h1] at h
        cases h
      · rw [if_neg h1] at h
        obtain ⟨k, hk, e⟩ := hasC_yes hn h1
        rw [e, nI_clamp (by omega)] at h
        by_cases h2 : v.testBit k = true
        · rw [if_pos h2] at h
          cases h
        · rw [if_neg h2] at h
          have ew : v ||| 2 ^ k = w := Option.some.inj h
          subst ew
          have hnew : ∀ j, j < i → f j ≠ nI k := fun j hj q => h2 ((a2 k hk).mpr ⟨j, hj, q⟩)
          refine ⟨Nat.or_lt_two_pow (n := 7) a0 (p128 (by omega)), fun j hj => ?_, fun k' hk' => ?_, fun j j' hj hj' ej => ?_⟩
          · by_cases hji : j = i
            · exact ⟨k, hk, by rw [hji]; exact e⟩
            · exact a1 j (by omega)
          · rw [Nat.testBit_or, Bool.or_eq_true, a2 k' hk', Nat.testBit_two_pow, decide_eq_true_eq]
            constructor
            · rintro (⟨j, hj, q⟩ | q)
              · exact ⟨j, by omega, q⟩
              · exact ⟨i, by omega, by rw [e, q]⟩
            · rintro ⟨j, hj, q⟩
              by_cases hji : j = i
              · rw [hji, e] at q
                exact Or.inr ((nI_eq (by omega) (by omega)).mp q)
              · exact Or.inl ⟨j, by omega, q⟩
          · by_cases h3 : j = i
            · by_cases h4 : j' = i
              · omega
              · rw [h3, e] at ej
                exact absurd ej.symm (hnew j' (by omega))
            · by_cases h4 : j' = i
              · rw [h4, e] at ej
                exact absurd ej (hnew j (by omega))
              · exact a3 j j' (by omega) (by omega) ej

def osV (f : Nat → Int32) (n : Nat) : Int32 := match osN f n n with
  | none => 0
  | some _ => 1
set_option maxRecDepth 100000 in
set_option maxHeartbeats 4000000 in
theorem lp_isOrder (I : IntM) (J : LngM) {n : Nat} {kd nd od : Nat → Nat} {lw pot : Nat} (hK : CK I n kd nd od lw pot) {r : Nat} (hr : r < 6) (hs : I (111 + 2 * r) 1 = nI n) {f : Nat → Int32} (hf : f = I (111 + 2 * r + 1)) (Q : Option Value → IntM → LngM → Prop) (hq : Q (some (.int (osV f n))) I J) : VP m_X0_isOrder 3 4 [(0, .ref 8), (1, .ref (111 + 2 * r)), (2, .int 0), (3, .int 0)] [] I J Q := by
  have key : ∀ i, i ≤ n → ∀ w, osN f n i = some w → VP m_X0_isOrder 3 4 [(0, .ref 8), (1, .ref (111 + 2 * r)), (2, .int (nI w)), (3, .int (nI i))] [] I J Q := by
    refine down n ?_ (fun i hi ih => ?_)
    · intro w hw
      refine V_il i_X0_isOrder_4 rfl ?_
      refine V_al i_X0_isOrder_5 rfl ?_
      refine P_callV0v i_X0_isOrder_6 mi_X3_size (LI_row hr).1 ⟨_, _, rfl⟩ (by decide) (Nat.le_of_ble_eq_true rfl) (c_I_size _ _ (LI_row hr)) ?_
      refine V_ic_ge_t i_X0_isOrder_9 (by rw [hs]; exact Int32.le_refl _) ?_
      refine V_c i_X0_isOrder_52 ?_
      exact P_zret i_X0_isOrder_53 rfl (by decide) (by unfold osV at hq; rw [hw] at hq; exact hq)
    · intro w hw
      have hw7 := (osN_ok hK.n7 i w hw).1
      subst hf
      refine V_il i_X0_isOrder_4 rfl ?_
      refine V_al i_X0_isOrder_5 rfl ?_
      refine P_callV0v i_X0_isOrder_6 mi_X3_size (LI_row hr).1 ⟨_, _, rfl⟩ (by decide) (Nat.le_of_ble_eq_true rfl) (c_I_size _ _ (LI_row hr)) ?_
      refine V_ic_ge_f i_X0_isOrder_9 (by rw [hs]; exact nI_ge hi (by have := hK.n7; omega)) ?_
      refine V_al i_X0_isOrder_12 rfl ?_
      refine V_il i_X0_isOrder_13 rfl ?_
      refine P_callV1v i_X0_isOrder_14 mi_X3_get (LI_row hr).1 ⟨_, _, rfl⟩ (by decide) (Nat.le_of_ble_eq_true rfl) (c_I_getN _ _ (s := n) (k := i) (LI_row hr) hs rfl hi (by have := hK.n7; omega)) ?_
      refine V_is (L' := [(0, _), (1, _), (2, _), (3, _), (4, _)]) i_X0_isOrder_17 (by decide) ⟨rfl, rfl, rfl, rfl, rfl, trivial⟩ ?_
      refine V_al i_X0_isOrder_19 rfl ?_
      refine V_il i_X0_isOrder_20 rfl ?_
      refine P_callV1v i_X0_isOrder_22 mi_X0_has rfl ⟨_, _, rfl⟩ (by decide) (Nat.le_of_ble_eq_true rfl) (c_C_has _ _ hK.sz _) ?_
      refine V_if_eq i_X0_isOrder_25 (fun c25 => ?_) (fun c25 => ?_)
      · have c9 : osN (I (111 + 2 * r + 1)) n (i + 1) = none := by rw [osN_s hw, if_pos c25]
        refine V_c i_X0_isOrder_37 ?_
        exact P_zret i_X0_isOrder_38 rfl (by decide) (by unfold osV at hq; rw [osN_end (by omega) c9] at hq; exact hq)
      · obtain ⟨k, hk, e⟩ := hasC_yes hK.n7 c25
        have hk7 : k < 7 := by have := hK.n7; omega
        refine V_il i_X0_isOrder_28 rfl ?_
        refine V_c i_X0_isOrder_29 ?_
        refine V_il i_X0_isOrder_30 rfl ?_
        refine V_ishl i_X0_isOrder_32 ?_
        rw [e]
        refine V_iand i_X0_isOrder_33 ?_
        refine V_if_eq i_X0_isOrder_34 (fun c34 => ?_) (fun c34 => ?_)
        · have c8 := (bit_and hw7 hk7).mp c34
          have c9 : osN (I (111 + 2 * r + 1)) n (i + 1) = some (w ||| 2 ^ k) := by rw [osN_s hw, if_neg c25, e, nI_clamp (by omega), if_neg (by rw [c8]; decide)]
          refine V_il i_X0_isOrder_39 rfl ?_
          refine V_c i_X0_isOrder_40 ?_
          refine V_il i_X0_isOrder_41 rfl ?_
          refine V_ishl i_X0_isOrder_43 ?_
          rw [shl1 hk7]
          refine V_ior i_X0_isOrder_44 ?_
          rw [or_nI]
          refine V_is (L' := [(0, _), (1, _), (2, _), (3, _)]) i_X0_isOrder_45 (by decide) ⟨rfl, rfl, rfl, rfl, trivial⟩ ?_
          refine V_iinc (L' := [(0, _), (1, _), (2, _), (3, _)]) (n' := 1) i_X0_isOrder_46 (by decide) rfl (by decide) ⟨rfl, rfl, rfl, rfl, trivial⟩ ?_
          refine V_goto i_X0_isOrder_49 ?_
          refine V_L (L' := [(0, _), (1, _), (2, _), (3, _)]) ⟨rfl, rfl, rfl, rfl, trivial⟩ ?_
          rw [show nI i + 1 = nI (i + 1) from nI_1 i]
          exact ih _ c9
        · have c8 : w.testBit k = true := by
            by_cases b : w.testBit k = true
            · exact b
            · exact absurd ((bit_and hw7 hk7).mpr (Bool.eq_false_iff.mpr b)) c34
          have c9 : osN (I (111 + 2 * r + 1)) n (i + 1) = none := by rw [osN_s hw, if_neg c25, e, nI_clamp (by omega), if_pos c8]
          refine V_c i_X0_isOrder_37 ?_
          exact P_zret i_X0_isOrder_38 rfl (by decide) (by unfold osV at hq; rw [osN_end (by omega) c9] at hq; exact hq)
  exact key 0 (Nat.zero_le _) 0 rfl
set_option maxRecDepth 100000 in
set_option maxHeartbeats 4000000 in
theorem c_isOrder (I : IntM) (J : LngM) {n : Nat} {kd nd od : Nat → Nat} {lw pot : Nat} (hK : CK I n kd nd od lw pot) {r : Nat} (hr : r < 6) (hs : I (111 + 2 * r) 1 = nI n) : CtV 3 m_X0_isOrder [.ref 8, .ref (111 + 2 * r)] I J (.int (osV (I (111 + 2 * r + 1)) n)) I J := by
  refine CtV_of (by decide) rfl (Nat.le_of_ble_eq_true rfl) ?_
  refine V_c i_X0_isOrder_0 ?_
  refine V_is (L' := [(0, _), (1, _), (2, _)]) i_X0_isOrder_1 (by decide) ⟨rfl, rfl, rfl, trivial⟩ ?_
  refine V_c i_X0_isOrder_2 ?_
  refine V_is (L' := [(0, _), (1, _), (2, _), (3, _)]) i_X0_isOrder_3 (by decide) ⟨rfl, rfl, rfl, rfl, trivial⟩ ?_
  refine V_L (L' := [(0, _), (1, _), (2, _), (3, _)]) ⟨rfl, rfl, rfl, rfl, trivial⟩ ?_
  exact lp_isOrder I J hK hr hs rfl _ ⟨rfl, rfl, rfl⟩
set_option maxRecDepth 100000 in
set_option maxHeartbeats 4000000 in
theorem c_order0 (I : IntM) (J : LngM) {n : Nat} {kd nd od : Nat → Nat} {lw pot : Nat} (hK : CK I n kd nd od lw pot) {x : Int32} (h : hasC 6 x = 0) : CtP 4 m_X10_order [.ref 0, .int x] I J (QC I J (.int (-1)) none none none) := by
  refine CtP_of (by decide) rfl (Nat.le_of_ble_eq_true rfl) ?_
  refine V_al i_X10_order_0 rfl ?_
  refine V_getR i_X10_order_1 rfl rfl ?_
  refine V_il i_X10_order_4 rfl ?_
  refine P_callS2v i_X10_order_5 ms_X10_pick (by decide) (Nat.le_of_ble_eq_true rfl) (c_pick0 _ _ (a := 1) (N := 6) rfl (by decide) h) ?_
  refine V_asN (L' := [(0, _), (2, _)]) i_X10_order_8 (by decide) ⟨rfl, rfl, trivial⟩ ?_
  refine V_alN i_X10_order_9 rfl ?_
  refine V_ifnonnullN i_X10_order_10 ?_
  refine V_c i_X10_order_13 ?_
  exact P_iret i_X10_order_14 rfl ⟨rfl, I, J, FrC.rf, hK.Z, rfl, rfl⟩
set_option maxRecDepth 100000 in
set_option maxHeartbeats 4000000 in
theorem m_order0 (I : IntM) (J : LngM) {x : Int32} (h : hasC 6 x = 0) : CtP 3 m_X11_order [.ref 146, .int x] I J (QM I J (.int (-1)) none none none) := by
  refine CtP_of (by decide) rfl (Nat.le_of_ble_eq_true rfl) ?_
  refine V_il i_X11_order_0 rfl ?_
  refine P_callS1v i_X11_order_1 ms_X11_isRow (by decide) (Nat.le_of_ble_eq_true rfl) (c_M_isRow _ _ _) ?_
  refine V_if_ne_f i_X11_order_4 h ?_
  refine V_c i_X11_order_7 ?_
  exact P_iret i_X11_order_8 rfl ⟨rfl, I, J, FrM.rf, rfl, rfl⟩
set_option maxRecDepth 100000 in
set_option maxHeartbeats 4000000 in
theorem c_order1 (I : IntM) (J : LngM) {n : Nat} {kd nd od : Nat → Nat} {lw pot : Nat} (hK : CK I n kd nd od lw pot) {r : Nat} (hr : r < 6) (hs : I (111 + 2 * r) 1 = -1) : CtP 4 m_X10_order [.ref 0, .int (nI r)] I J (QC I J (.int (-3)) none none (some 1)) := by
  refine CtP_of (by decide) rfl (Nat.le_of_ble_eq_true rfl) ?_
  refine V_al i_X10_order_0 rfl ?_
  refine V_getR i_X10_order_1 rfl rfl ?_
  refine V_il i_X10_order_4 rfl ?_
  refine P_callS2v i_X10_order_5 ms_X10_pick (by decide) (Nat.le_of_ble_eq_true rfl) (c_pick _ _ (a := 1) (N := 6) (k := r) rfl (by decide) hr (RF_row hr)) ?_
  refine V_as (L' := [(0, _), (2, _)]) i_X10_order_8 (by decide) ⟨rfl, rfl, trivial⟩ ?_
  refine V_al i_X10_order_9 rfl ?_
  refine V_ifnonnull i_X10_order_10 ?_
  refine V_al i_X10_order_15 rfl ?_
  refine P_callV0v i_X10_order_16 mi_X3_missing (LI_row hr).1 ⟨_, _, rfl⟩ (by decide) (Nat.le_of_ble_eq_true rfl) (c_I_missing _ _ (LI_row hr)) ?_
  refine V_if_eq_f i_X10_order_19 (by rw [hs]; decide) ?_
  refine V_al i_X10_order_22 rfl ?_
  refine V_c i_X10_order_23 ?_
  refine P_callV1v i_X10_order_24 mi_X10_refuse rfl ⟨_, _, rfl⟩ (by decide) (Nat.le_of_ble_eq_true rfl) (c_refuse I J (f := 1) (by decide)) ?_
  exact P_iret i_X10_order_27 rfl ⟨rfl, I, J, FrC.rf, hK.Z, rfl, rfl⟩
set_option maxRecDepth 100000 in
set_option maxHeartbeats 4000000 in
theorem c_order2 (I : IntM) (J : LngM) {n : Nat} {kd nd od : Nat → Nat} {lw pot : Nat} (hK : CK I n kd nd od lw pot) {r s : Nat} (hr : r < 6) (hs6 : s ≤ 60) (hs : I (111 + 2 * r) 1 = nI s) (hsn : ¬ s = n) : CtP 4 m_X10_order [.ref 0, .int (nI r)] I J (QC I J (.int (-3)) none none (some 5)) := by
  refine CtP_of (by decide) rfl (Nat.le_of_ble_eq_true rfl) ?_
  refine V_al i_X10_order_0 rfl ?_
  refine V_getR i_X10_order_1 rfl rfl ?_
  refine V_il i_X10_order_4 rfl ?_
  refine P_callS2v i_X10_order_5 ms_X10_pick (by decide) (Nat.le_of_ble_eq_true rfl) (c_pick _ _ (a := 1) (N := 6) (k := r) rfl (by decide) hr (RF_row hr)) ?_
  refine V_as (L' := [(0, _), (2, _)]) i_X10_order_8 (by decide) ⟨rfl, rfl, trivial⟩ ?_
  refine V_al i_X10_order_9 rfl ?_
  refine V_ifnonnull i_X10_order_10 ?_
  refine V_al i_X10_order_15 rfl ?_
  refine P_callV0v i_X10_order_16 mi_X3_missing (LI_row hr).1 ⟨_, _, rfl⟩ (by decide) (Nat.le_of_ble_eq_true rfl) (c_I_missing _ _ (LI_row hr)) ?_
  refine V_if_eq_t i_X10_order_19 (by rw [hs, if_neg (nI_pos (by omega))]) ?_
  refine V_al i_X10_order_28 rfl ?_
  refine P_callV0v i_X10_order_29 mi_X3_size (LI_row hr).1 ⟨_, _, rfl⟩ (by decide) (Nat.le_of_ble_eq_true rfl) (c_I_size _ _ (LI_row hr)) ?_
  refine V_al i_X10_order_32 rfl ?_
  refine V_getR i_X10_order_33 rfl rfl ?_
  refine V_getI i_X10_order_36 rfl ?_
  refine V_ic_eq_f i_X10_order_39 (by rw [hs, hK.sz]; exact fun q => hsn ((nI_eq (by omega) (by have := hK.n7; omega)).mp q)) ?_
  refine V_al i_X10_order_42 rfl ?_
  refine V_c i_X10_order_43 ?_
  refine P_callV1v i_X10_order_44 mi_X10_refuse rfl ⟨_, _, rfl⟩ (by decide) (Nat.le_of_ble_eq_true rfl) (c_refuse I J (f := 5) (by decide)) ?_
  exact P_iret i_X10_order_47 rfl ⟨rfl, I, J, FrC.rf, hK.Z, rfl, rfl⟩
set_option maxRecDepth 100000 in
set_option maxHeartbeats 4000000 in
theorem c_order3 (I : IntM) (J : LngM) {n : Nat} {kd nd od : Nat → Nat} {lw pot : Nat} (hK : CK I n kd nd od lw pot) {r : Nat} (hr : r < 6) (hs : I (111 + 2 * r) 1 = nI n) (ho : osN (I (111 + 2 * r + 1)) n n = none) : CtP 4 m_X10_order [.ref 0, .int (nI r)] I J (QC I J (.int (-3)) none none (some 3)) := by
  refine CtP_of (by decide) rfl (Nat.le_of_ble_eq_true rfl) ?_
  refine V_al i_X10_order_0 rfl ?_
  refine V_getR i_X10_order_1 rfl rfl ?_
  refine V_il i_X10_order_4 rfl ?_
  refine P_callS2v i_X10_order_5 ms_X10_pick (by decide) (Nat.le_of_ble_eq_true rfl) (c_pick _ _ (a := 1) (N := 6) (k := r) rfl (by decide) hr (RF_row hr)) ?_
  refine V_as (L' := [(0, _), (2, _)]) i_X10_order_8 (by decide) ⟨rfl, rfl, trivial⟩ ?_
  refine V_al i_X10_order_9 rfl ?_
  refine V_ifnonnull i_X10_order_10 ?_
  refine V_al i_X10_order_15 rfl ?_
  refine P_callV0v i_X10_order_16 mi_X3_missing (LI_row hr).1 ⟨_, _, rfl⟩ (by decide) (Nat.le_of_ble_eq_true rfl) (c_I_missing _ _ (LI_row hr)) ?_
  refine V_if_eq_t i_X10_order_19 (by rw [hs, if_neg (nI_pos (by have := hK.n7; omega))]) ?_
  refine V_al i_X10_order_28 rfl ?_
  refine P_callV0v i_X10_order_29 mi_X3_size (LI_row hr).1 ⟨_, _, rfl⟩ (by decide) (Nat.le_of_ble_eq_true rfl) (c_I_size _ _ (LI_row hr)) ?_
  refine V_al i_X10_order_32 rfl ?_
  refine V_getR i_X10_order_33 rfl rfl ?_
  refine V_getI i_X10_order_36 rfl ?_
  refine V_ic_eq_t i_X10_order_39 (by rw [hs, hK.sz]) ?_
  refine V_al i_X10_order_48 rfl ?_
  refine V_getR i_X10_order_49 rfl rfl ?_
  refine V_al i_X10_order_52 rfl ?_
  refine P_callV1v i_X10_order_53 mi_X0_isOrder rfl ⟨_, _, rfl⟩ (by decide) (Nat.le_of_ble_eq_true rfl) (c_isOrder I J hK hr hs) ?_
  refine V_if_ne_f i_X10_order_56 (by unfold osV; rw [ho]) ?_
  refine V_al i_X10_order_59 rfl ?_
  refine V_c i_X10_order_60 ?_
  refine P_callV1v i_X10_order_61 mi_X10_refuse rfl ⟨_, _, rfl⟩ (by decide) (Nat.le_of_ble_eq_true rfl) (c_refuse I J (f := 3) (by decide)) ?_
  exact P_iret i_X10_order_64 rfl ⟨rfl, I, J, FrC.rf, hK.Z, rfl, rfl⟩
set_option maxRecDepth 100000 in
set_option maxHeartbeats 4000000 in
theorem c_order4 (I : IntM) (J : LngM) {n : Nat} {kd nd od : Nat → Nat} {lw pot : Nat} (hK : CK I n kd nd od lw pot) {r w : Nat} (hr : r < 6) (hs : I (111 + 2 * r) 1 = nI n) (ho : osN (I (111 + 2 * r + 1)) n n = some w) : CtV 4 m_X10_order [.ref 0, .int (nI r)] I J (.int (nI n)) (cpI I (111 + 2 * r + 1) 0 14 0 n) J := by
  refine CtV_of (by decide) rfl (Nat.le_of_ble_eq_true rfl) ?_
  refine V_al i_X10_order_0 rfl ?_
  refine V_getR i_X10_order_1 rfl rfl ?_
  refine V_il i_X10_order_4 rfl ?_
  refine P_callS2v i_X10_order_5 ms_X10_pick (by decide) (Nat.le_of_ble_eq_true rfl) (c_pick _ _ (a := 1) (N := 6) (k := r) rfl (by decide) hr (RF_row hr)) ?_
  refine V_as (L' := [(0, _), (2, _)]) i_X10_order_8 (by decide) ⟨rfl, rfl, trivial⟩ ?_
  refine V_al i_X10_order_9 rfl ?_
  refine V_ifnonnull i_X10_order_10 ?_
  refine V_al i_X10_order_15 rfl ?_
  refine P_callV0v i_X10_order_16 mi_X3_missing (LI_row hr).1 ⟨_, _, rfl⟩ (by decide) (Nat.le_of_ble_eq_true rfl) (c_I_missing _ _ (LI_row hr)) ?_
  refine V_if_eq_t i_X10_order_19 (by rw [hs, if_neg (nI_pos (by have := hK.n7; omega))]) ?_
  refine V_al i_X10_order_28 rfl ?_
  refine P_callV0v i_X10_order_29 mi_X3_size (LI_row hr).1 ⟨_, _, rfl⟩ (by decide) (Nat.le_of_ble_eq_true rfl) (c_I_size _ _ (LI_row hr)) ?_
  refine V_al i_X10_order_32 rfl ?_
  refine V_getR i_X10_order_33 rfl rfl ?_
  refine V_getI i_X10_order_36 rfl ?_
  refine V_ic_eq_t i_X10_order_39 (by rw [hs, hK.sz]) ?_
  refine V_al i_X10_order_48 rfl ?_
  refine V_getR i_X10_order_49 rfl rfl ?_
  refine V_al i_X10_order_52 rfl ?_
  refine P_callV1v i_X10_order_53 mi_X0_isOrder rfl ⟨_, _, rfl⟩ (by decide) (Nat.le_of_ble_eq_true rfl) (c_isOrder I J hK hr hs) ?_
  refine V_if_ne_t i_X10_order_56 (by unfold osV; rw [ho]; exact (by decide : ¬ (1 : Int32) = 0)) ?_
  refine V_al i_X10_order_65 rfl ?_
  refine V_al i_X10_order_66 rfl ?_
  refine V_getR i_X10_order_67 rfl rfl ?_
  refine V_getR i_X10_order_70 rfl rfl ?_
  refine V_c i_X10_order_73 ?_
  refine V_c i_X10_order_74 ?_
  refine V_al i_X10_order_75 rfl ?_
  refine V_getR i_X10_order_76 rfl rfl ?_
  refine V_getI i_X10_order_79 rfl ?_
  rw [hK.sz]
  refine P_callV4u i_X10_order_82 mi_X3_moveTo (LI_row hr).1 ⟨_, _, rfl⟩ (by decide) (Nat.le_of_ble_eq_true rfl) (c_I_moveTo I J (y := 13) (s := n) (t := 7) (a := 0) (b := 0) (c := n) (LI_row hr) ⟨rfl, rfl, rfl, by decide⟩ hs hK.z13 (by have := hK.n7; omega) (by decide) (by omega) (by have := hK.n7; omega)) ?_
  refine V_al i_X10_order_85 rfl ?_
  refine V_getR i_X10_order_86 rfl rfl ?_
  refine V_getI i_X10_order_89 rfl ?_
  rw [show cpI I (111 + 2 * r + 1) 0 (13 + 1) 0 n 8 3 = nI n from by unfold cpI; rw [if_neg (by omega)]; exact hK.sz]
  exact P_iret i_X10_order_92 rfl ⟨rfl, rfl, rfl⟩
set_option maxRecDepth 100000 in
set_option maxHeartbeats 4000000 in
theorem m_order1 (I : IntM) (J : LngM) {r : Nat} (hr : r < 6) (hs : I 148 r = -1) : CtP 3 m_X11_order [.ref 146, .int (nI r)] I J (QM I J (.int (-3)) none none (some 1)) := by
  refine CtP_of (by decide) rfl (Nat.le_of_ble_eq_true rfl) ?_
  refine V_il i_X11_order_0 rfl ?_
  refine P_callS1v i_X11_order_1 ms_X11_isRow (by decide) (Nat.le_of_ble_eq_true rfl) (c_M_isRow _ _ _) ?_
  refine V_if_ne_t i_X11_order_4 (by rw [hasN_nI (by decide) hr]; decide) ?_
  refine V_al i_X11_order_9 rfl ?_
  refine V_getR i_X11_order_10 rfl rfl ?_
  refine V_il i_X11_order_13 rfl ?_
  refine K_iald r i_X11_order_14 rfl rfl hr (by omega) ?_
  refine V_if_ge_f i_X11_order_15 (by rw [hs]; decide) ?_
  refine V_al i_X11_order_18 rfl ?_
  refine V_c i_X11_order_19 ?_
  refine P_callV1v i_X11_order_20 mi_X11_found rfl ⟨_, _, rfl⟩ (by decide) (Nat.le_of_ble_eq_true rfl) (c_M_found I J (f := 1) (by decide)) ?_
  exact P_iret i_X11_order_23 rfl ⟨rfl, I, J, FrM.rf, rfl, rfl⟩
set_option maxRecDepth 100000 in
set_option maxHeartbeats 4000000 in
theorem m_order2 (I : IntM) (J : LngM) {n : Nat} {kd nd od : Nat → Nat} {lw pot : Nat} (hK : MK I n kd nd od lw pot) {r s : Nat} (hr : r < 6) (hs6 : s ≤ 60) (hs : I 148 r = nI s) (hsn : ¬ s = n) : CtP 3 m_X11_order [.ref 146, .int (nI r)] I J (QM I J (.int (-3)) none none (some 5)) := by
  refine CtP_of (by decide) rfl (Nat.le_of_ble_eq_true rfl) ?_
  refine V_il i_X11_order_0 rfl ?_
  refine P_callS1v i_X11_order_1 ms_X11_isRow (by decide) (Nat.le_of_ble_eq_true rfl) (c_M_isRow _ _ _) ?_
  refine V_if_ne_t i_X11_order_4 (by rw [hasN_nI (by decide) hr]; decide) ?_
  refine V_al i_X11_order_9 rfl ?_
  refine V_getR i_X11_order_10 rfl rfl ?_
  refine V_il i_X11_order_13 rfl ?_
  refine K_iald r i_X11_order_14 rfl rfl hr (by omega) ?_
  refine V_if_ge_t i_X11_order_15 (by rw [hs]; exact nI_pos' (by omega)) ?_
  refine V_al i_X11_order_24 rfl ?_
  refine V_getR i_X11_order_25 rfl rfl ?_
  refine V_il i_X11_order_28 rfl ?_
  refine K_iald r i_X11_order_29 rfl rfl hr (by omega) ?_
  refine V_al i_X11_order_30 rfl ?_
  refine V_getI i_X11_order_31 rfl ?_
  refine V_ic_eq_f i_X11_order_34 (by rw [hs, hK.sz]; exact fun q => hsn ((nI_eq (by omega) (by have := hK.n7; omega)).mp q)) ?_
  refine V_al i_X11_order_37 rfl ?_
  refine V_c i_X11_order_38 ?_
  refine P_callV1v i_X11_order_39 mi_X11_found rfl ⟨_, _, rfl⟩ (by decide) (Nat.le_of_ble_eq_true rfl) (c_M_found I J (f := 5) (by decide)) ?_
  exact P_iret i_X11_order_42 rfl ⟨rfl, I, J, FrM.rf, rfl, rfl⟩
set_option maxRecDepth 100000 in
set_option maxHeartbeats 4000000 in
theorem lp_M_order (I : IntM) (J : LngM) {n : Nat} {kd nd od : Nat → Nat} {lw pot : Nat} (hK : MK I n kd nd od lw pot) {r : Nat} (hr : r < 6) (Q : Option Value → IntM → LngM → Prop) (hbad : osN (fun i => I 149 (60 * r + i)) n n = none → Q (some (.int (-3))) (fnI 146 0 147 (some 3) I) J) (hok : ∀ w, osN (fun i => I 149 (60 * r + i)) n n = some w → VP m_X11_order 3 106 [(0, .ref 146), (1, .int (nI r))] [] I J Q) : VP m_X11_order 3 47 [(0, .ref 146), (1, .int (nI r)), (2, .int 0), (3, .int 0)] [] I J Q := by
  have key : ∀ i, i ≤ n → ∀ w, osN (fun i => I 149 (60 * r + i)) n i = some w → VP m_X11_order 3 47 [(0, .ref 146), (1, .int (nI r)), (2, .int (nI w)), (3, .int (nI i))] [] I J Q := by
    refine down n ?_ (fun i hi ih => ?_)
    · intro w hw
      refine V_il i_X11_order_47 rfl ?_
      refine V_al i_X11_order_48 rfl ?_
      refine V_getI i_X11_order_49 rfl ?_
      refine V_ic_ge_t i_X11_order_52 (by rw [hK.sz]; exact Int32.le_refl _) ?_
      exact V_L (L' := [(0, _), (1, _)]) ⟨rfl, rfl, trivial⟩ (hok w hw)
    · intro w hw
      have hw7 := (osN_ok hK.n7 i w hw).1
      refine V_il i_X11_order_47 rfl ?_
      refine V_al i_X11_order_48 rfl ?_
      refine V_getI i_X11_order_49 rfl ?_
      refine V_ic_ge_f i_X11_order_52 (by rw [hK.sz]; exact nI_ge hi (by have := hK.n7; omega)) ?_
      refine V_al i_X11_order_55 rfl ?_
      refine V_getR i_X11_order_56 rfl rfl ?_
      refine V_c i_X11_order_59 ?_
      refine V_il i_X11_order_61 rfl ?_
      refine V_imul i_X11_order_62 ?_
      refine V_il i_X11_order_63 rfl ?_
      refine V_iadd i_X11_order_64 ?_
      refine K_iald (60 * r + i) i_X11_order_65 rfl (by rw [show (60 : Int32) = nI 60 from rfl, nI_mul, nI_add]) (by have := hK.n7; omega) (by omega) ?_
      refine V_is (L' := [(0, _), (1, _), (2, _), (3, _), (4, _)]) i_X11_order_66 (by decide) ⟨rfl, rfl, rfl, rfl, rfl, trivial⟩ ?_
      refine V_al i_X11_order_68 rfl ?_
      refine V_il i_X11_order_69 rfl ?_
      refine P_callV1v i_X11_order_71 mi_X11_isEater rfl ⟨_, _, rfl⟩ (by decide) (Nat.le_of_ble_eq_true rfl) (c_M_isEater _ _ hK.n7 hK.sz _) ?_
      refine V_if_eq i_X11_order_74 (fun c74 => ?_) (fun c74 => ?_)
      · have c9 : osN (fun i => I 149 (60 * r + i)) n (i + 1) = none := by rw [osN_s hw]; exact if_pos c74
        refine V_al i_X11_order_87 rfl ?_
        refine V_c i_X11_order_88 ?_
        refine P_callV1v i_X11_order_89 mi_X11_found rfl ⟨_, _, rfl⟩ (by decide) (Nat.le_of_ble_eq_true rfl) (c_M_found I J (f := 3) (by decide)) ?_
        exact P_iret i_X11_order_92 rfl (hbad (osN_end (by omega) c9))
      · obtain ⟨k, hk, e⟩ := hasC_yes hK.n7 c74
        have hk7 : k < 7 := by have := hK.n7; omega
        have c7 : osN (fun i => I 149 (60 * r + i)) n (i + 1) = if w.testBit k = true then none else some (w ||| 2 ^ k) := by rw [osN_s hw, if_neg c74]; show (if w.testBit (I 149 (60 * r + i)).toNatClampNeg = true then none else some (w ||| 2 ^ (I 149 (60 * r + i)).toNatClampNeg)) = _; rw [e, nI_clamp (by omega)]
        rw [e]
        refine V_il i_X11_order_77 rfl ?_
        refine V_il i_X11_order_78 rfl ?_
        refine V_ishr i_X11_order_80 ?_
        refine V_c i_X11_order_81 ?_
        refine V_iand i_X11_order_82 ?_
        refine V_c i_X11_order_83 ?_
        refine V_ic_ne i_X11_order_84 (fun c84 => ?_) (fun c84 => ?_)
        · have c8 : ¬ w.testBit k = true := fun q => c84 ((bit_shr hw7 hk7).mpr q)
          rw [if_neg c8] at c7
          refine V_il i_X11_order_93 rfl ?_
          refine V_c i_X11_order_94 ?_
          refine V_il i_X11_order_95 rfl ?_
          refine V_ishl i_X11_order_97 ?_
          rw [shl1 hk7]
          refine V_ior i_X11_order_98 ?_
          rw [or_nI]
          refine V_is (L' := [(0, _), (1, _), (2, _), (3, _)]) i_X11_order_99 (by decide) ⟨rfl, rfl, rfl, rfl, trivial⟩ ?_
          refine V_iinc (L' := [(0, _), (1, _), (2, _), (3, _)]) (n' := 1) i_X11_order_100 (by decide) rfl (by decide) ⟨rfl, rfl, rfl, rfl, trivial⟩ ?_
          refine V_goto i_X11_order_103 ?_
          refine V_L (L' := [(0, _), (1, _), (2, _), (3, _)]) ⟨rfl, rfl, rfl, rfl, trivial⟩ ?_
          rw [show nI i + 1 = nI (i + 1) from nI_1 i]
          exact ih _ c7
        · have c8 := (bit_shr hw7 hk7).mp c84
          rw [if_pos c8] at c7
          have c9 := c7
          refine V_al i_X11_order_87 rfl ?_
          refine V_c i_X11_order_88 ?_
          refine P_callV1v i_X11_order_89 mi_X11_found rfl ⟨_, _, rfl⟩ (by decide) (Nat.le_of_ble_eq_true rfl) (c_M_found I J (f := 3) (by decide)) ?_
          exact P_iret i_X11_order_92 rfl (hbad (osN_end (by omega) c9))
  exact key 0 (Nat.zero_le _) 0 rfl
set_option maxRecDepth 100000 in
set_option maxHeartbeats 4000000 in
theorem lp_M_order2 (I : IntM) (J : LngM) {n : Nat} {kd nd od : Nat → Nat} {lw pot : Nat} (hK : MK I n kd nd od lw pot) {r : Nat} (hr : r < 6) (Q : Option Value → IntM → LngM → Prop) (hq : Q (some (.int (nI n))) (putI I 156 n (fun i => I 149 (60 * r + i))) J) : VP m_X11_order 3 108 [(0, .ref 146), (1, .int (nI r)), (3, .int 0)] [] I J Q := by
  have hz : ∀ i, putI I 156 i (fun i => I 149 (60 * r + i)) 146 19 = nI n := fun i => by unfold putI; rw [if_neg (by omega)]; exact hK.sz
  have key : ∀ i, i ≤ n → VP m_X11_order 3 108 [(0, .ref 146), (1, .int (nI r)), (3, .int (nI i))] [] (putI I 156 i (fun i => I 149 (60 * r + i))) J Q := by
    refine down n ?_ (fun i hi ih => ?_)
    · refine V_il i_X11_order_108 rfl ?_
      refine V_al i_X11_order_109 rfl ?_
      refine V_getI i_X11_order_110 rfl ?_
      refine V_ic_ge_t i_X11_order_113 (by rw [hz]; exact Int32.le_refl _) ?_
      refine V_al i_X11_order_139 rfl ?_
      refine V_getI i_X11_order_140 rfl ?_
      rw [hz]
      exact P_iret i_X11_order_143 rfl hq
    · refine V_il i_X11_order_108 rfl ?_
      refine V_al i_X11_order_109 rfl ?_
      refine V_getI i_X11_order_110 rfl ?_
      refine V_ic_ge_f i_X11_order_113 (by rw [hz i]; exact nI_ge hi (by have := hK.n7; omega)) ?_
      refine V_al i_X11_order_116 rfl ?_
      refine V_getR i_X11_order_117 rfl rfl ?_
      refine V_il i_X11_order_120 rfl ?_
      refine V_al i_X11_order_121 rfl ?_
      refine V_getR i_X11_order_122 rfl rfl ?_
      refine V_c i_X11_order_125 ?_
      refine V_il i_X11_order_127 rfl ?_
      refine V_imul i_X11_order_128 ?_
      refine V_il i_X11_order_129 rfl ?_
      refine V_iadd i_X11_order_130 ?_
      refine K_iald (60 * r + i) i_X11_order_131 rfl (by rw [show (60 : Int32) = nI 60 from rfl, nI_mul, nI_add]) (by have := hK.n7; omega) (by omega) ?_
      refine K_iast i i_X11_order_132 rfl rfl (by have := hK.n7; omega) (by omega) ?_
      refine V_iinc (L' := [(0, _), (1, _), (3, _)]) (n' := 1) i_X11_order_133 (by decide) rfl (by decide) ⟨rfl, rfl, rfl, trivial⟩ ?_
      refine V_goto i_X11_order_136 ?_
      refine V_L (L' := [(0, _), (1, _), (3, _)]) ⟨rfl, rfl, rfl, trivial⟩ ?_
      rw [show nI i + 1 = nI (i + 1) from nI_1 i]
      have e : putI I 156 i (fun i => I 149 (60 * r + i)) 149 (60 * r + i) = (fun i => I 149 (60 * r + i)) i := by unfold putI; rw [if_neg (by omega)]
      rw [e, putI_s]
      exact ih
  have h0 := key 0 (Nat.zero_le _)
  rw [putI_0] at h0
  exact h0
set_option maxRecDepth 100000 in
set_option maxHeartbeats 4000000 in
theorem m_order3 (I : IntM) (J : LngM) {n : Nat} {kd nd od : Nat → Nat} {lw pot : Nat} (hK : MK I n kd nd od lw pot) {r : Nat} (hr : r < 6) (hs : I 148 r = nI n) (ho : osN (fun i => I 149 (60 * r + i)) n n = none) : CtP 3 m_X11_order [.ref 146, .int (nI r)] I J (QM I J (.int (-3)) none none (some 3)) := by
  refine CtP_of (by decide) rfl (Nat.le_of_ble_eq_true rfl) ?_
  refine V_il i_X11_order_0 rfl ?_
  refine P_callS1v i_X11_order_1 ms_X11_isRow (by decide) (Nat.le_of_ble_eq_true rfl) (c_M_isRow _ _ _) ?_
  refine V_if_ne_t i_X11_order_4 (by rw [hasN_nI (by decide) hr]; decide) ?_
  refine V_al i_X11_order_9 rfl ?_
  refine V_getR i_X11_order_10 rfl rfl ?_
  refine V_il i_X11_order_13 rfl ?_
  refine K_iald r i_X11_order_14 rfl rfl hr (by omega) ?_
  refine V_if_ge_t i_X11_order_15 (by rw [hs]; exact nI_pos' (by have := hK.n7; omega)) ?_
  refine V_al i_X11_order_24 rfl ?_
  refine V_getR i_X11_order_25 rfl rfl ?_
  refine V_il i_X11_order_28 rfl ?_
  refine K_iald r i_X11_order_29 rfl rfl hr (by omega) ?_
  refine V_al i_X11_order_30 rfl ?_
  refine V_getI i_X11_order_31 rfl ?_
  refine V_ic_eq_t i_X11_order_34 (by rw [hs, hK.sz]) ?_
  refine V_c i_X11_order_43 ?_
  refine V_is (L' := [(0, _), (1, _), (2, _)]) i_X11_order_44 (by decide) ⟨rfl, rfl, rfl, trivial⟩ ?_
  refine V_c i_X11_order_45 ?_
  refine V_is (L' := [(0, _), (1, _), (2, _), (3, _)]) i_X11_order_46 (by decide) ⟨rfl, rfl, rfl, rfl, trivial⟩ ?_
  refine V_L (L' := [(0, _), (1, _), (2, _), (3, _)]) ⟨rfl, rfl, rfl, rfl, trivial⟩ ?_
  exact lp_M_order I J hK hr _ (fun _ => ⟨rfl, I, J, FrM.rf, rfl, rfl⟩) (fun w hw => by rw [ho] at hw; cases hw)
set_option maxRecDepth 100000 in
set_option maxHeartbeats 4000000 in
theorem m_order4 (I : IntM) (J : LngM) {n : Nat} {kd nd od : Nat → Nat} {lw pot : Nat} (hK : MK I n kd nd od lw pot) {r w : Nat} (hr : r < 6) (hs : I 148 r = nI n) (ho : osN (fun i => I 149 (60 * r + i)) n n = some w) : CtV 3 m_X11_order [.ref 146, .int (nI r)] I J (.int (nI n)) (putI I 156 n (fun i => I 149 (60 * r + i))) J := by
  refine CtV_of (by decide) rfl (Nat.le_of_ble_eq_true rfl) ?_
  refine V_il i_X11_order_0 rfl ?_
  refine P_callS1v i_X11_order_1 ms_X11_isRow (by decide) (Nat.le_of_ble_eq_true rfl) (c_M_isRow _ _ _) ?_
  refine V_if_ne_t i_X11_order_4 (by rw [hasN_nI (by decide) hr]; decide) ?_
  refine V_al i_X11_order_9 rfl ?_
  refine V_getR i_X11_order_10 rfl rfl ?_
  refine V_il i_X11_order_13 rfl ?_
  refine K_iald r i_X11_order_14 rfl rfl hr (by omega) ?_
  refine V_if_ge_t i_X11_order_15 (by rw [hs]; exact nI_pos' (by have := hK.n7; omega)) ?_
  refine V_al i_X11_order_24 rfl ?_
  refine V_getR i_X11_order_25 rfl rfl ?_
  refine V_il i_X11_order_28 rfl ?_
  refine K_iald r i_X11_order_29 rfl rfl hr (by omega) ?_
  refine V_al i_X11_order_30 rfl ?_
  refine V_getI i_X11_order_31 rfl ?_
  refine V_ic_eq_t i_X11_order_34 (by rw [hs, hK.sz]) ?_
  refine V_c i_X11_order_43 ?_
  refine V_is (L' := [(0, _), (1, _), (2, _)]) i_X11_order_44 (by decide) ⟨rfl, rfl, rfl, trivial⟩ ?_
  refine V_c i_X11_order_45 ?_
  refine V_is (L' := [(0, _), (1, _), (2, _), (3, _)]) i_X11_order_46 (by decide) ⟨rfl, rfl, rfl, rfl, trivial⟩ ?_
  refine V_L (L' := [(0, _), (1, _), (2, _), (3, _)]) ⟨rfl, rfl, rfl, rfl, trivial⟩ ?_
  refine lp_M_order I J hK hr _ (fun hb => by rw [ho] at hb; cases hb) (fun _ _ => ?_)
  refine V_c i_X11_order_106 ?_
  refine V_is (L' := [(0, _), (1, _), (3, _)]) i_X11_order_107 (by decide) ⟨rfl, rfl, rfl, trivial⟩ ?_
  exact lp_M_order2 I J hK hr _ ⟨rfl, rfl, rfl⟩
theorem osN_cong {f g : Nat → Int32} {n : Nat} : ∀ {i}, (∀ j, j < i → f j = g j) → osN f n i = osN g n i
  | 0, _ => rfl
  | i + 1, h => by
    have ih := osN_cong (f := f) (g := g) (n := n) (i := i) (fun j hj => h j (by omega))
    cases hp : osN g n i with
    | none => rw [osN_no hp 1, osN_no (ih.trans hp) 1]
    | some w => rw [osN_s hp, osN_s (ih.trans hp), h i (by omega)]
theorem p_order {I : IntM} {J : LngM} (h : Inv I J) (x : Int32) : Pair 4 m_X10_order [.ref 0, .int x] 3 m_X11_order [.ref 146, .int x] I J := by
  obtain ⟨n, kd, nd, od, lw, pot, hP, hK, hM⟩ := h.K
  obtain ⟨hR, hT⟩ := hP.ro
  by_cases hx : hasC 6 x = 0
  · exact Pair.q h (fun _ => no_f) (c_order0 I J hK hx) (fun I1 J1 e1 e2 => m_order0 I1 J1 hx)
  obtain ⟨r, hr, rfl⟩ := hasN_yes (by decide) hx
  rcases ro_size hR hr with ⟨hs, hb⟩ | ⟨s, hs6, hs, hb, hv⟩
  · exact Pair.q h (fun f9 h9 => by cases h9; decide) (c_order1 I J hK hr hs) (fun I1 J1 e1 e2 => m_order1 I1 J1 hr (by rw [e1 _ _ (by omega)]; exact hb))
  by_cases hsn : s = n
  · subst hsn
    have n7 := hK.n7
    have hcg : osN (I (111 + 2 * r + 1)) s s = osN (fun i => I 149 (60 * r + i)) s s := osN_cong hv
    cases ho : osN (fun i => I 149 (60 * r + i)) s s with
    | none => exact Pair.q h (fun f9 h9 => by cases h9; decide) (c_order3 I J hK hr hs (hcg.trans ho)) (fun I1 J1 e1 e2 => m_order3 I1 J1 (hM I1 e1) hr (by rw [e1 _ _ (by omega)]; exact hb) (by rw [show (fun i => I1 149 (60 * r + i)) = fun i => I 149 (60 * r + i) from funext fun i => e1 _ _ (by omega)]; exact ho))
    | some w =>
      have g : ∀ x k', ¬ (x = 14) → cpI I (111 + 2 * r + 1) 0 14 0 s x k' = I x k' := fun x k' hx => by
        unfold cpI
        rw [if_neg (by omega)]
      refine Pair.m (c_order4 I J hK hr hs (hcg.trans ho)) (m_order4 _ J (hM _ (fun x k hx => g x k (by omega))) hr (by rw [g _ _ (by omega)]; exact hb) (by rw [show (fun i => cpI I (111 + 2 * r + 1) 0 14 0 s 149 (60 * r + i)) = fun i => I 149 (60 * r + i) from funext fun i => g _ _ (by omega)]; exact ho)) ?_
      obtain ⟨o0, o1, o2, o3⟩ := osN_ok n7 s w ho
      have U : ∀ x k, x ≠ 14 → x ≠ 156 → putI (cpI I (111 + 2 * r + 1) 0 14 0 s) 156 s (fun i => cpI I (111 + 2 * r + 1) 0 14 0 s 149 (60 * r + i)) x k = I x k := fun x k a b => by
        unfold putI
        rw [if_neg (by omega), g _ _ a]
      have hod : ∀ i, i < s → I 149 (60 * r + i) = nI (I 149 (60 * r + i)).toNatClampNeg ∧ (I 149 (60 * r + i)).toNatClampNeg < s := fun i hi => by
        obtain ⟨k, hk, e⟩ := o1 i hi
        have e' : I 149 (60 * r + i) = nI k := e
        rw [e', nI_clamp (by omega)]
        exact ⟨rfl, hk⟩
      obtain ⟨h1, h2, h3, ⟨c1, c2, c3, c4, c5, c6, c7⟩, h5, h6, ⟨m1, m2, m3⟩, h8, h9, h10⟩ := hP.1
      refine Inv.co hP h.2.1 hK.Z (fun x k a b c => U x k (by omega) (by omega)) (kd' := kd) (nd' := nd) (od' := fun i => (I 149 (60 * r + i)).toNatClampNeg) (lw' := lw) (pot' := pot) ⟨⟨h1.1, h1.2.1, h1.2.2.1, fun i hi => (hod i hi).2, fun i j hi hj q => o3 i j hi hj ?_⟩, h2, h3, ⟨by rw [U _ _ (by omega) (by omega)]; exact c1, AtI.congr (fun k => U _ _ (by omega) (by omega)) c2, AtI.congr (fun k => U _ _ (by omega) (by omega)) c3, fun k hk => ?_, by rw [U _ _ (by omega) (by omega)]; exact c5, by rw [U _ _ (by omega) (by omega)]; exact c6, by rw [U _ _ (by omega) (by omega)]; exact c7⟩, by rw [U _ _ (by omega) (by omega)]; exact h5, by rw [U _ _ (by omega) (by omega)]; exact h6, ⟨by rw [U _ _ (by omega) (by omega)]; exact m1, AtI.congr (fun k => U _ _ (by omega) (by omega)) m2, AtI.congr (fun k => U _ _ (by omega) (by omega)) m3⟩, fun k hk => ?_, by rw [U _ _ (by omega) (by omega)]; exact h9, by rw [U _ _ (by omega) (by omega)]; exact h10⟩
      · have q' : (I 149 (60 * r + i)).toNatClampNeg = (I 149 (60 * r + j)).toNatClampNeg := q
        show I 149 (60 * r + i) = I 149 (60 * r + j)
        rw [(hod i hi).1, (hod j hj).1, q']
      · unfold putI
        rw [if_neg (by omega)]
        unfold cpI
        rw [if_pos ⟨rfl, by omega, by omega⟩, show 0 + (k - 0) = k by omega, hv k hk]
        exact (hod k hk).1
      · unfold putI
        rw [if_pos ⟨rfl, hk⟩]
        show cpI I (111 + 2 * r + 1) 0 14 0 s 149 (60 * r + k) = _
        rw [g _ _ (by omega)]
        exact (hod k hk).1
  · exact Pair.q h (fun f9 h9 => by cases h9; decide) (c_order2 I J hK hr hs6 hs hsn) (fun I1 J1 e1 e2 => m_order2 I1 J1 (hM I1 e1) hr hs6 (by rw [e1 _ _ (by omega)]; exact hb) hsn)

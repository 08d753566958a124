
/-! ===== order ===== -/
def osN (f : Nat → Int32) (n : Nat) : Nat → Option Nat := fun i => match i with
  | 0 => some 0
  | i + 1 => match osN f n i with
    | none => none
    | some w => if hasC n (f i) = 0 then none else if w.testBit (f i).toNatClampNeg = true then none else some (w ||| 2 ^ (f i).toNatClampNeg)
theorem osN_s {f : Nat → Int32} {n i w : Nat} (h : osN f n i = some w) : osN f n (i + 1) = if hasC n (f i) = 0 then none else if w.testBit (f i).toNatClampNeg = true then none else some (w ||| 2 ^ (f i).toNatClampNeg) := by
  show (match osN f n i with
    | none => none
    | some w => if hasC n (f i) = 0 then none else if w.testBit (f i).toNatClampNeg = true then none else some (w ||| 2 ^ (f i).toNatClampNeg)) = _
  rw [h]
theorem osN_no {f : Nat → Int32} {n i : Nat} (h : osN f n i = none) : ∀ d, osN f n (i + d) = none
  | 0 => h
  | d + 1 => by
    show (match osN f n (i + d) with
      | none => none
      | some w => if hasC n (f (i + d)) = 0 then none else if w.testBit (f (i + d)).toNatClampNeg = true then none else some (w ||| 2 ^ (f (i + d)).toNatClampNeg)) = none
    rw [osN_no h d]
theorem osN_end {f : Nat → Int32} {n i : Nat} (hi : i ≤ n) (h : osN f n i = none) : osN f n n = none := by
  have := osN_no h (n - i)
  rwa [show i + (n - i) = n by omega] at this
theorem osN_ok {f : Nat → Int32} {n : Nat} (hn : n ≤ 7) : ∀ i w, osN f n i = some w → w < 128 ∧ (∀ j, j < i → ∃ k, k < n ∧ f j = nI k) ∧ (∀ k, k < n → (w.testBit k = true ↔ ∃ j, j < i ∧ f j = nI k)) ∧ ∀ j j', j < i → j' < i → f j = f j' → j = j'
  | 0, w, h => by
    have e : 0 = w := Option.some.inj h
    subst e
    exact ⟨by decide, fun j hj => absurd hj (Nat.not_lt_zero _), fun k _ => by simp, fun j j' hj => absurd hj (Nat.not_lt_zero _)⟩
  | i + 1, w, h => by
    cases hp : osN f n i with
    | none =>
      rw [osN_no hp 1] at h
      cases h
    | some v =>
      obtain ⟨a0, a1, a2, a3⟩ := osN_ok hn i v hp
      rw [osN_s hp] at h
      by_cases h1 : hasC n (f i) = 0
      · rw [if_pos h1] at h
        cases h
      · rw [if_neg h1] at h
        obtain ⟨k, hk, e⟩ := hasC_yes hn h1
        rw [e, nI_clamp (by omega)] at h
        by_cases h2 : v.testBit k = true
        · rw [if_pos h2] at h
          cases h
        · rw [if_neg h2] at h
          have ew : v ||| 2 ^ k = w := Option.some.inj h
          subst ew
          have hnew : ∀ j, j < i → f j ≠ nI k := fun j hj q => h2 ((a2 k hk).mpr ⟨j, hj, q⟩)
          refine ⟨Nat.or_lt_two_pow (n := 7) a0 (p128 (by omega)), fun j hj => ?_, fun k' hk' => ?_, fun j j' hj hj' ej => ?_⟩
          · by_cases hji : j = i
            · exact ⟨k, hk, by rw [hji]; exact e⟩
            · exact a1 j (by omega)
          · rw [Nat.testBit_or, Bool.or_eq_true, a2 k' hk', Nat.testBit_two_pow, decide_eq_true_eq]
            constructor
            · rintro (⟨j, hj, q⟩ | q)
              · exact ⟨j, by omega, q⟩
              · exact ⟨i, by omega, by rw [e, q]⟩
            · rintro ⟨j, hj, q⟩
              by_cases hji : j = i
              · rw [hji, e] at q
                exact Or.inr ((nI_eq (by omega) (by omega)).mp q)
              · exact Or.inl ⟨j, by omega, q⟩
          · by_cases h3 : j = i
            · by_cases h4 : j' = i
              · omega
              · rw [h3, e] at ej
                exact absurd ej.symm (hnew j' (by omega))
            · by_cases h4 : j' = i
              · rw [h4, e] at ej
                exact absurd ej (hnew j (by omega))
              · exact a3 j j' (by omega) (by omega) ej

def osV (f : Nat → Int32) (n : Nat) : Int32 := match osN f n n with
  | none => 0
  | some _ => 1
set_option maxRecDepth 100000 in
set_option maxHeartbeats 4000000 in
theorem lp_isOrder (I : IntM) (J : LngM) {n : Nat} {kd nd od : Nat → Nat} {lw pot : Nat} (hK : CK I n kd nd od lw pot) {r : Nat} (hr : r < 6) (hs : I (111 + 2 * r) 1 = nI n) {f : Nat → Int32} (hf : f = I (111 + 2 * r + 1)) (Q : Option Value → IntM → LngM → Prop) (hq : Q (some (.int (osV f n))) I J) : VP m_X0_isOrder 3 4 [(0, .ref 8), (1, .ref (111 + 2 * r)), (2, .int 0), (3, .int 0)] [] I J Q := by
  have key : ∀ i, i ≤ n → ∀ w, osN f n i = some w → VP m_X0_isOrder 3 4 [(0, .ref 8), (1, .ref (111 + 2 * r)), (2, .int (nI w)), (3, .int (nI i))] [] I J Q := by
    refine down n ?_ (fun i hi ih => ?_)
    · intro w hw
      refine V_il i_X0_isOrder_4 rfl ?_
      refine V_al i_X0_isOrder_5 rfl ?_
      refine P_callV0v i_X0_isOrder_6 mi_X3_size (LI_row hr).1 ⟨_, _, rfl⟩ (by decide) (Nat.le_of_ble_eq_true rfl) (c_I_size _ _ (LI_row hr)) ?_
      refine V_ic_ge_t i_X0_isOrder_9 (by rw [hs]; exact Int32.le_refl _) ?_
      refine V_c i_X0_isOrder_52 ?_
      exact P_zret i_X0_isOrder_53 rfl (by decide) (by unfold osV at hq; rw [hw] at hq; exact hq)
    · intro w hw
      have hw7 := (osN_ok hK.n7 i w hw).1
      subst hf
      refine V_il i_X0_isOrder_4 rfl ?_
      refine V_al i_X0_isOrder_5 rfl ?_
      refine P_callV0v i_X0_isOrder_6 mi_X3_size (LI_row hr).1 ⟨_, _, rfl⟩ (by decide) (Nat.le_of_ble_eq_true rfl) (c_I_size _ _ (LI_row hr)) ?_
      refine V_ic_ge_f i_X0_isOrder_9 (by rw [hs]; exact nI_ge hi (by have := hK.n7; omega)) ?_
      refine V_al i_X0_isOrder_12 rfl ?_
      refine V_il i_X0_isOrder_13 rfl ?_
      refine P_callV1v i_X0_isOrder_14 mi_X3_get (LI_row hr).1 ⟨_, _, rfl⟩ (by decide) (Nat.le_of_ble_eq_true rfl) (c_I_getN _ _ (s := n) (k := i) (LI_row hr) hs rfl hi (by have := hK.n7; omega)) ?_
      refine V_is (L' := [(0, _), (1, _), (2, _), (3, _), (4, _)]) i_X0_isOrder_17 (by decide) ⟨rfl, rfl, rfl, rfl, rfl, trivial⟩ ?_
      refine V_al i_X0_isOrder_19 rfl ?_
      refine V_il i_X0_isOrder_20 rfl ?_
      refine P_callV1v i_X0_isOrder_22 mi_X0_has rfl ⟨_, _, rfl⟩ (by decide) (Nat.le_of_ble_eq_true rfl) (c_C_has _ _ hK.sz _) ?_
      refine V_if_eq i_X0_isOrder_25 (fun c25 => ?_) (fun c25 => ?_)
      · have c9 : osN (I (111 + 2 * r + 1)) n (i + 1) = none := by rw [osN_s hw, if_pos c25]
        refine V_c i_X0_isOrder_37 ?_
        exact P_zret i_X0_isOrder_38 rfl (by decide) (by unfold osV at hq; rw [osN_end (by omega) c9] at hq; exact hq)
      · obtain ⟨k, hk, e⟩ := hasC_yes hK.n7 c25
        have hk7 : k < 7 := by have := hK.n7; omega
        refine V_il i_X0_isOrder_28 rfl ?_
        refine V_c i_X0_isOrder_29 ?_
        refine V_il i_X0_isOrder_30 rfl ?_
        refine V_ishl i_X0_isOrder_32 ?_
        rw [e]
        refine V_iand i_X0_isOrder_33 ?_
        refine V_if_eq i_X0_isOrder_34 (fun c34 => ?_) (fun c34 => ?_)
        · have c8 := (bit_and hw7 hk7).mp c34
          have c9 : osN (I (111 + 2 * r + 1)) n (i + 1) = some (w ||| 2 ^ k) := by rw [osN_s hw, if_neg c25, e, nI_clamp (by omega), if_neg (by rw [c8]; decide)]
          refine V_il i_X0_isOrder_39 rfl ?_
          refine V_c i_X0_isOrder_40 ?_
          refine V_il i_X0_isOrder_41 rfl ?_
          refine V_ishl i_X0_isOrder_43 ?_
          rw [shl1 hk7]
          refine V_ior i_X0_isOrder_44 ?_
          rw [or_nI]
          refine V_is (L' := [(0, _), (1, _), (2, _), (3, _)]) i_X0_isOrder_45 (by decide) ⟨rfl, rfl, rfl, rfl, trivial⟩ ?_
          refine V_iinc (L' := [(0, _), (1, _), (2, _), (3, _)]) (n' := 1) i_X0_isOrder_46 (by decide) rfl (by decide) ⟨rfl, rfl, rfl, rfl, trivial⟩ ?_
          refine V_goto i_X0_isOrder_49 ?_
          refine V_L (L' := [(0, _), (1, _), (2, _), (3, _)]) ⟨rfl, rfl, rfl, rfl, trivial⟩ ?_
          rw [show nI i + 1 = nI (i + 1) from nI_1 i]
          exact ih _ c9
        · have c8 : w.testBit k = true := by
            by_cases b : w.testBit k = true
            · exact b
            · exact absurd ((bit_and hw7 hk7).mpr (Bool.eq_false_iff.mpr b)) c34
          have c9 : osN (I (111 + 2 * r + 1)) n (i + 1) = none := by rw [osN_s hw, if_neg c25, e, nI_clamp (by omega), if_pos c8]
          refine V_c i_X0_isOrder_37 ?_
          exact P_zret i_X0_isOrder_38 rfl (by decide) (by unfold osV at hq; rw [osN_end (by omega) c9] at hq; exact hq)
  exact key 0 (Nat.zero_le _) 0 rfl
set_option maxRecDepth 100000 in
set_option maxHeartbeats 4000000 in
theorem c_isOrder (I : IntM) (J : LngM) {n : Nat} {kd nd od : Nat → Nat} {lw pot : Nat} (hK : CK I n kd nd od lw pot) {r : Nat} (hr : r < 6) (hs : I (111 + 2 * r) 1 = nI n) : CtV 3 m_X0_isOrder [.ref 8, .ref (111 + 2 * r)] I J (.int (osV (I (111 + 2 * r + 1)) n)) I J := by
  refine CtV_of (by decide) rfl (Nat.le_of_ble_eq_true rfl) ?_
  refine V_c i_X0_isOrder_0 ?_
  refine V_is (L' := [(0, _), (1, _), (2, _)]) i_X0_isOrder_1 (by decide) ⟨rfl, rfl, rfl, trivial⟩ ?_
  refine V_c i_X0_isOrder_2 ?_
  refine V_is (L' := [(0, _), (1, _), (2, _), (3, _)]) i_X0_isOrder_3 (by decide) ⟨rfl, rfl, rfl, rfl, trivial⟩ ?_
  refine V_L (L' := [(0, _), (1, _), (2, _), (3, _)]) ⟨rfl, rfl, rfl, rfl, trivial⟩ ?_
  exact lp_isOrder I J hK hr hs rfl _ ⟨rfl, rfl, rfl⟩


/-! ===== even: the reference ===== -/
theorem div7 (r e : Nat) : r / 7 ^ e / 7 = r / 7 ^ (e + 1) := by rw [Nat.div_div_eq_div_mul, Nat.pow_succ]
theorem d7_lt {r e : Nat} (h : r < 2 ^ 31) : r / 7 ^ e < 2 ^ 31 := Nat.lt_of_le_of_lt (Nat.div_le_self _ _) h
theorem va_t {n r e : Nat} (h : vaB n r e = true) (h2 : dg r e < n) : vaB n r (e + 1) = true := by
  show (vaB n r e && decide (dg r e < n)) = true
  rw [h, decide_eq_true h2]
  rfl
theorem va_f1 {n r e : Nat} (h : ¬ vaB n r e = true) : ¬ vaB n r (e + 1) = true := fun z => h ((Bool.and_eq_true _ _ ▸ z : _ ∧ _).1)
theorem va_f2 {n r e : Nat} (h : ¬ dg r e < n) : ¬ vaB n r (e + 1) = true := fun z => h (of_decide_eq_true (Bool.and_eq_true _ _ ▸ z : _ ∧ _).2)

set_option maxRecDepth 100000 in
set_option maxHeartbeats 4000000 in
theorem lp_M_at (I : IntM) (J : LngM) {n : Nat} {kd nd od : Nat → Nat} {lw pot : Nat} (hK : MK I n kd nd od lw pot) {d r : Nat} (hd : d ≤ 4) (hr : r < 2 ^ 31) (Q : Option Value → IntM → LngM → Prop) (hq : Q (some (.int (if vaB n r d = true then (1 : Int32) else 0))) I J) : VP m_X11_areTurns 1 8 [(0, .ref 146), (2, .int (nI d)), (3, .int 1), (4, .int (nI r)), (5, .int 0)] [] I J Q := by
  have key : ∀ i, i ≤ d → VP m_X11_areTurns 1 8 [(0, .ref 146), (2, .int (nI d)), (3, .int (if vaB n r i = true then (1 : Int32) else 0)), (4, .int (nI (r / 7 ^ i))), (5, .int (nI i))] [] I J Q := by
    refine down d ?_ (fun i hi ih => ?_)
    · refine V_il i_X11_areTurns_8 rfl ?_
      refine V_il i_X11_areTurns_10 rfl ?_
      refine V_ic_ge_t i_X11_areTurns_11 (Int32.le_refl _) ?_
      refine V_il i_X11_areTurns_49 rfl ?_
      exact P_zret i_X11_areTurns_50 rfl (by split <;> simp) hq
    · refine V_il i_X11_areTurns_8 rfl ?_
      refine V_il i_X11_areTurns_10 rfl ?_
      refine V_ic_ge_f i_X11_areTurns_11 (nI_ge hi (by omega)) ?_
      refine V_il i_X11_areTurns_14 rfl ?_
      refine V_if_eq i_X11_areTurns_15 (fun c15 => ?_) (fun c15 => ?_)
      · have d1 := va_f1 (no01 c15)
        refine V_c i_X11_areTurns_34 ?_
        refine V_is (L' := [(0, _), (2, _), (3, _), (4, _), (5, _)]) i_X11_areTurns_35 (by decide) ⟨rfl, rfl, rfl, rfl, rfl, trivial⟩ ?_
        refine V_il i_X11_areTurns_36 rfl ?_
        refine V_c i_X11_areTurns_38 ?_
        refine V_idiv i_X11_areTurns_40 (by decide) ?_
        rw [show (7 : Int32) = nI 7 from rfl, pk_div (d7_lt hr) (by decide) (by decide), div7]
        refine V_is (L' := [(0, _), (2, _), (3, _), (4, _), (5, _)]) i_X11_areTurns_41 (by decide) ⟨rfl, rfl, rfl, rfl, rfl, trivial⟩ ?_
        refine V_iinc (L' := [(0, _), (2, _), (3, _), (4, _), (5, _)]) (n' := 1) i_X11_areTurns_43 (by decide) rfl (by decide) ⟨rfl, rfl, rfl, rfl, rfl, trivial⟩ ?_
        refine V_goto i_X11_areTurns_46 ?_
        refine V_L (L' := [(0, _), (2, _), (3, _), (4, _), (5, _)]) ⟨rfl, rfl, rfl, rfl, rfl, trivial⟩ ?_
        rw [show nI i + 1 = nI (i + 1) from nI_1 i]
        rw [if_neg d1] at ih
        exact ih
      · have d1 := yes01 c15
        refine V_il i_X11_areTurns_18 rfl ?_
        refine V_c i_X11_areTurns_20 ?_
        refine V_irem i_X11_areTurns_22 (by decide) ?_
        rw [show (7 : Int32) = nI 7 from rfl, pk_rem (d7_lt hr) (by decide) (by decide)]
        refine V_al i_X11_areTurns_23 rfl ?_
        refine V_getI i_X11_areTurns_24 rfl ?_
        rw [hK.sz]
        refine V_ic_ge i_X11_areTurns_27 (fun c27 => ?_) (fun c27 => ?_)
        · have d2 := va_f2 (n := n) (r := r) (e := i) (fun z => Int32.not_lt.mpr c27 ((nI_ltI (by have := dg_lt r i; omega) (by have := hK.n7; omega)).mpr z))
          refine V_c i_X11_areTurns_34 ?_
          refine V_is (L' := [(0, _), (2, _), (3, _), (4, _), (5, _)]) i_X11_areTurns_35 (by decide) ⟨rfl, rfl, rfl, rfl, rfl, trivial⟩ ?_
          refine V_il i_X11_areTurns_36 rfl ?_
          refine V_c i_X11_areTurns_38 ?_
          refine V_idiv i_X11_areTurns_40 (by decide) ?_
          rw [show (7 : Int32) = nI 7 from rfl, pk_div (d7_lt hr) (by decide) (by decide), div7]
          refine V_is (L' := [(0, _), (2, _), (3, _), (4, _), (5, _)]) i_X11_areTurns_41 (by decide) ⟨rfl, rfl, rfl, rfl, rfl, trivial⟩ ?_
          refine V_iinc (L' := [(0, _), (2, _), (3, _), (4, _), (5, _)]) (n' := 1) i_X11_areTurns_43 (by decide) rfl (by decide) ⟨rfl, rfl, rfl, rfl, rfl, trivial⟩ ?_
          refine V_goto i_X11_areTurns_46 ?_
          refine V_L (L' := [(0, _), (2, _), (3, _), (4, _), (5, _)]) ⟨rfl, rfl, rfl, rfl, rfl, trivial⟩ ?_
          rw [show nI i + 1 = nI (i + 1) from nI_1 i]
          rw [if_neg d2] at ih
          exact ih
        · have d2 := va_t d1 ((nI_ltI (a := dg r i) (by have := dg_lt r i; omega) (by have := hK.n7; omega)).mp (Int32.not_le.mp c27))
          refine V_c i_X11_areTurns_30 ?_
          refine V_goto i_X11_areTurns_31 ?_
          refine V_is (L' := [(0, _), (2, _), (3, _), (4, _), (5, _)]) i_X11_areTurns_35 (by decide) ⟨rfl, rfl, rfl, rfl, rfl, trivial⟩ ?_
          refine V_il i_X11_areTurns_36 rfl ?_
          refine V_c i_X11_areTurns_38 ?_
          refine V_idiv i_X11_areTurns_40 (by decide) ?_
          rw [show (7 : Int32) = nI 7 from rfl, pk_div (d7_lt hr) (by decide) (by decide), div7]
          refine V_is (L' := [(0, _), (2, _), (3, _), (4, _), (5, _)]) i_X11_areTurns_41 (by decide) ⟨rfl, rfl, rfl, rfl, rfl, trivial⟩ ?_
          refine V_iinc (L' := [(0, _), (2, _), (3, _), (4, _), (5, _)]) (n' := 1) i_X11_areTurns_43 (by decide) rfl (by decide) ⟨rfl, rfl, rfl, rfl, rfl, trivial⟩ ?_
          refine V_goto i_X11_areTurns_46 ?_
          refine V_L (L' := [(0, _), (2, _), (3, _), (4, _), (5, _)]) ⟨rfl, rfl, rfl, rfl, rfl, trivial⟩ ?_
          rw [show nI i + 1 = nI (i + 1) from nI_1 i]
          rw [if_pos d2] at ih
          exact ih
  have h9 := key 0 (Nat.zero_le _)
  rw [Nat.pow_zero, Nat.div_one] at h9
  exact h9
set_option maxRecDepth 100000 in
set_option maxHeartbeats 4000000 in
theorem m_at7 (I : IntM) (J : LngM) {n : Nat} {kd nd od : Nat → Nat} {lw pot : Nat} (hK : MK I n kd nd od lw pot) {d r : Nat} (hd : d ≤ 4) (hr : r < 2 ^ 31) : CtV 1 m_X11_areTurns [.ref 146, .int (nI r), .int (nI d)] I J (.int (if vaB n r d = true then (1 : Int32) else 0)) I J := by
  refine CtV_of (by decide) rfl (Nat.le_of_ble_eq_true rfl) ?_
  refine V_c i_X11_areTurns_0 ?_
  refine V_is (L' := [(0, _), (1, _), (2, _), (3, _)]) i_X11_areTurns_1 (by decide) ⟨rfl, rfl, rfl, rfl, trivial⟩ ?_
  refine V_il i_X11_areTurns_2 rfl ?_
  refine V_is (L' := [(0, _), (2, _), (3, _), (4, _)]) i_X11_areTurns_3 (by decide) ⟨rfl, rfl, rfl, rfl, trivial⟩ ?_
  refine V_c i_X11_areTurns_5 ?_
  refine V_is (L' := [(0, _), (2, _), (3, _), (4, _), (5, _)]) i_X11_areTurns_6 (by decide) ⟨rfl, rfl, rfl, rfl, rfl, trivial⟩ ?_
  refine V_L (L' := [(0, _), (2, _), (3, _), (4, _), (5, _)]) ⟨rfl, rfl, rfl, rfl, rfl, trivial⟩ ?_
  exact lp_M_at I J hK hd hr _ ⟨rfl, rfl, rfl⟩
set_option maxRecDepth 100000 in
set_option maxHeartbeats 4000000 in
theorem lp_M_ff1 (I : IntM) (J : LngM) {n : Nat} {kd nd od : Nat → Nat} {lw pot : Nat} (hK : MK I n kd nd od lw pot) {d r : Nat} {fb : Nat → Nat} (hd : d ≤ 4) (hr : r < 2 ^ 31) (hv : vaB n r d = true) (hf : AtI I 170 n fb) (hfb : ∀ t, t < n → fb t < 128) {k l : Nat} (hk : k < n) (Q : Option Value → IntM → LngM → Prop) (hq : VP m_X11_fewestFed 1 62 [(0, .ref 146), (1, .int (nI r)), (2, .int (nI d)), (3, .int (nI l)), (4, .int (nI k)), (5, .int (nI (tmN fb (dg r) d k)))] [] I J Q) : VP m_X11_fewestFed 1 23 [(0, .ref 146), (1, .int (nI r)), (2, .int (nI d)), (3, .int (nI l)), (4, .int (nI k)), (5, .int 0), (6, .int (nI r)), (7, .int 0)] [] I J Q := by
  have key : ∀ i, i ≤ d → VP m_X11_fewestFed 1 23 [(0, .ref 146), (1, .int (nI r)), (2, .int (nI d)), (3, .int (nI l)), (4, .int (nI k)), (5, .int (nI (tmN fb (dg r) i k))), (6, .int (nI (r / 7 ^ i))), (7, .int (nI i))] [] I J Q := by
    refine down d ?_ (fun i hi ih => ?_)
    · refine V_il i_X11_fewestFed_23 rfl ?_
      refine V_il i_X11_fewestFed_25 rfl ?_
      refine V_ic_ge_t i_X11_fewestFed_26 (Int32.le_refl _) ?_
      exact V_L (L' := [(0, _), (1, _), (2, _), (3, _), (4, _), (5, _)]) ⟨rfl, rfl, rfl, rfl, rfl, rfl, trivial⟩ hq
    · have hdi := vaB_get.mp hv i hi
      refine V_il i_X11_fewestFed_23 rfl ?_
      refine V_il i_X11_fewestFed_25 rfl ?_
      refine V_ic_ge_f i_X11_fewestFed_26 (nI_ge hi (by omega)) ?_
      refine V_il i_X11_fewestFed_29 rfl ?_
      refine V_al i_X11_fewestFed_31 rfl ?_
      refine V_getR i_X11_fewestFed_32 rfl rfl ?_
      refine V_il i_X11_fewestFed_35 rfl ?_
      refine V_c i_X11_fewestFed_37 ?_
      refine V_irem i_X11_fewestFed_39 (by decide) ?_
      rw [show (7 : Int32) = nI 7 from rfl, pk_rem (d7_lt hr) (by decide) (by decide)]
      refine K_iald (dg r i) i_X11_fewestFed_40 rfl rfl (dg_lt r i) (by omega) ?_
      rw [show I 170 (dg r i) = nI (fb (dg r i)) from hf _ hdi]
      refine V_il i_X11_fewestFed_41 rfl ?_
      refine V_ishr i_X11_fewestFed_43 ?_
      refine V_c i_X11_fewestFed_44 ?_
      refine V_iand i_X11_fewestFed_45 ?_
      rw [shr_tab _ (hfb _ hdi) _ (by have := hK.n7; omega)]
      refine V_iadd i_X11_fewestFed_46 ?_
      rw [nI_addb]
      refine V_is (L' := [(0, _), (1, _), (2, _), (3, _), (4, _), (5, _), (6, _), (7, _)]) i_X11_fewestFed_47 (by decide) ⟨rfl, rfl, rfl, rfl, rfl, rfl, rfl, rfl, trivial⟩ ?_
      refine V_il i_X11_fewestFed_49 rfl ?_
      refine V_c i_X11_fewestFed_51 ?_
      refine V_idiv i_X11_fewestFed_53 (by decide) ?_
      rw [show (7 : Int32) = nI 7 from rfl, pk_div (d7_lt hr) (by decide) (by decide), div7]
      refine V_is (L' := [(0, _), (1, _), (2, _), (3, _), (4, _), (5, _), (6, _), (7, _)]) i_X11_fewestFed_54 (by decide) ⟨rfl, rfl, rfl, rfl, rfl, rfl, rfl, rfl, trivial⟩ ?_
      refine V_iinc (L' := [(0, _), (1, _), (2, _), (3, _), (4, _), (5, _), (6, _), (7, _)]) (n' := 1) i_X11_fewestFed_56 (by decide) rfl (by decide) ⟨rfl, rfl, rfl, rfl, rfl, rfl, rfl, rfl, trivial⟩ ?_
      refine V_goto i_X11_fewestFed_59 ?_
      refine V_L (L' := [(0, _), (1, _), (2, _), (3, _), (4, _), (5, _), (6, _), (7, _)]) ⟨rfl, rfl, rfl, rfl, rfl, rfl, rfl, rfl, trivial⟩ ?_
      rw [show nI i + 1 = nI (i + 1) from nI_1 i]
      exact ih
  have h9 := key 0 (Nat.zero_le _)
  rw [Nat.pow_zero, Nat.div_one] at h9
  exact h9
set_option maxRecDepth 100000 in
set_option maxHeartbeats 4000000 in
theorem lp_M_ff2 (I : IntM) (J : LngM) {n : Nat} {kd nd od : Nat → Nat} {lw pot : Nat} (hK : MK I n kd nd od lw pot) {d r : Nat} {fb : Nat → Nat} (hd : d ≤ 4) (hr : r < 2 ^ 31) (hv : vaB n r d = true) (hf : AtI I 170 n fb) (hfb : ∀ t, t < n → fb t < 128) (Q : Option Value → IntM → LngM → Prop) (hq : Q (some (.int (nI (fwN (tmN fb (dg r) d) d n)))) I J) : VP m_X11_fewestFed 1 5 [(0, .ref 146), (1, .int (nI r)), (2, .int (nI d)), (3, .int (nI d)), (4, .int 0)] [] I J Q := by
  have key : ∀ i, i ≤ n → VP m_X11_fewestFed 1 5 [(0, .ref 146), (1, .int (nI r)), (2, .int (nI d)), (3, .int (nI (fwN (tmN fb (dg r) d) d i))), (4, .int (nI i))] [] I J Q := by
    refine down n ?_ (fun i hi ih => ?_)
    · refine V_il i_X11_fewestFed_5 rfl ?_
      refine V_al i_X11_fewestFed_7 rfl ?_
      refine V_getI i_X11_fewestFed_8 rfl ?_
      refine V_ic_ge_t i_X11_fewestFed_11 (by rw [hK.sz]; exact Int32.le_refl _) ?_
      refine V_il i_X11_fewestFed_81 rfl ?_
      exact P_iret i_X11_fewestFed_82 rfl hq
    · have b1 := fwN_le (T := tmN fb (dg r) d) (d := d) i
      have b2 := tmN_le (fb := fb) (c := dg r) (k := i) d
      refine V_il i_X11_fewestFed_5 rfl ?_
      refine V_al i_X11_fewestFed_7 rfl ?_
      refine V_getI i_X11_fewestFed_8 rfl ?_
      refine V_ic_ge_f i_X11_fewestFed_11 (by rw [hK.sz]; exact nI_ge hi (by have := hK.n7; omega)) ?_
      refine V_c i_X11_fewestFed_14 ?_
      refine V_is (L' := [(0, _), (1, _), (2, _), (3, _), (4, _), (5, _)]) i_X11_fewestFed_15 (by decide) ⟨rfl, rfl, rfl, rfl, rfl, rfl, trivial⟩ ?_
      refine V_il i_X11_fewestFed_17 rfl ?_
      refine V_is (L' := [(0, _), (1, _), (2, _), (3, _), (4, _), (5, _), (6, _)]) i_X11_fewestFed_18 (by decide) ⟨rfl, rfl, rfl, rfl, rfl, rfl, rfl, trivial⟩ ?_
      refine V_c i_X11_fewestFed_20 ?_
      refine V_is (L' := [(0, _), (1, _), (2, _), (3, _), (4, _), (5, _), (6, _), (7, _)]) i_X11_fewestFed_21 (by decide) ⟨rfl, rfl, rfl, rfl, rfl, rfl, rfl, rfl, trivial⟩ ?_
      refine V_L (L' := [(0, _), (1, _), (2, _), (3, _), (4, _), (5, _), (6, _), (7, _)]) ⟨rfl, rfl, rfl, rfl, rfl, rfl, rfl, rfl, trivial⟩ ?_
      refine lp_M_ff1 I J hK hd hr hv hf hfb hi Q ?_
      refine V_il i_X11_fewestFed_62 rfl ?_
      refine V_il i_X11_fewestFed_64 rfl ?_
      refine V_ic_ge i_X11_fewestFed_65 (fun c65 => ?_) (fun c65 => ?_)
      · have d1 := (nI_leI (by omega) (by omega)).mp c65
        refine V_il i_X11_fewestFed_73 rfl ?_
        refine V_is (L' := [(0, _), (1, _), (2, _), (3, _), (4, _)]) i_X11_fewestFed_74 (by decide) ⟨rfl, rfl, rfl, rfl, rfl, trivial⟩ ?_
        refine V_iinc (L' := [(0, _), (1, _), (2, _), (3, _), (4, _)]) (n' := 1) i_X11_fewestFed_75 (by decide) rfl (by decide) ⟨rfl, rfl, rfl, rfl, rfl, trivial⟩ ?_
        refine V_goto i_X11_fewestFed_78 ?_
        refine V_L (L' := [(0, _), (1, _), (2, _), (3, _), (4, _)]) ⟨rfl, rfl, rfl, rfl, rfl, trivial⟩ ?_
        rw [show nI i + 1 = nI (i + 1) from nI_1 i]
        rw [show fwN (tmN fb (dg r) d) d (i + 1) = fwN (tmN fb (dg r) d) d i from Nat.min_eq_left d1] at ih
        exact ih
      · have d1 : ¬ fwN (tmN fb (dg r) d) d i ≤ tmN fb (dg r) d i := fun z => c65 ((nI_leI (by omega) (by omega)).mpr z)
        refine V_il i_X11_fewestFed_68 rfl ?_
        refine V_goto i_X11_fewestFed_70 ?_
        refine V_is (L' := [(0, _), (1, _), (2, _), (3, _), (4, _)]) i_X11_fewestFed_74 (by decide) ⟨rfl, rfl, rfl, rfl, rfl, trivial⟩ ?_
        refine V_iinc (L' := [(0, _), (1, _), (2, _), (3, _), (4, _)]) (n' := 1) i_X11_fewestFed_75 (by decide) rfl (by decide) ⟨rfl, rfl, rfl, rfl, rfl, trivial⟩ ?_
        refine V_goto i_X11_fewestFed_78 ?_
        refine V_L (L' := [(0, _), (1, _), (2, _), (3, _), (4, _)]) ⟨rfl, rfl, rfl, rfl, rfl, trivial⟩ ?_
        rw [show nI i + 1 = nI (i + 1) from nI_1 i]
        rw [show fwN (tmN fb (dg r) d) d (i + 1) = tmN fb (dg r) d i from Nat.min_eq_right (by omega)] at ih
        exact ih
  exact key 0 (Nat.zero_le _)
set_option maxRecDepth 100000 in
set_option maxHeartbeats 4000000 in
theorem m_ff (I : IntM) (J : LngM) {n : Nat} {kd nd od : Nat → Nat} {lw pot : Nat} (hK : MK I n kd nd od lw pot) {d r : Nat} {fb : Nat → Nat} (hd : d ≤ 4) (hr : r < 2 ^ 31) (hv : vaB n r d = true) (hf : AtI I 170 n fb) (hfb : ∀ t, t < n → fb t < 128) : CtV 1 m_X11_fewestFed [.ref 146, .int (nI r), .int (nI d)] I J (.int (nI (feN fb n d r))) I J := by
  refine CtV_of (by decide) rfl (Nat.le_of_ble_eq_true rfl) ?_
  refine V_il i_X11_fewestFed_0 rfl ?_
  refine V_is (L' := [(0, _), (1, _), (2, _), (3, _)]) i_X11_fewestFed_1 (by decide) ⟨rfl, rfl, rfl, rfl, trivial⟩ ?_
  refine V_c i_X11_fewestFed_2 ?_
  refine V_is (L' := [(0, _), (1, _), (2, _), (3, _), (4, _)]) i_X11_fewestFed_3 (by decide) ⟨rfl, rfl, rfl, rfl, rfl, trivial⟩ ?_
  refine V_L (L' := [(0, _), (1, _), (2, _), (3, _), (4, _)]) ⟨rfl, rfl, rfl, rfl, rfl, trivial⟩ ?_
  exact lp_M_ff2 I J hK hd hr hv hf hfb _ ⟨rfl, rfl, rfl⟩
theorem FrM.f170 {I I' : IntM} (J : LngM) (h : ∀ a b, a ≠ 170 → I' a b = I a b) : FrM I J I' J := ⟨fun x k q => h x k (by unfold pI at q; omega), fun _ _ _ => rfl⟩
theorem in_no4 {y : Int32} (q : y < 1 ∨ 4 < y) : inL y.toInt64 1 4 = 0 := by
  unfold inL
  rcases q with q | q
  · rw [if_pos (by rw [Int64.lt_iff_toInt_lt, Int32.toInt_toInt64]; exact Int32.lt_iff_toInt_lt.mp q)]
  · by_cases h : y.toInt64 < 1
    · rw [if_pos h]
    · rw [if_neg h, if_pos (by rw [Int64.lt_iff_toInt_lt, Int32.toInt_toInt64]; exact Int32.lt_iff_toInt_lt.mp q)]
theorem m_turnedX (I : IntM) (J : LngM) {n : Nat} {kd nd od : Nat → Nat} {lw pot : Nat} (hK : MK I n kd nd od lw pot) {t : Nat} (ht : t ≤ 100) : CtP 1 m_X11_seatsTurned [.ref 146, .int (nI t)] I J (fun r I1 J1 => r = none ∧ FrM I J I1 J1 ∧ (∀ a b, a ≠ 157 → I1 a b = I a b) ∧ AtI I1 157 n (fun i => od ((i + t) % n)) ∧ J = J1) := by
  refine CtP_mono (c_M_turned I J hK.n7 hK.sz ht) (fun r I1 J1 q => ?_)
  obtain ⟨rfl, rfl, rfl⟩ := q
  exact ⟨rfl, putI_M _ _ _ _, fun a b h => by unfold putI; rw [if_neg (fun z => h z.1)], putI_At (fun k hk => hK.od _ (Nat.mod_lt _ (by omega))), rfl⟩
set_option maxRecDepth 100000 in
set_option maxHeartbeats 4000000 in
theorem lp_M_ev1 (I : IntM) (J : LngM) {n : Nat} {kd nd od : Nat → Nat} {lw pot : Nat} (hK : MK I n kd nd od lw pot) {d how : Nat} (hh : how ≤ 1) (Q : Option Value → IntM → LngM → Prop) (hq : ∀ I1 J1, FrM I J I1 J1 → AtI I1 170 n (ebN kd nd lw how (pot * un how) od n) → VP m_X11_even 7 76 [(0, .ref 146), (1, .int (nI d))] [] I1 J1 Q) : VP m_X11_even 7 33 [(0, .ref 146), (1, .int (nI d)), (2, .int (nI how)), (3, .int 0)] [] I J Q := by
  have key : ∀ i, i ≤ n → ∀ I1 J1, FrM I J I1 J1 → AtI I1 170 i (ebN kd nd lw how (pot * un how) od n) → VP m_X11_even 7 33 [(0, .ref 146), (1, .int (nI d)), (2, .int (nI how)), (3, .int (nI i))] [] I1 J1 Q := by
    refine down n ?_ (fun i hi ih => ?_)
    · intro I1 J1 f1 e1
      have k1 := FrM.K f1 hK
      refine V_il i_X11_even_33 rfl ?_
      refine V_al i_X11_even_34 rfl ?_
      refine V_getI i_X11_even_35 rfl ?_
      refine V_ic_ge_t i_X11_even_38 (by rw [k1.sz]; exact Int32.le_refl _) ?_
      exact V_L (L' := [(0, _), (1, _)]) ⟨rfl, rfl, trivial⟩ (hq I1 J1 f1 e1)
    · intro I1 J1 f1 e1
      have k1 := FrM.K f1 hK
      refine V_il i_X11_even_33 rfl ?_
      refine V_al i_X11_even_34 rfl ?_
      refine V_getI i_X11_even_35 rfl ?_
      refine V_ic_ge_f i_X11_even_38 (by rw [k1.sz]; exact nI_ge hi (by have := hK.n7; omega)) ?_
      refine V_al i_X11_even_41 rfl ?_
      refine V_il i_X11_even_42 rfl ?_
      refine P_callV1 i_X11_even_43 mi_X11_seatsTurned rfl ⟨_, _, rfl⟩ (by decide) (Nat.le_of_ble_eq_true rfl) (m_turnedX I1 J1 k1 (t := i) (by have := hK.n7; omega)) (fun r I2 Jx q => ?_)
      obtain ⟨rfl, f2, x2, a2, rfl⟩ := q
      have k2 := FrM.K f2 k1
      refine V_al i_X11_even_46 rfl ?_
      refine V_il i_X11_even_47 rfl ?_
      refine V_al i_X11_even_48 rfl ?_
      refine V_getI i_X11_even_49 rfl ?_
      rw [k2.pt]
      refine V_al i_X11_even_52 rfl ?_
      refine V_getI i_X11_even_53 rfl ?_
      rw [k2.lw]
      refine V_c i_X11_even_56 ?_
      refine P_callV4 i_X11_even_57 mi_X11_goes rfl ⟨_, _, rfl⟩ (by decide) (Nat.le_of_ble_eq_true rfl) (m_goes0 I2 J1 k2 hh k2.l3 k2.p9 a2 (Pm_turn hK.P i)) (fun r Ix J2 q => ?_)
      obtain ⟨rfl, rfl, j2, g2⟩ := q
      refine V_al i_X11_even_60 rfl ?_
      refine V_getR i_X11_even_61 rfl rfl ?_
      refine V_il i_X11_even_64 rfl ?_
      refine V_al i_X11_even_65 rfl ?_
      refine P_callV0v i_X11_even_66 mi_X11_fedSet rfl ⟨_, _, rfl⟩ (by decide) (Nat.le_of_ble_eq_true rfl) (m_fset I2 J2 k2 k2.p9 g2) ?_
      refine K_iast i i_X11_even_69 rfl rfl (by have := hK.n7; omega) (by omega) ?_
      refine V_iinc (L' := [(0, _), (1, _), (2, _), (3, _)]) (n' := 1) i_X11_even_70 (by decide) rfl (by decide) ⟨rfl, rfl, rfl, rfl, trivial⟩ ?_
      refine V_goto i_X11_even_73 ?_
      refine V_L (L' := [(0, _), (1, _), (2, _), (3, _)]) ⟨rfl, rfl, rfl, rfl, trivial⟩ ?_
      rw [show nI i + 1 = nI (i + 1) from nI_1 i]
      exact ih _ J2 (FrM.tr f1 (FrM.tr f2 (FrM.tr (FrJ.M I2 j2) (FrM.f170 J2 (fun a b h => uI_nx h))))) (fun k hk => by
        by_cases hki : k = i
        · rw [hki, uI_eq]
          rfl
        · rw [uI_nk hki, x2 _ _ (by decide)]
          exact e1 k (by omega))
  exact key 0 (Nat.zero_le _) I J FrM.rf (fun k hk => absurd hk (Nat.not_lt_zero k))
set_option maxRecDepth 100000 in
set_option maxHeartbeats 4000000 in
theorem lp_M_ev2 (I : IntM) (J : LngM) {d : Nat} (hd : d ≤ 4) (Q : Option Value → IntM → LngM → Prop) (hq : VP m_X11_even 7 98 [(0, .ref 146), (1, .int (nI d)), (3, .int (nI (7 ^ d)))] [] I J Q) : VP m_X11_even 7 81 [(0, .ref 146), (1, .int (nI d)), (3, .int 1), (4, .int 0)] [] I J Q := by
  have key : ∀ i, i ≤ d → VP m_X11_even 7 81 [(0, .ref 146), (1, .int (nI d)), (3, .int (nI (7 ^ i))), (4, .int (nI i))] [] I J Q := by
    refine down d ?_ (fun i hi ih => ?_)
    · refine V_il i_X11_even_81 rfl ?_
      refine V_il i_X11_even_83 rfl ?_
      refine V_ic_ge_t i_X11_even_84 (Int32.le_refl _) ?_
      exact V_L (L' := [(0, _), (1, _), (3, _)]) ⟨rfl, rfl, rfl, trivial⟩ hq
    · refine V_il i_X11_even_81 rfl ?_
      refine V_il i_X11_even_83 rfl ?_
      refine V_ic_ge_f i_X11_even_84 (nI_ge hi (by omega)) ?_
      refine V_il i_X11_even_87 rfl ?_
      refine V_c i_X11_even_88 ?_
      refine V_imul i_X11_even_90 ?_
      rw [show (7 : Int32) = nI 7 from rfl, pk_mul, ← Nat.pow_succ]
      refine V_is (L' := [(0, _), (1, _), (3, _), (4, _)]) i_X11_even_91 (by decide) ⟨rfl, rfl, rfl, rfl, trivial⟩ ?_
      refine V_iinc (L' := [(0, _), (1, _), (3, _), (4, _)]) (n' := 1) i_X11_even_92 (by decide) rfl (by decide) ⟨rfl, rfl, rfl, rfl, trivial⟩ ?_
      refine V_goto i_X11_even_95 ?_
      refine V_L (L' := [(0, _), (1, _), (3, _), (4, _)]) ⟨rfl, rfl, rfl, rfl, trivial⟩ ?_
      rw [show nI i + 1 = nI (i + 1) from nI_1 i]
      exact ih
  exact key 0 (Nat.zero_le _)
set_option maxRecDepth 100000 in
set_option maxHeartbeats 4000000 in
theorem lp_M_ev3 (I : IntM) (J : LngM) {n : Nat} {kd nd od : Nat → Nat} {lw pot : Nat} (hK : MK I n kd nd od lw pot) {d : Nat} {fb : Nat → Nat} (hd : d ≤ 4) (hf : AtI I 170 n fb) (hfb : ∀ t, fb t < 128) (Q : Option Value → IntM → LngM → Prop) (hq : VP m_X11_even 7 174 [(0, .ref 146), (4, .int (bIv (evN fb n d (7 ^ d)).1)), (5, .int (nI (evN fb n d (7 ^ d)).2))] [] I J Q) : VP m_X11_even 7 107 [(0, .ref 146), (1, .int (nI d)), (3, .int (nI (7 ^ d))), (4, .int (-1)), (5, .int 0), (6, .int 0)] [] I J Q := by
  have hp7 := p7 hd
  have key : ∀ i, i ≤ 7 ^ d → VP m_X11_even 7 107 [(0, .ref 146), (1, .int (nI d)), (3, .int (nI (7 ^ d))), (4, .int (bIv (evN fb n d i).1)), (5, .int (nI (evN fb n d i).2)), (6, .int (nI i))] [] I J Q := by
    refine down (7 ^ d) ?_ (fun i hi ih => ?_)
    · refine V_il i_X11_even_107 rfl ?_
      refine V_il i_X11_even_109 rfl ?_
      refine V_ic_ge_t i_X11_even_110 (Int32.le_refl _) ?_
      exact V_L (L' := [(0, _), (4, _), (5, _)]) ⟨rfl, rfl, rfl, trivial⟩ hq
    · have hev := ev_le (fb := fb) (n := n) (d := d) i
      have hvv : vvN fb n d i ≤ d + 1 := by
        unfold vvN
        split
        · exact Nat.succ_le_succ (fwN_le n)
        · exact Nat.zero_le _
      have tail : VP m_X11_even 7 134 [(0, .ref 146), (1, .int (nI d)), (3, .int (nI (7 ^ d))), (4, .int (bIv (evN fb n d i).1)), (5, .int (nI (evN fb n d i).2)), (6, .int (nI i))] [.int (bIv (vvN fb n d i))] I J Q := by
        refine V_is (L' := [(0, _), (1, _), (3, _), (4, _), (5, _), (6, _), (7, _)]) i_X11_even_134 (by decide) ⟨rfl, rfl, rfl, rfl, rfl, rfl, rfl, trivial⟩ ?_
        refine V_il i_X11_even_136 rfl ?_
        refine V_il i_X11_even_138 rfl ?_
        refine V_ic_le i_X11_even_140 (fun c140 => ?_) (fun c140 => ?_)
        · have d1 := ev_f (fb := fb) (n := n) (d := d) (x := i) (fun z => absurd ((bIv_lt (by omega) (by omega)).mpr z) (Int32.not_lt.mpr c140))
          refine V_il i_X11_even_148 rfl ?_
          refine V_is (L' := [(0, _), (1, _), (3, _), (4, _), (5, _), (6, _), (7, _)]) i_X11_even_150 (by decide) ⟨rfl, rfl, rfl, rfl, rfl, rfl, rfl, trivial⟩ ?_
          refine V_L (L' := [(0, _), (1, _), (3, _), (4, _), (5, _), (6, _), (7, _)]) ⟨rfl, rfl, rfl, rfl, rfl, rfl, rfl, trivial⟩ ?_
          refine V_il i_X11_even_152 rfl ?_
          refine V_il i_X11_even_154 rfl ?_
          refine V_ic_le_t i_X11_even_156 c140 ?_
          refine V_il i_X11_even_164 rfl ?_
          refine V_is (L' := [(0, _), (1, _), (3, _), (4, _), (5, _), (6, _)]) i_X11_even_166 (by decide) ⟨rfl, rfl, rfl, rfl, rfl, rfl, trivial⟩ ?_
          refine V_iinc (L' := [(0, _), (1, _), (3, _), (4, _), (5, _), (6, _)]) (n' := 1) i_X11_even_168 (by decide) rfl (by decide) ⟨rfl, rfl, rfl, rfl, rfl, rfl, trivial⟩ ?_
          refine V_goto i_X11_even_171 ?_
          refine V_L (L' := [(0, _), (1, _), (3, _), (4, _), (5, _), (6, _)]) ⟨rfl, rfl, rfl, rfl, rfl, rfl, trivial⟩ ?_
          rw [show nI i + 1 = nI (i + 1) from nI_1 i]
          rw [d1] at ih
          exact ih
        · have d1 := ev_t (fb := fb) (n := n) (d := d) (x := i) ((bIv_lt (by omega) (by omega)).mp (Int32.not_le.mp c140))
          refine V_il i_X11_even_143 rfl ?_
          refine V_goto i_X11_even_145 ?_
          refine V_is (L' := [(0, _), (1, _), (3, _), (4, _), (5, _), (6, _), (7, _)]) i_X11_even_150 (by decide) ⟨rfl, rfl, rfl, rfl, rfl, rfl, rfl, trivial⟩ ?_
          refine V_L (L' := [(0, _), (1, _), (3, _), (4, _), (5, _), (6, _), (7, _)]) ⟨rfl, rfl, rfl, rfl, rfl, rfl, rfl, trivial⟩ ?_
          refine V_il i_X11_even_152 rfl ?_
          refine V_il i_X11_even_154 rfl ?_
          refine V_ic_le_f i_X11_even_156 c140 ?_
          refine V_il i_X11_even_159 rfl ?_
          refine V_goto i_X11_even_161 ?_
          refine V_is (L' := [(0, _), (1, _), (3, _), (4, _), (5, _), (6, _)]) i_X11_even_166 (by decide) ⟨rfl, rfl, rfl, rfl, rfl, rfl, trivial⟩ ?_
          refine V_iinc (L' := [(0, _), (1, _), (3, _), (4, _), (5, _), (6, _)]) (n' := 1) i_X11_even_168 (by decide) rfl (by decide) ⟨rfl, rfl, rfl, rfl, rfl, rfl, trivial⟩ ?_
          refine V_goto i_X11_even_171 ?_
          refine V_L (L' := [(0, _), (1, _), (3, _), (4, _), (5, _), (6, _)]) ⟨rfl, rfl, rfl, rfl, rfl, rfl, trivial⟩ ?_
          rw [show nI i + 1 = nI (i + 1) from nI_1 i]
          rw [d1] at ih
          exact ih
      refine V_il i_X11_even_107 rfl ?_
      refine V_il i_X11_even_109 rfl ?_
      refine V_ic_ge_f i_X11_even_110 (nI_ge hi (by omega)) ?_
      refine V_al i_X11_even_113 rfl ?_
      refine V_il i_X11_even_114 rfl ?_
      refine V_il i_X11_even_116 rfl ?_
      refine P_callV2v i_X11_even_117 mi_X11_areTurns rfl ⟨_, _, rfl⟩ (by decide) (Nat.le_of_ble_eq_true rfl) (m_at7 I J hK hd (show i < 2 ^ 31 by omega)) ?_
      refine V_if_eq i_X11_even_120 (fun c120 => ?_) (fun c120 => ?_)
      · have d1 : vvN fb n d i = 0 := if_neg (no01 c120)
        refine V_c i_X11_even_133 ?_
        refine V_L (L' := [(0, _), (1, _), (3, _), (4, _), (5, _), (6, _)]) ⟨rfl, rfl, rfl, rfl, rfl, rfl, trivial⟩ ?_
        rw [d1] at tail
        exact tail
      · have d0 := yes01 c120
        have d1 : vvN fb n d i = feN fb n d i + 1 := if_pos d0
        refine V_al i_X11_even_123 rfl ?_
        refine V_il i_X11_even_124 rfl ?_
        refine V_il i_X11_even_126 rfl ?_
        refine P_callV2v i_X11_even_127 mi_X11_fewestFed rfl ⟨_, _, rfl⟩ (by decide) (Nat.le_of_ble_eq_true rfl) (m_ff I J hK hd (show i < 2 ^ 31 by omega) d0 hf (fun t ht => hfb t)) ?_
        refine V_goto i_X11_even_130 ?_
        refine V_L (L' := [(0, _), (1, _), (3, _), (4, _), (5, _), (6, _)]) ⟨rfl, rfl, rfl, rfl, rfl, rfl, trivial⟩ ?_
        rw [d1, bIv_s] at tail
        exact tail
  exact key 0 (Nat.zero_le _)
set_option maxRecDepth 100000 in
set_option maxHeartbeats 4000000 in
theorem m_even0 (I : IntM) (J : LngM) {n : Nat} {kd nd od : Nat → Nat} {lw pot : Nat} (hK : MK I n kd nd od lw pot) {x y : Int32} (h : x < 1 ∨ 4 < x ∨ howv y = 0) : CtP 7 m_X11_even [.ref 146, .int x, .int y] I J (QM I J (.int (-1)) none none none) := by
  refine CtP_of (by decide) rfl (Nat.le_of_ble_eq_true rfl) ?_
  refine V_il i_X11_even_0 rfl ?_
  refine V_i2l i_X11_even_1 ?_
  refine V_cl i_X11_even_2 ?_
  refine V_cl i_X11_even_3 ?_
  refine P_callS3v i_X11_even_6 ms_X11_in (by decide) (Nat.le_of_ble_eq_true rfl) (c_M_in _ _ _ _ _) ?_
  refine V_if_eq i_X11_even_9 (fun c9 => ?_) (fun c9 => ?_)
  · refine V_c i_X11_even_19 ?_
    exact P_iret i_X11_even_20 rfl ⟨rfl, I, J, FrM.rf, rfl, rfl⟩
  · have c9 : ¬ (x < 1 ∨ 4 < x) := fun z => c9 (in_no4 z)
    refine V_il i_X11_even_12 rfl ?_
    refine P_callS1v i_X11_even_13 ms_X11_isHow (by decide) (Nat.le_of_ble_eq_true rfl) (c_M_isHow _ _ _) ?_
    refine V_if_ne_f i_X11_even_16 (by rcases h with h | h | h; exact absurd (Or.inl h) c9; exact absurd (Or.inr h) c9; exact h) ?_
    refine V_c i_X11_even_19 ?_
    exact P_iret i_X11_even_20 rfl ⟨rfl, I, J, FrM.rf, rfl, rfl⟩
set_option maxRecDepth 100000 in
set_option maxHeartbeats 4000000 in
theorem m_even1 (I : IntM) (J : LngM) {n : Nat} {kd nd od : Nat → Nat} {lw pot : Nat} (hK : MK I n kd nd od lw pot) {d how : Nat} (hd1 : 1 ≤ d) (hd : d ≤ 4) (hh : how ≤ 1) (h0 : n = 0) : CtP 7 m_X11_even [.ref 146, .int (nI d), .int (nI how)] I J (QM I J (.int (-4)) none none none) := by
  refine CtP_of (by decide) rfl (Nat.le_of_ble_eq_true rfl) ?_
  refine V_il i_X11_even_0 rfl ?_
  refine V_i2l i_X11_even_1 ?_
  refine V_cl i_X11_even_2 ?_
  refine V_cl i_X11_even_3 ?_
  refine P_callS3v i_X11_even_6 ms_X11_in (by decide) (Nat.le_of_ble_eq_true rfl) (c_M_in _ _ _ _ _) ?_
  refine V_if_eq_f i_X11_even_9 (by rw [show inL (nI d).toInt64 1 4 = 1 from in_yes (lo := 1) (hi := 4) hd1 hd (by decide)]; decide) ?_
  refine V_il i_X11_even_12 rfl ?_
  refine P_callS1v i_X11_even_13 ms_X11_isHow (by decide) (Nat.le_of_ble_eq_true rfl) (c_M_isHow _ _ _) ?_
  refine V_if_ne_t i_X11_even_16 (by rw [howv_nI hh]; decide) ?_
  refine V_al i_X11_even_21 rfl ?_
  refine V_getI i_X11_even_22 rfl ?_
  refine V_if_ne_f i_X11_even_25 (by rw [hK.sz, h0]; rfl) ?_
  refine V_c i_X11_even_28 ?_
  exact P_iret i_X11_even_30 rfl ⟨rfl, I, J, FrM.rf, rfl, rfl⟩
set_option maxRecDepth 100000 in
set_option maxHeartbeats 4000000 in
theorem m_even (I : IntM) (J : LngM) {n : Nat} {kd nd od : Nat → Nat} {lw pot : Nat} (hK : MK I n kd nd od lw pot) {d how : Nat} (hd1 : 1 ≤ d) (hd : d ≤ 4) (hh : how ≤ 1) (h0 : 0 < n) : CtP 7 m_X11_even [.ref 146, .int (nI d), .int (nI how)] I J (QM I J (.int (bIv (evN (ebN kd nd lw how (pot * un how) od n) n d (7 ^ d)).1)) (some (nI (evN (ebN kd nd lw how (pot * un how) od n) n d (7 ^ d)).2)) none none) := by
  refine CtP_of (by decide) rfl (Nat.le_of_ble_eq_true rfl) ?_
  refine V_il i_X11_even_0 rfl ?_
  refine V_i2l i_X11_even_1 ?_
  refine V_cl i_X11_even_2 ?_
  refine V_cl i_X11_even_3 ?_
  refine P_callS3v i_X11_even_6 ms_X11_in (by decide) (Nat.le_of_ble_eq_true rfl) (c_M_in _ _ _ _ _) ?_
  refine V_if_eq_f i_X11_even_9 (by rw [show inL (nI d).toInt64 1 4 = 1 from in_yes (lo := 1) (hi := 4) hd1 hd (by decide)]; decide) ?_
  refine V_il i_X11_even_12 rfl ?_
  refine P_callS1v i_X11_even_13 ms_X11_isHow (by decide) (Nat.le_of_ble_eq_true rfl) (c_M_isHow _ _ _) ?_
  refine V_if_ne_t i_X11_even_16 (by rw [howv_nI hh]; decide) ?_
  refine V_al i_X11_even_21 rfl ?_
  refine V_getI i_X11_even_22 rfl ?_
  refine V_if_ne_t i_X11_even_25 (by rw [hK.sz]; exact nI_ne0 h0 (by have := hK.n7; omega)) ?_
  refine V_c i_X11_even_31 ?_
  refine V_is (L' := [(0, _), (1, _), (2, _), (3, _)]) i_X11_even_32 (by decide) ⟨rfl, rfl, rfl, rfl, trivial⟩ ?_
  refine V_L (L' := [(0, _), (1, _), (2, _), (3, _)]) ⟨rfl, rfl, rfl, rfl, trivial⟩ ?_
  refine lp_M_ev1 I J hK hh _ (fun I1 J1 f1 e1 => ?_)
  have k1 := FrM.K f1 hK
  refine V_c i_X11_even_76 ?_
  refine V_is (L' := [(0, _), (1, _), (3, _)]) i_X11_even_77 (by decide) ⟨rfl, rfl, rfl, trivial⟩ ?_
  refine V_c i_X11_even_78 ?_
  refine V_is (L' := [(0, _), (1, _), (3, _), (4, _)]) i_X11_even_79 (by decide) ⟨rfl, rfl, rfl, rfl, trivial⟩ ?_
  refine V_L (L' := [(0, _), (1, _), (3, _), (4, _)]) ⟨rfl, rfl, rfl, rfl, trivial⟩ ?_
  refine lp_M_ev2 I1 J1 hd _ ?_
  refine V_c i_X11_even_98 ?_
  refine V_is (L' := [(0, _), (1, _), (3, _), (4, _)]) i_X11_even_99 (by decide) ⟨rfl, rfl, rfl, rfl, trivial⟩ ?_
  refine V_c i_X11_even_101 ?_
  refine V_is (L' := [(0, _), (1, _), (3, _), (4, _), (5, _)]) i_X11_even_102 (by decide) ⟨rfl, rfl, rfl, rfl, rfl, trivial⟩ ?_
  refine V_c i_X11_even_104 ?_
  refine V_is (L' := [(0, _), (1, _), (3, _), (4, _), (5, _), (6, _)]) i_X11_even_105 (by decide) ⟨rfl, rfl, rfl, rfl, rfl, rfl, trivial⟩ ?_
  refine V_L (L' := [(0, _), (1, _), (3, _), (4, _), (5, _), (6, _)]) ⟨rfl, rfl, rfl, rfl, rfl, rfl, trivial⟩ ?_
  refine lp_M_ev3 I1 J1 k1 hd e1 (ebN_lt hK.n7) _ ?_
  refine V_al i_X11_even_174 rfl ?_
  refine V_il i_X11_even_175 rfl ?_
  refine V_putI i_X11_even_177 rfl ?_
  refine V_il i_X11_even_180 rfl ?_
  exact P_iret i_X11_even_182 rfl ⟨rfl, I1, J1, f1, rfl, rfl⟩
theorem p_even {I : IntM} {J : LngM} (h : Inv I J) (y z : Int32) : Pair 5 m_X10_even [.ref 0, .int y, .int z] 7 m_X11_even [.ref 146, .int y, .int z] I J := by
  obtain ⟨n, kd, nd, od, lw, pot, hP, hK, hM⟩ := h.K
  by_cases hy1 : y < 1
  · exact Pair.q h (fun _ => no_f) (c_even0 I J hK (Or.inl hy1)) (fun I1 J1 e1 e2 => m_even0 I1 J1 (hM I1 e1) (Or.inl hy1))
  by_cases hy2 : 4 < y
  · exact Pair.q h (fun _ => no_f) (c_even0 I J hK (Or.inr (Or.inl hy2))) (fun I1 J1 e1 e2 => m_even0 I1 J1 (hM I1 e1) (Or.inr (Or.inl hy2)))
  obtain ⟨dd, hd1, hd2, rfl⟩ := days (m := 4) (by decide) hy1 hy2
  by_cases hz : howv z = 0
  · exact Pair.q h (fun _ => no_f) (c_even0 I J hK (Or.inr (Or.inr hz))) (fun I1 J1 e1 e2 => m_even0 I1 J1 (hM I1 e1) (Or.inr (Or.inr hz)))
  obtain ⟨how, hh, rfl⟩ := howv_yes hz
  rcases Nat.eq_zero_or_pos n with h0 | h0
  · exact Pair.q h (fun _ => no_f) (c_even1 I J hK hd1 hd2 hh h0) (fun I1 J1 e1 e2 => m_even1 I1 J1 (hM I1 e1) hd1 hd2 hh h0)
  exact Pair.q h (fun _ => no_f) (c_even I J hK hd1 hd2 hh h0) (fun I1 J1 e1 e2 => m_even I1 J1 (hM I1 e1) hd1 hd2 hh h0)

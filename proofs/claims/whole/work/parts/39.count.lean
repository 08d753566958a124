
/-! ===== count ===== -/
def cnA (kd nd : Nat → Nat) (w k : Nat) : Nat := if w = 1 then nd k else if w = 2 then (if isK kd 1 k = true then 1 else 0) else if w = 3 then (if isK kd 2 k = true then 1 else 0) else 0
def cnB (p : Nat → Bool) (q w c : Nat) : Nat := if w = q then (if p c = true then 1 else 0) else 0
def geB (I : IntM) (x c : Nat) : Bool := decide (¬ I x c < 0)
def cnS (I : IntM) (n : Nat) (kd nd : Nat → Nat) (w : Nat) : Nat := sumN (cnA kd nd w) n + sumN (cnB (geB I 163) 5 w) 3 + sumN (cnB (geB I 148) 6 w) 6 + sumN (cnB (geB I 150) 7 w) 4
def cnW (I : IntM) (n e : Nat) (kd nd : Nat → Nat) (w : Nat) : Int32 := if w = 0 then nI n else if w = 4 then nI e else nI (cnS I n kd nd w)
theorem sumN_0 {f : Nat → Nat} : ∀ {n}, (∀ k, k < n → f k = 0) → sumN f n = 0
  | 0, _ => rfl
  | n + 1, h => by
    show sumN f n + f n = 0
    rw [sumN_0 (fun k hk => h k (by omega)), h n (by omega)]
theorem sumN_cg {f g : Nat → Nat} : ∀ {n}, (∀ k, k < n → f k = g k) → sumN f n = sumN g n
  | 0, _ => rfl
  | n + 1, h => by
    show sumN f n + f n = sumN g n + g n
    rw [sumN_cg (fun k hk => h k (by omega)), h n (by omega)]
theorem sumN_p (p : Nat → Bool) : ∀ n, sumN (fun k => if p k = true then 1 else 0) n = cntN p n
  | 0 => rfl
  | n + 1 => by
    show sumN (fun k => if p k = true then 1 else 0) n + (if p n = true then 1 else 0) = if p n = true then cntN p n + 1 else cntN p n
    rw [sumN_p p n]
    split <;> omega
theorem cnB_0 {p : Nat → Bool} {q w : Nat} (h : ¬ w = q) (n : Nat) : sumN (cnB p q w) n = 0 := sumN_0 (fun k _ => if_neg h)
theorem cnB_q (p : Nat → Bool) (q n : Nat) : sumN (cnB p q q) n = cntN p n := by
  rw [← sumN_p]
  exact sumN_cg (fun k _ => if_pos rfl)
theorem cnA_0 {kd nd : Nat → Nat} {w : Nat} (h1 : ¬ w = 1) (h2 : ¬ w = 2) (h3 : ¬ w = 3) (n : Nat) : sumN (cnA kd nd w) n = 0 := sumN_0 (fun k _ => by unfold cnA; rw [if_neg h1, if_neg h2, if_neg h3])

set_option maxRecDepth 100000 in
set_option maxHeartbeats 4000000 in
theorem lp_cnA (I : IntM) (J : LngM) {n : Nat} {kd nd od : Nat → Nat} {lw pot : Nat} (hK : MK I n kd nd od lw pot) {w : Nat} (hw : w ≤ 7) (Q : Option Value → IntM → LngM → Prop) (hq : VP m_X11_countBy 2 69 [(0, .ref 146), (1, .int (nI w)), (2, .int (nI (sumN (cnA kd nd w) n)))] [] I J Q) : VP m_X11_countBy 2 4 [(0, .ref 146), (1, .int (nI w)), (2, .int 0), (3, .int 0)] [] I J Q := by
  have key : ∀ i, i ≤ n → VP m_X11_countBy 2 4 [(0, .ref 146), (1, .int (nI w)), (2, .int (nI (sumN (cnA kd nd w) i))), (3, .int (nI i))] [] I J Q := by
    refine down n ?_ (fun i hi ih => ?_)
    · refine V_il i_X11_countBy_4 rfl ?_
      refine V_al i_X11_countBy_5 rfl ?_
      refine V_getI i_X11_countBy_6 rfl ?_
      refine V_ic_ge_t i_X11_countBy_9 (by rw [hK.sz]; exact Int32.le_refl _) ?_
      exact V_L (L' := [(0, _), (1, _), (2, _)]) ⟨rfl, rfl, rfl, trivial⟩ hq
    · refine V_il i_X11_countBy_4 rfl ?_
      refine V_al i_X11_countBy_5 rfl ?_
      refine V_getI i_X11_countBy_6 rfl ?_
      refine V_ic_ge_f i_X11_countBy_9 (by rw [hK.sz]; exact nI_ge hi (by have := hK.n7; omega)) ?_
      refine V_il i_X11_countBy_12 rfl ?_
      refine V_il i_X11_countBy_13 rfl ?_
      refine V_c i_X11_countBy_14 ?_
      refine V_ic_ne i_X11_countBy_15 (fun c15 => ?_) (fun c15 => ?_)
      · have w1 : ¬ w = 1 := fun q => c15 (by rw [q]; rfl)
        refine V_il i_X11_countBy_27 rfl ?_
        refine V_c i_X11_countBy_28 ?_
        refine V_ic_ne i_X11_countBy_29 (fun c29 => ?_) (fun c29 => ?_)
        · have w2 : ¬ w = 2 := fun q => c29 (by rw [q]; rfl)
          refine V_il i_X11_countBy_41 rfl ?_
          refine V_c i_X11_countBy_42 ?_
          refine V_ic_ne i_X11_countBy_43 (fun c43 => ?_) (fun c43 => ?_)
          · have w3 : ¬ w = 3 := fun q => c43 (by rw [q]; rfl)
            refine V_c i_X11_countBy_60 ?_
            refine V_iadd i_X11_countBy_61 ?_
            refine V_is (L' := [(0, _), (1, _), (2, _), (3, _)]) i_X11_countBy_62 (by decide) ⟨rfl, rfl, rfl, rfl, trivial⟩ ?_
            refine V_iinc (L' := [(0, _), (1, _), (2, _), (3, _)]) (n' := 1) i_X11_countBy_63 (by decide) rfl (by decide) ⟨rfl, rfl, rfl, rfl, trivial⟩ ?_
            refine V_goto i_X11_countBy_66 ?_
            refine V_L (L' := [(0, _), (1, _), (2, _), (3, _)]) ⟨rfl, rfl, rfl, rfl, trivial⟩ ?_
            rw [show nI i + 1 = nI (i + 1) from nI_1 i]
            have ev : cnA kd nd w i = 0 := by unfold cnA; rw [if_neg w1, if_neg w2, if_neg w3]
            have ih2 := ih
            rw [show sumN (cnA kd nd w) (i + 1) = sumN (cnA kd nd w) i + 0 from congrArg (sumN (cnA kd nd w) i + ·) ev, ← nI_add] at ih2
            exact ih2
          · have w3 : w = 3 := (nI_eq (by omega) (by decide)).mp c43
            refine V_al i_X11_countBy_46 rfl ?_
            refine V_getR i_X11_countBy_47 rfl rfl ?_
            refine V_il i_X11_countBy_50 rfl ?_
            refine K_iald i i_X11_countBy_51 rfl rfl (by have := hK.n7; omega) (by omega) ?_
            rw [hK.M.2.1 i hi]
            refine V_c i_X11_countBy_52 ?_
            refine V_ic_ne i_X11_countBy_53 (fun c53 => ?_) (fun c53 => ?_)
            · have d2 : ¬ isK kd 2 i = true := fun q => c53 (by rw [isK2] at q; rw [of_decide_eq_true q]; rfl)
              refine V_c i_X11_countBy_60 ?_
              refine V_iadd i_X11_countBy_61 ?_
              refine V_is (L' := [(0, _), (1, _), (2, _), (3, _)]) i_X11_countBy_62 (by decide) ⟨rfl, rfl, rfl, rfl, trivial⟩ ?_
              refine V_iinc (L' := [(0, _), (1, _), (2, _), (3, _)]) (n' := 1) i_X11_countBy_63 (by decide) rfl (by decide) ⟨rfl, rfl, rfl, rfl, trivial⟩ ?_
              refine V_goto i_X11_countBy_66 ?_
              refine V_L (L' := [(0, _), (1, _), (2, _), (3, _)]) ⟨rfl, rfl, rfl, rfl, trivial⟩ ?_
              rw [show nI i + 1 = nI (i + 1) from nI_1 i]
              have ev : cnA kd nd w i = 0 := by unfold cnA; rw [if_neg w1, if_neg w2, if_pos w3, if_neg d2]
              have ih2 := ih
              rw [show sumN (cnA kd nd w) (i + 1) = sumN (cnA kd nd w) i + 0 from congrArg (sumN (cnA kd nd w) i + ·) ev, ← nI_add] at ih2
              exact ih2
            · have d2 : isK kd 2 i = true := by rw [isK2]; exact decide_eq_true ((nI_eq (by have := hK.kd i hi; omega) (by decide)).mp c53)
              refine V_c i_X11_countBy_56 ?_
              refine V_goto i_X11_countBy_57 ?_
              refine V_iadd i_X11_countBy_61 ?_
              refine V_is (L' := [(0, _), (1, _), (2, _), (3, _)]) i_X11_countBy_62 (by decide) ⟨rfl, rfl, rfl, rfl, trivial⟩ ?_
              refine V_iinc (L' := [(0, _), (1, _), (2, _), (3, _)]) (n' := 1) i_X11_countBy_63 (by decide) rfl (by decide) ⟨rfl, rfl, rfl, rfl, trivial⟩ ?_
              refine V_goto i_X11_countBy_66 ?_
              refine V_L (L' := [(0, _), (1, _), (2, _), (3, _)]) ⟨rfl, rfl, rfl, rfl, trivial⟩ ?_
              rw [show nI i + 1 = nI (i + 1) from nI_1 i]
              have ev : cnA kd nd w i = 1 := by unfold cnA; rw [if_neg w1, if_neg w2, if_pos w3, if_pos d2]
              have ih2 := ih
              rw [show sumN (cnA kd nd w) (i + 1) = sumN (cnA kd nd w) i + 1 from congrArg (sumN (cnA kd nd w) i + ·) ev, ← nI_add] at ih2
              exact ih2
        · have w2 : w = 2 := (nI_eq (by omega) (by decide)).mp c29
          refine V_al i_X11_countBy_32 rfl ?_
          refine V_il i_X11_countBy_33 rfl ?_
          refine V_c i_X11_countBy_34 ?_
          refine P_callV2v i_X11_countBy_35 mi_X11_isOf rfl ⟨_, _, rfl⟩ (by decide) (Nat.le_of_ble_eq_true rfl) (c_M_isOf _ _ hK.n7 hK.M hK.kd hi (by decide)) ?_
          refine V_if_ne i_X11_countBy_38 (fun c38 => ?_) (fun c38 => ?_)
          · have d1 : isK kd 1 i = true := yes01 c38
            refine V_c i_X11_countBy_56 ?_
            refine V_goto i_X11_countBy_57 ?_
            refine V_iadd i_X11_countBy_61 ?_
            refine V_is (L' := [(0, _), (1, _), (2, _), (3, _)]) i_X11_countBy_62 (by decide) ⟨rfl, rfl, rfl, rfl, trivial⟩ ?_
            refine V_iinc (L' := [(0, _), (1, _), (2, _), (3, _)]) (n' := 1) i_X11_countBy_63 (by decide) rfl (by decide) ⟨rfl, rfl, rfl, rfl, trivial⟩ ?_
            refine V_goto i_X11_countBy_66 ?_
            refine V_L (L' := [(0, _), (1, _), (2, _), (3, _)]) ⟨rfl, rfl, rfl, rfl, trivial⟩ ?_
            rw [show nI i + 1 = nI (i + 1) from nI_1 i]
            have ev : cnA kd nd w i = 1 := by unfold cnA; rw [if_neg w1, if_pos w2, if_pos d1]
            have ih2 := ih
            rw [show sumN (cnA kd nd w) (i + 1) = sumN (cnA kd nd w) i + 1 from congrArg (sumN (cnA kd nd w) i + ·) ev, ← nI_add] at ih2
            exact ih2
          · have d1 : ¬ isK kd 1 i = true := no01 (c38)
            refine V_il i_X11_countBy_41 rfl ?_
            refine V_c i_X11_countBy_42 ?_
            refine V_ic_ne i_X11_countBy_43 (fun c43 => ?_) (fun c43 => ?_)
            · have w3 : ¬ w = 3 := fun q => c43 (by rw [q]; rfl)
              refine V_c i_X11_countBy_60 ?_
              refine V_iadd i_X11_countBy_61 ?_
              refine V_is (L' := [(0, _), (1, _), (2, _), (3, _)]) i_X11_countBy_62 (by decide) ⟨rfl, rfl, rfl, rfl, trivial⟩ ?_
              refine V_iinc (L' := [(0, _), (1, _), (2, _), (3, _)]) (n' := 1) i_X11_countBy_63 (by decide) rfl (by decide) ⟨rfl, rfl, rfl, rfl, trivial⟩ ?_
              refine V_goto i_X11_countBy_66 ?_
              refine V_L (L' := [(0, _), (1, _), (2, _), (3, _)]) ⟨rfl, rfl, rfl, rfl, trivial⟩ ?_
              rw [show nI i + 1 = nI (i + 1) from nI_1 i]
              have ev : cnA kd nd w i = 0 := by unfold cnA; rw [if_neg w1, if_pos w2, if_neg d1]
              have ih2 := ih
              rw [show sumN (cnA kd nd w) (i + 1) = sumN (cnA kd nd w) i + 0 from congrArg (sumN (cnA kd nd w) i + ·) ev, ← nI_add] at ih2
              exact ih2
            · have w3 : w = 3 := (nI_eq (by omega) (by decide)).mp c43
              refine V_al i_X11_countBy_46 rfl ?_
              refine V_getR i_X11_countBy_47 rfl rfl ?_
              refine V_il i_X11_countBy_50 rfl ?_
              refine K_iald i i_X11_countBy_51 rfl rfl (by have := hK.n7; omega) (by omega) ?_
              rw [hK.M.2.1 i hi]
              refine V_c i_X11_countBy_52 ?_
              refine V_ic_ne i_X11_countBy_53 (fun c53 => ?_) (fun c53 => ?_)
              · have d2 : ¬ isK kd 2 i = true := fun q => c53 (by rw [isK2] at q; rw [of_decide_eq_true q]; rfl)
                refine V_c i_X11_countBy_60 ?_
                refine V_iadd i_X11_countBy_61 ?_
                refine V_is (L' := [(0, _), (1, _), (2, _), (3, _)]) i_X11_countBy_62 (by decide) ⟨rfl, rfl, rfl, rfl, trivial⟩ ?_
                refine V_iinc (L' := [(0, _), (1, _), (2, _), (3, _)]) (n' := 1) i_X11_countBy_63 (by decide) rfl (by decide) ⟨rfl, rfl, rfl, rfl, trivial⟩ ?_
                refine V_goto i_X11_countBy_66 ?_
                refine V_L (L' := [(0, _), (1, _), (2, _), (3, _)]) ⟨rfl, rfl, rfl, rfl, trivial⟩ ?_
                omega
              · have d2 : isK kd 2 i = true := by rw [isK2]; exact decide_eq_true ((nI_eq (by have := hK.kd i hi; omega) (by decide)).mp c53)
                refine V_c i_X11_countBy_56 ?_
                refine V_goto i_X11_countBy_57 ?_
                refine V_iadd i_X11_countBy_61 ?_
                refine V_is (L' := [(0, _), (1, _), (2, _), (3, _)]) i_X11_countBy_62 (by decide) ⟨rfl, rfl, rfl, rfl, trivial⟩ ?_
                refine V_iinc (L' := [(0, _), (1, _), (2, _), (3, _)]) (n' := 1) i_X11_countBy_63 (by decide) rfl (by decide) ⟨rfl, rfl, rfl, rfl, trivial⟩ ?_
                refine V_goto i_X11_countBy_66 ?_
                refine V_L (L' := [(0, _), (1, _), (2, _), (3, _)]) ⟨rfl, rfl, rfl, rfl, trivial⟩ ?_
                omega
      · have w1 : w = 1 := (nI_eq (by omega) (by decide)).mp (c15)
        refine V_al i_X11_countBy_18 rfl ?_
        refine V_getR i_X11_countBy_19 rfl rfl ?_
        refine V_il i_X11_countBy_22 rfl ?_
        refine K_iald i i_X11_countBy_23 rfl rfl (by have := hK.n7; omega) (by omega) ?_
        rw [hK.M.2.2 i hi]
        refine V_goto i_X11_countBy_24 ?_
        refine V_iadd i_X11_countBy_61 ?_
        refine V_is (L' := [(0, _), (1, _), (2, _), (3, _)]) i_X11_countBy_62 (by decide) ⟨rfl, rfl, rfl, rfl, trivial⟩ ?_
        refine V_iinc (L' := [(0, _), (1, _), (2, _), (3, _)]) (n' := 1) i_X11_countBy_63 (by decide) rfl (by decide) ⟨rfl, rfl, rfl, rfl, trivial⟩ ?_
        refine V_goto i_X11_countBy_66 ?_
        refine V_L (L' := [(0, _), (1, _), (2, _), (3, _)]) ⟨rfl, rfl, rfl, rfl, trivial⟩ ?_
        rw [show nI i + 1 = nI (i + 1) from nI_1 i]
        have ev : cnA kd nd w i = nd i := by unfold cnA; rw [if_pos w1]
        have ih2 := ih
        rw [show sumN (cnA kd nd w) (i + 1) = sumN (cnA kd nd w) i + nd i from congrArg (sumN (cnA kd nd w) i + ·) ev, ← nI_add] at ih2
        exact ih2
  exact key 0 (Nat.zero_le _)
set_option maxRecDepth 100000 in
set_option maxHeartbeats 4000000 in
theorem lp_cnB (I : IntM) (J : LngM) {w a : Nat} (hw : w ≤ 7) (Q : Option Value → IntM → LngM → Prop) (hq : VP m_X11_countBy 2 104 [(0, .ref 146), (1, .int (nI w)), (2, .int (nI (a + sumN (cnB (geB I 163) 5 w) 3)))] [] I J Q) : VP m_X11_countBy 2 71 [(0, .ref 146), (1, .int (nI w)), (2, .int (nI a)), (3, .int 0)] [] I J Q := by
  have key : ∀ i, i ≤ 3 → VP m_X11_countBy 2 71 [(0, .ref 146), (1, .int (nI w)), (2, .int (nI (a + sumN (cnB (geB I 163) 5 w) i))), (3, .int (nI i))] [] I J Q := by
    refine down 3 ?_ (fun i hi ih => ?_)
    · refine V_il i_X11_countBy_71 rfl ?_
      refine V_c i_X11_countBy_72 ?_
      refine V_ic_ge_t i_X11_countBy_73 (Int32.le_refl _) ?_
      exact V_L (L' := [(0, _), (1, _), (2, _)]) ⟨rfl, rfl, rfl, trivial⟩ hq
    · refine V_il i_X11_countBy_71 rfl ?_
      refine V_c i_X11_countBy_72 ?_
      refine V_ic_ge_f i_X11_countBy_73 (nI_ge (show i < 3 by omega) (by decide)) ?_
      refine V_il i_X11_countBy_76 rfl ?_
      refine V_il i_X11_countBy_77 rfl ?_
      refine V_c i_X11_countBy_78 ?_
      refine V_ic_ne i_X11_countBy_79 (fun c79 => ?_) (fun c79 => ?_)
      · have w1 : ¬ w = 5 := fun q => c79 (by rw [q]; rfl)
        refine V_c i_X11_countBy_95 ?_
        refine V_iadd i_X11_countBy_96 ?_
        refine V_is (L' := [(0, _), (1, _), (2, _), (3, _)]) i_X11_countBy_97 (by decide) ⟨rfl, rfl, rfl, rfl, trivial⟩ ?_
        refine V_iinc (L' := [(0, _), (1, _), (2, _), (3, _)]) (n' := 1) i_X11_countBy_98 (by decide) rfl (by decide) ⟨rfl, rfl, rfl, rfl, trivial⟩ ?_
        refine V_goto i_X11_countBy_101 ?_
        refine V_L (L' := [(0, _), (1, _), (2, _), (3, _)]) ⟨rfl, rfl, rfl, rfl, trivial⟩ ?_
        rw [show nI i + 1 = nI (i + 1) from nI_1 i]
        have ev : cnB (geB I 163) 5 w i = 0 := by unfold cnB; rw [if_neg w1]
        have ih2 := ih
        rw [show a + sumN (cnB (geB I 163) 5 w) (i + 1) = a + sumN (cnB (geB I 163) 5 w) i + 0 from by show a + (sumN (cnB (geB I 163) 5 w) i + cnB (geB I 163) 5 w i) = _; rw [ev]; rfl, ← nI_add] at ih2
        exact ih2
      · have w1 : w = 5 := (nI_eq (by omega) (by decide)).mp c79
        refine V_al i_X11_countBy_82 rfl ?_
        refine V_getR i_X11_countBy_83 rfl rfl ?_
        refine V_il i_X11_countBy_86 rfl ?_
        refine K_iald i i_X11_countBy_87 rfl rfl (by omega) (by omega) ?_
        refine V_if_lt i_X11_countBy_88 (fun c88 => ?_) (fun c88 => ?_)
        · have d1 : ¬ geB I 163 i = true := fun q => of_decide_eq_true q c88
          refine V_c i_X11_countBy_95 ?_
          refine V_iadd i_X11_countBy_96 ?_
          refine V_is (L' := [(0, _), (1, _), (2, _), (3, _)]) i_X11_countBy_97 (by decide) ⟨rfl, rfl, rfl, rfl, trivial⟩ ?_
          refine V_iinc (L' := [(0, _), (1, _), (2, _), (3, _)]) (n' := 1) i_X11_countBy_98 (by decide) rfl (by decide) ⟨rfl, rfl, rfl, rfl, trivial⟩ ?_
          refine V_goto i_X11_countBy_101 ?_
          refine V_L (L' := [(0, _), (1, _), (2, _), (3, _)]) ⟨rfl, rfl, rfl, rfl, trivial⟩ ?_
          rw [show nI i + 1 = nI (i + 1) from nI_1 i]
          have ev : cnB (geB I 163) 5 w i = 0 := by unfold cnB; rw [if_pos w1, if_neg d1]
          have ih2 := ih
          rw [show a + sumN (cnB (geB I 163) 5 w) (i + 1) = a + sumN (cnB (geB I 163) 5 w) i + 0 from by show a + (sumN (cnB (geB I 163) 5 w) i + cnB (geB I 163) 5 w i) = _; rw [ev]; rfl, ← nI_add] at ih2
          exact ih2
        · have d1 : geB I 163 i = true := decide_eq_true c88
          refine V_c i_X11_countBy_91 ?_
          refine V_goto i_X11_countBy_92 ?_
          refine V_iadd i_X11_countBy_96 ?_
          refine V_is (L' := [(0, _), (1, _), (2, _), (3, _)]) i_X11_countBy_97 (by decide) ⟨rfl, rfl, rfl, rfl, trivial⟩ ?_
          refine V_iinc (L' := [(0, _), (1, _), (2, _), (3, _)]) (n' := 1) i_X11_countBy_98 (by decide) rfl (by decide) ⟨rfl, rfl, rfl, rfl, trivial⟩ ?_
          refine V_goto i_X11_countBy_101 ?_
          refine V_L (L' := [(0, _), (1, _), (2, _), (3, _)]) ⟨rfl, rfl, rfl, rfl, trivial⟩ ?_
          rw [show nI i + 1 = nI (i + 1) from nI_1 i]
          have ev : cnB (geB I 163) 5 w i = 1 := by unfold cnB; rw [if_pos w1, if_pos d1]
          have ih2 := ih
          rw [show a + sumN (cnB (geB I 163) 5 w) (i + 1) = a + sumN (cnB (geB I 163) 5 w) i + 1 from by show a + (sumN (cnB (geB I 163) 5 w) i + cnB (geB I 163) 5 w i) = _; rw [ev]; rfl, ← nI_add] at ih2
          exact ih2
  exact key 0 (Nat.zero_le _)
set_option maxRecDepth 100000 in
set_option maxHeartbeats 4000000 in
theorem lp_cnC (I : IntM) (J : LngM) {w a : Nat} (hw : w ≤ 7) (Q : Option Value → IntM → LngM → Prop) (hq : VP m_X11_countBy 2 141 [(0, .ref 146), (1, .int (nI w)), (2, .int (nI (a + sumN (cnB (geB I 148) 6 w) 6)))] [] I J Q) : VP m_X11_countBy 2 106 [(0, .ref 146), (1, .int (nI w)), (2, .int (nI a)), (3, .int 0)] [] I J Q := by
  have key : ∀ i, i ≤ 6 → VP m_X11_countBy 2 106 [(0, .ref 146), (1, .int (nI w)), (2, .int (nI (a + sumN (cnB (geB I 148) 6 w) i))), (3, .int (nI i))] [] I J Q := by
    refine down 6 ?_ (fun i hi ih => ?_)
    · refine V_il i_X11_countBy_106 rfl ?_
      refine V_c i_X11_countBy_107 ?_
      refine V_ic_ge_t i_X11_countBy_109 (Int32.le_refl _) ?_
      exact V_L (L' := [(0, _), (1, _), (2, _)]) ⟨rfl, rfl, rfl, trivial⟩ hq
    · refine V_il i_X11_countBy_106 rfl ?_
      refine V_c i_X11_countBy_107 ?_
      refine V_ic_ge_f i_X11_countBy_109 (nI_ge (show i < 6 by omega) (by decide)) ?_
      refine V_il i_X11_countBy_112 rfl ?_
      refine V_il i_X11_countBy_113 rfl ?_
      refine V_c i_X11_countBy_114 ?_
      refine V_ic_ne i_X11_countBy_116 (fun c116 => ?_) (fun c116 => ?_)
      · have w1 : ¬ w = 6 := fun q => c116 (by rw [q]; rfl)
        refine V_c i_X11_countBy_132 ?_
        refine V_iadd i_X11_countBy_133 ?_
        refine V_is (L' := [(0, _), (1, _), (2, _), (3, _)]) i_X11_countBy_134 (by decide) ⟨rfl, rfl, rfl, rfl, trivial⟩ ?_
        refine V_iinc (L' := [(0, _), (1, _), (2, _), (3, _)]) (n' := 1) i_X11_countBy_135 (by decide) rfl (by decide) ⟨rfl, rfl, rfl, rfl, trivial⟩ ?_
        refine V_goto i_X11_countBy_138 ?_
        refine V_L (L' := [(0, _), (1, _), (2, _), (3, _)]) ⟨rfl, rfl, rfl, rfl, trivial⟩ ?_
        rw [show nI i + 1 = nI (i + 1) from nI_1 i]
        have ev : cnB (geB I 148) 6 w i = 0 := by unfold cnB; rw [if_neg w1]
        have ih2 := ih
        rw [show a + sumN (cnB (geB I 148) 6 w) (i + 1) = a + sumN (cnB (geB I 148) 6 w) i + 0 from by show a + (sumN (cnB (geB I 148) 6 w) i + cnB (geB I 148) 6 w i) = _; rw [ev]; rfl, ← nI_add] at ih2
        exact ih2
      · have w1 : w = 6 := (nI_eq (by omega) (by decide)).mp c116
        refine V_al i_X11_countBy_119 rfl ?_
        refine V_getR i_X11_countBy_120 rfl rfl ?_
        refine V_il i_X11_countBy_123 rfl ?_
        refine K_iald i i_X11_countBy_124 rfl rfl (by omega) (by omega) ?_
        refine V_if_lt i_X11_countBy_125 (fun c125 => ?_) (fun c125 => ?_)
        · have d1 : ¬ geB I 148 i = true := fun q => of_decide_eq_true q c125
          refine V_c i_X11_countBy_132 ?_
          refine V_iadd i_X11_countBy_133 ?_
          refine V_is (L' := [(0, _), (1, _), (2, _), (3, _)]) i_X11_countBy_134 (by decide) ⟨rfl, rfl, rfl, rfl, trivial⟩ ?_
          refine V_iinc (L' := [(0, _), (1, _), (2, _), (3, _)]) (n' := 1) i_X11_countBy_135 (by decide) rfl (by decide) ⟨rfl, rfl, rfl, rfl, trivial⟩ ?_
          refine V_goto i_X11_countBy_138 ?_
          refine V_L (L' := [(0, _), (1, _), (2, _), (3, _)]) ⟨rfl, rfl, rfl, rfl, trivial⟩ ?_
          rw [show nI i + 1 = nI (i + 1) from nI_1 i]
          have ev : cnB (geB I 148) 6 w i = 0 := by unfold cnB; rw [if_pos w1, if_neg d1]
          have ih2 := ih
          rw [show a + sumN (cnB (geB I 148) 6 w) (i + 1) = a + sumN (cnB (geB I 148) 6 w) i + 0 from by show a + (sumN (cnB (geB I 148) 6 w) i + cnB (geB I 148) 6 w i) = _; rw [ev]; rfl, ← nI_add] at ih2
          exact ih2
        · have d1 : geB I 148 i = true := decide_eq_true c125
          refine V_c i_X11_countBy_128 ?_
          refine V_goto i_X11_countBy_129 ?_
          refine V_iadd i_X11_countBy_133 ?_
          refine V_is (L' := [(0, _), (1, _), (2, _), (3, _)]) i_X11_countBy_134 (by decide) ⟨rfl, rfl, rfl, rfl, trivial⟩ ?_
          refine V_iinc (L' := [(0, _), (1, _), (2, _), (3, _)]) (n' := 1) i_X11_countBy_135 (by decide) rfl (by decide) ⟨rfl, rfl, rfl, rfl, trivial⟩ ?_
          refine V_goto i_X11_countBy_138 ?_
          refine V_L (L' := [(0, _), (1, _), (2, _), (3, _)]) ⟨rfl, rfl, rfl, rfl, trivial⟩ ?_
          rw [show nI i + 1 = nI (i + 1) from nI_1 i]
          have ev : cnB (geB I 148) 6 w i = 1 := by unfold cnB; rw [if_pos w1, if_pos d1]
          have ih2 := ih
          rw [show a + sumN (cnB (geB I 148) 6 w) (i + 1) = a + sumN (cnB (geB I 148) 6 w) i + 1 from by show a + (sumN (cnB (geB I 148) 6 w) i + cnB (geB I 148) 6 w i) = _; rw [ev]; rfl, ← nI_add] at ih2
          exact ih2
  exact key 0 (Nat.zero_le _)
set_option maxRecDepth 100000 in
set_option maxHeartbeats 4000000 in
theorem lp_cnD (I : IntM) (J : LngM) {w a : Nat} (hw : w ≤ 7) (Q : Option Value → IntM → LngM → Prop) (hq : VP m_X11_countBy 2 177 [(0, .ref 146), (1, .int (nI w)), (2, .int (nI (a + sumN (cnB (geB I 150) 7 w) 4)))] [] I J Q) : VP m_X11_countBy 2 143 [(0, .ref 146), (1, .int (nI w)), (2, .int (nI a)), (3, .int 0)] [] I J Q := by
  have key : ∀ i, i ≤ 4 → VP m_X11_countBy 2 143 [(0, .ref 146), (1, .int (nI w)), (2, .int (nI (a + sumN (cnB (geB I 150) 7 w) i))), (3, .int (nI i))] [] I J Q := by
    refine down 4 ?_ (fun i hi ih => ?_)
    · refine V_il i_X11_countBy_143 rfl ?_
      refine V_c i_X11_countBy_144 ?_
      refine V_ic_ge_t i_X11_countBy_145 (Int32.le_refl _) ?_
      exact V_L (L' := [(0, _), (1, _), (2, _)]) ⟨rfl, rfl, rfl, trivial⟩ hq
    · refine V_il i_X11_countBy_143 rfl ?_
      refine V_c i_X11_countBy_144 ?_
      refine V_ic_ge_f i_X11_countBy_145 (nI_ge (show i < 4 by omega) (by decide)) ?_
      refine V_il i_X11_countBy_148 rfl ?_
      refine V_il i_X11_countBy_149 rfl ?_
      refine V_c i_X11_countBy_150 ?_
      refine V_ic_ne i_X11_countBy_152 (fun c152 => ?_) (fun c152 => ?_)
      · have w1 : ¬ w = 7 := fun q => c152 (by rw [q]; rfl)
        refine V_c i_X11_countBy_168 ?_
        refine V_iadd i_X11_countBy_169 ?_
        refine V_is (L' := [(0, _), (1, _), (2, _), (3, _)]) i_X11_countBy_170 (by decide) ⟨rfl, rfl, rfl, rfl, trivial⟩ ?_
        refine V_iinc (L' := [(0, _), (1, _), (2, _), (3, _)]) (n' := 1) i_X11_countBy_171 (by decide) rfl (by decide) ⟨rfl, rfl, rfl, rfl, trivial⟩ ?_
        refine V_goto i_X11_countBy_174 ?_
        refine V_L (L' := [(0, _), (1, _), (2, _), (3, _)]) ⟨rfl, rfl, rfl, rfl, trivial⟩ ?_
        rw [show nI i + 1 = nI (i + 1) from nI_1 i]
        have ev : cnB (geB I 150) 7 w i = 0 := by unfold cnB; rw [if_neg w1]
        have ih2 := ih
        rw [show a + sumN (cnB (geB I 150) 7 w) (i + 1) = a + sumN (cnB (geB I 150) 7 w) i + 0 from by show a + (sumN (cnB (geB I 150) 7 w) i + cnB (geB I 150) 7 w i) = _; rw [ev]; rfl, ← nI_add] at ih2
        exact ih2
      · have w1 : w = 7 := (nI_eq (by omega) (by decide)).mp c152
        refine V_al i_X11_countBy_155 rfl ?_
        refine V_getR i_X11_countBy_156 rfl rfl ?_
        refine V_il i_X11_countBy_159 rfl ?_
        refine K_iald i i_X11_countBy_160 rfl rfl (by omega) (by omega) ?_
        refine V_if_lt i_X11_countBy_161 (fun c161 => ?_) (fun c161 => ?_)
        · have d1 : ¬ geB I 150 i = true := fun q => of_decide_eq_true q c161
          refine V_c i_X11_countBy_168 ?_
          refine V_iadd i_X11_countBy_169 ?_
          refine V_is (L' := [(0, _), (1, _), (2, _), (3, _)]) i_X11_countBy_170 (by decide) ⟨rfl, rfl, rfl, rfl, trivial⟩ ?_
          refine V_iinc (L' := [(0, _), (1, _), (2, _), (3, _)]) (n' := 1) i_X11_countBy_171 (by decide) rfl (by decide) ⟨rfl, rfl, rfl, rfl, trivial⟩ ?_
          refine V_goto i_X11_countBy_174 ?_
          refine V_L (L' := [(0, _), (1, _), (2, _), (3, _)]) ⟨rfl, rfl, rfl, rfl, trivial⟩ ?_
          rw [show nI i + 1 = nI (i + 1) from nI_1 i]
          have ev : cnB (geB I 150) 7 w i = 0 := by unfold cnB; rw [if_pos w1, if_neg d1]
          have ih2 := ih
          rw [show a + sumN (cnB (geB I 150) 7 w) (i + 1) = a + sumN (cnB (geB I 150) 7 w) i + 0 from by show a + (sumN (cnB (geB I 150) 7 w) i + cnB (geB I 150) 7 w i) = _; rw [ev]; rfl, ← nI_add] at ih2
          exact ih2
        · have d1 : geB I 150 i = true := decide_eq_true c161
          refine V_c i_X11_countBy_164 ?_
          refine V_goto i_X11_countBy_165 ?_
          refine V_iadd i_X11_countBy_169 ?_
          refine V_is (L' := [(0, _), (1, _), (2, _), (3, _)]) i_X11_countBy_170 (by decide) ⟨rfl, rfl, rfl, rfl, trivial⟩ ?_
          refine V_iinc (L' := [(0, _), (1, _), (2, _), (3, _)]) (n' := 1) i_X11_countBy_171 (by decide) rfl (by decide) ⟨rfl, rfl, rfl, rfl, trivial⟩ ?_
          refine V_goto i_X11_countBy_174 ?_
          refine V_L (L' := [(0, _), (1, _), (2, _), (3, _)]) ⟨rfl, rfl, rfl, rfl, trivial⟩ ?_
          rw [show nI i + 1 = nI (i + 1) from nI_1 i]
          have ev : cnB (geB I 150) 7 w i = 1 := by unfold cnB; rw [if_pos w1, if_pos d1]
          have ih2 := ih
          rw [show a + sumN (cnB (geB I 150) 7 w) (i + 1) = a + sumN (cnB (geB I 150) 7 w) i + 1 from by show a + (sumN (cnB (geB I 150) 7 w) i + cnB (geB I 150) 7 w i) = _; rw [ev]; rfl, ← nI_add] at ih2
          exact ih2
  exact key 0 (Nat.zero_le _)
set_option maxRecDepth 100000 in
set_option maxHeartbeats 4000000 in
theorem m_countBy (I : IntM) (J : LngM) {n : Nat} {kd nd od : Nat → Nat} {lw pot : Nat} (hK : MK I n kd nd od lw pot) {w e : Nat} (hw : w ≤ 7) (he : I 146 32 = nI e) : CtV 2 m_X11_countBy [.ref 146, .int (nI w)] I J (.int (cnW I n e kd nd w)) I J := by
  refine CtV_of (by decide) rfl (Nat.le_of_ble_eq_true rfl) ?_
  refine V_c i_X11_countBy_0 ?_
  refine V_is (L' := [(0, _), (1, _), (2, _)]) i_X11_countBy_1 (by decide) ⟨rfl, rfl, rfl, trivial⟩ ?_
  refine V_c i_X11_countBy_2 ?_
  refine V_is (L' := [(0, _), (1, _), (2, _), (3, _)]) i_X11_countBy_3 (by decide) ⟨rfl, rfl, rfl, rfl, trivial⟩ ?_
  refine V_L (L' := [(0, _), (1, _), (2, _), (3, _)]) ⟨rfl, rfl, rfl, rfl, trivial⟩ ?_
  refine lp_cnA I J hK hw _ ?_
  refine V_c i_X11_countBy_69 ?_
  refine V_is (L' := [(0, _), (1, _), (2, _), (3, _)]) i_X11_countBy_70 (by decide) ⟨rfl, rfl, rfl, rfl, trivial⟩ ?_
  refine lp_cnB I J hw _ ?_
  refine V_c i_X11_countBy_104 ?_
  refine V_is (L' := [(0, _), (1, _), (2, _), (3, _)]) i_X11_countBy_105 (by decide) ⟨rfl, rfl, rfl, rfl, trivial⟩ ?_
  refine lp_cnC I J hw _ ?_
  refine V_c i_X11_countBy_141 ?_
  refine V_is (L' := [(0, _), (1, _), (2, _), (3, _)]) i_X11_countBy_142 (by decide) ⟨rfl, rfl, rfl, rfl, trivial⟩ ?_
  refine lp_cnD I J hw _ ?_
  refine V_il i_X11_countBy_177 rfl ?_
  refine V_if_ne i_X11_countBy_178 (fun c178 => ?_) (fun c178 => ?_)
  · have w0 : ¬ w = 0 := fun q => c178 (by rw [q]; rfl)
    refine V_il i_X11_countBy_188 rfl ?_
    refine V_c i_X11_countBy_189 ?_
    refine V_ic_ne i_X11_countBy_190 (fun c190 => ?_) (fun c190 => ?_)
    · have w4 : ¬ w = 4 := fun q => c190 (by rw [q]; rfl)
      refine V_il i_X11_countBy_200 rfl ?_
      exact P_iret i_X11_countBy_201 rfl ⟨by unfold cnW; first | rw [if_pos w0] | rw [if_neg w0, if_pos w4] | (rw [if_neg w0, if_neg w4]; rfl), rfl, rfl⟩
    · have w4 : w = 4 := (nI_eq (by omega) (by decide)).mp c190
      refine V_al i_X11_countBy_193 rfl ?_
      refine V_getI i_X11_countBy_194 rfl ?_
      rw [he]
      refine V_goto i_X11_countBy_197 ?_
      exact P_iret i_X11_countBy_201 rfl ⟨by unfold cnW; first | rw [if_pos w0] | rw [if_neg w0, if_pos w4] | (rw [if_neg w0, if_neg w4]; rfl), rfl, rfl⟩
  · have w0 : w = 0 := (nI_eq (by omega) (by decide)).mp c178
    refine V_al i_X11_countBy_181 rfl ?_
    refine V_getI i_X11_countBy_182 rfl ?_
    rw [hK.sz]
    refine V_goto i_X11_countBy_185 ?_
    exact P_iret i_X11_countBy_201 rfl ⟨by unfold cnW; first | rw [if_pos w0] | rw [if_neg w0, if_pos w4] | (rw [if_neg w0, if_neg w4]; rfl), rfl, rfl⟩
theorem ke_ge {I : IntM} {J : LngM} {n c : Nat} (hn : n ≤ 7) (h : KeI I J n c) : (I (131 + 5 * c) 2 = 0 ∧ ¬ geB I 163 c = true) ∨ (¬ I (131 + 5 * c) 2 = 0 ∧ geB I 163 c = true) := by
  rcases h.2 with ⟨h1, h2⟩ | ⟨h1, -, how, e, ln, gr, te, hE, -, hV⟩
  · refine Or.inl ⟨h1, fun q => of_decide_eq_true q ?_⟩
    rw [h2]
    decide
  · refine Or.inr ⟨by rw [h1]; decide, decide_eq_true ?_⟩
    rw [hV.1]
    exact nI_pos (by have := hE.2.1; omega)
set_option maxRecDepth 100000 in
set_option maxHeartbeats 4000000 in
theorem lp_countKept (I : IntM) (J : LngM) {n : Nat} (hn : n ≤ 7) (hKe : ∀ c, c < 3 → KeI I J n c) (Q : Option Value → IntM → LngM → Prop) (hq : Q (some (.int (nI (cntN (geB I 163) 3)))) I J) : VP m_X10_countKept 1 13 [(1, .int 0), (2, .ref 20), (3, .int (nI 3)), (4, .int 0)] [] I J Q := by
  have key : ∀ i, i ≤ 3 → VP m_X10_countKept 1 13 [(1, .int (nI (cntN (geB I 163) i))), (2, .ref 20), (3, .int (nI 3)), (4, .int (nI i))] [] I J Q := by
    refine down 3 ?_ (fun i hi ih => ?_)
    · refine V_il i_X10_countKept_13 rfl ?_
      refine V_il i_X10_countKept_15 rfl ?_
      refine V_ic_ge_t i_X10_countKept_16 (Int32.le_refl _) ?_
      refine V_il i_X10_countKept_47 rfl ?_
      exact P_iret i_X10_countKept_48 rfl hq
    · refine V_il i_X10_countKept_13 rfl ?_
      refine V_il i_X10_countKept_15 rfl ?_
      refine V_ic_ge_f i_X10_countKept_16 (nI_ge (show i < 3 by omega) (by decide)) ?_
      refine V_al i_X10_countKept_19 rfl ?_
      refine V_il i_X10_countKept_20 rfl ?_
      refine K_aald i i_X10_countKept_22 rfl (by decide) rfl hi (by omega) (RF_kept hi) ?_
      refine V_as (L' := [(1, _), (2, _), (3, _), (4, _), (5, _)]) i_X10_countKept_23 (by decide) ⟨rfl, rfl, rfl, rfl, rfl, trivial⟩ ?_
      refine V_il i_X10_countKept_25 rfl ?_
      refine V_al i_X10_countKept_26 rfl ?_
      refine V_getZ i_X10_countKept_28 (LE_k hi).1 ?_
      refine V_if_eq i_X10_countKept_31 (fun c31 => ?_) (fun c31 => ?_)
      · have d1 : ¬ geB I 163 i = true := by rcases ke_ge hn (hKe i hi) with q | q; exact q.2; exact absurd c31 q.1
        refine V_c i_X10_countKept_38 ?_
        refine V_iadd i_X10_countKept_39 ?_
        refine V_is (L' := [(1, _), (2, _), (3, _), (4, _)]) i_X10_countKept_40 (by decide) ⟨rfl, rfl, rfl, rfl, trivial⟩ ?_
        refine V_iinc (L' := [(1, _), (2, _), (3, _), (4, _)]) (n' := 1) i_X10_countKept_41 (by decide) rfl (by decide) ⟨rfl, rfl, rfl, rfl, trivial⟩ ?_
        refine V_goto i_X10_countKept_44 ?_
        refine V_L (L' := [(1, _), (2, _), (3, _), (4, _)]) ⟨rfl, rfl, rfl, rfl, trivial⟩ ?_
        rw [show nI i + 1 = nI (i + 1) from nI_1 i]
        have ih2 := ih
        rw [show cntN (geB I 163) (i + 1) = cntN (geB I 163) i + 0 from if_neg d1, ← nI_add] at ih2
        exact ih2
      · have d1 : geB I 163 i = true := by rcases ke_ge hn (hKe i hi) with q | q; exact absurd q.1 c31; exact q.2
        refine V_c i_X10_countKept_34 ?_
        refine V_goto i_X10_countKept_35 ?_
        refine V_iadd i_X10_countKept_39 ?_
        refine V_is (L' := [(1, _), (2, _), (3, _), (4, _)]) i_X10_countKept_40 (by decide) ⟨rfl, rfl, rfl, rfl, trivial⟩ ?_
        refine V_iinc (L' := [(1, _), (2, _), (3, _), (4, _)]) (n' := 1) i_X10_countKept_41 (by decide) rfl (by decide) ⟨rfl, rfl, rfl, rfl, trivial⟩ ?_
        refine V_goto i_X10_countKept_44 ?_
        refine V_L (L' := [(1, _), (2, _), (3, _), (4, _)]) ⟨rfl, rfl, rfl, rfl, trivial⟩ ?_
        rw [show nI i + 1 = nI (i + 1) from nI_1 i]
        have ih2 := ih
        rw [show cntN (geB I 163) (i + 1) = cntN (geB I 163) i + 1 from if_pos d1, ← nI_add] at ih2
        exact ih2
  exact key 0 (Nat.zero_le _)
set_option maxRecDepth 100000 in
set_option maxHeartbeats 4000000 in
theorem c_countKept (I : IntM) (J : LngM) {n : Nat} (hn : n ≤ 7) (hKe : ∀ c, c < 3 → KeI I J n c) : CtV 1 m_X10_countKept [.ref 0] I J (.int (nI (cntN (geB I 163) 3))) I J := by
  refine CtV_of (by decide) rfl (Nat.le_of_ble_eq_true rfl) ?_
  refine V_c i_X10_countKept_0 ?_
  refine V_is (L' := [(0, _), (1, _)]) i_X10_countKept_1 (by decide) ⟨rfl, rfl, trivial⟩ ?_
  refine V_al i_X10_countKept_2 rfl ?_
  refine V_getR i_X10_countKept_3 rfl rfl ?_
  refine V_as (L' := [(1, _), (2, _)]) i_X10_countKept_6 (by decide) ⟨rfl, rfl, trivial⟩ ?_
  refine V_al i_X10_countKept_7 rfl ?_
  refine V_alen4 (v := nI _) i_X10_countKept_8 rfl rfl ?_
  refine V_is (L' := [(1, _), (2, _), (3, _)]) i_X10_countKept_9 (by decide) ⟨rfl, rfl, rfl, trivial⟩ ?_
  refine V_c i_X10_countKept_10 ?_
  refine V_is (L' := [(1, _), (2, _), (3, _), (4, _)]) i_X10_countKept_11 (by decide) ⟨rfl, rfl, rfl, rfl, trivial⟩ ?_
  refine V_L (L' := [(1, _), (2, _), (3, _), (4, _)]) ⟨rfl, rfl, rfl, rfl, trivial⟩ ?_
  exact lp_countKept I J hn hKe _ ⟨rfl, rfl, rfl⟩
set_option maxRecDepth 100000 in
set_option maxHeartbeats 4000000 in
theorem lp_cth_row (I : IntM) (J : LngM) (hR : ∀ r, r < 6 → I (111 + 2 * r) 1 = I 148 r) (Q : Option Value → IntM → LngM → Prop) (hq : Q (some (.int (nI (cntN (geB I 148) 6)))) I J) : VP m_X10_countThere 2 10 [(1, .int 0), (2, .ref 1), (3, .int (nI 6)), (4, .int 0)] [] I J Q := by
  have key : ∀ i, i ≤ 6 → VP m_X10_countThere 2 10 [(1, .int (nI (cntN (geB I 148) i))), (2, .ref 1), (3, .int (nI 6)), (4, .int (nI i))] [] I J Q := by
    refine down 6 ?_ (fun i hi ih => ?_)
    · refine V_il i_X10_countThere_10 rfl ?_
      refine V_il i_X10_countThere_12 rfl ?_
      refine V_ic_ge_t i_X10_countThere_13 (Int32.le_refl _) ?_
      refine V_il i_X10_countThere_44 rfl ?_
      exact P_iret i_X10_countThere_45 rfl hq
    · refine V_il i_X10_countThere_10 rfl ?_
      refine V_il i_X10_countThere_12 rfl ?_
      refine V_ic_ge_f i_X10_countThere_13 (nI_ge (show i < 6 by omega) (by decide)) ?_
      refine V_al i_X10_countThere_16 rfl ?_
      refine V_il i_X10_countThere_17 rfl ?_
      refine K_aald i i_X10_countThere_19 rfl (by decide) rfl hi (by omega) (RF_row hi) ?_
      refine V_as (L' := [(1, _), (2, _), (3, _), (4, _), (5, _)]) i_X10_countThere_20 (by decide) ⟨rfl, rfl, rfl, rfl, rfl, trivial⟩ ?_
      refine V_il i_X10_countThere_22 rfl ?_
      refine V_al i_X10_countThere_23 rfl ?_
      refine P_callV0v i_X10_countThere_25 mi_X3_missing (LI_row hi).1 ⟨_, _, rfl⟩ (by decide) (Nat.le_of_ble_eq_true rfl) (c_I_missing _ _ (LI_row hi)) ?_
      refine V_if_eq i_X10_countThere_28 (fun c28 => ?_) (fun c28 => ?_)
      · have d1 : geB I 148 i = true := decide_eq_true (by rw [← hR i hi]; exact no01 c28)
        refine V_c i_X10_countThere_35 ?_
        refine V_iadd i_X10_countThere_36 ?_
        refine V_is (L' := [(1, _), (2, _), (3, _), (4, _)]) i_X10_countThere_37 (by decide) ⟨rfl, rfl, rfl, rfl, trivial⟩ ?_
        refine V_iinc (L' := [(1, _), (2, _), (3, _), (4, _)]) (n' := 1) i_X10_countThere_38 (by decide) rfl (by decide) ⟨rfl, rfl, rfl, rfl, trivial⟩ ?_
        refine V_goto i_X10_countThere_41 ?_
        refine V_L (L' := [(1, _), (2, _), (3, _), (4, _)]) ⟨rfl, rfl, rfl, rfl, trivial⟩ ?_
        rw [show nI i + 1 = nI (i + 1) from nI_1 i]
        have ih2 := ih
        rw [show cntN (geB I 148) (i + 1) = cntN (geB I 148) i + 1 from if_pos d1, ← nI_add] at ih2
        exact ih2
      · have d1 : ¬ geB I 148 i = true := fun q => of_decide_eq_true q (by rw [← hR i hi]; exact yes01 c28)
        refine V_c i_X10_countThere_31 ?_
        refine V_goto i_X10_countThere_32 ?_
        refine V_iadd i_X10_countThere_36 ?_
        refine V_is (L' := [(1, _), (2, _), (3, _), (4, _)]) i_X10_countThere_37 (by decide) ⟨rfl, rfl, rfl, rfl, trivial⟩ ?_
        refine V_iinc (L' := [(1, _), (2, _), (3, _), (4, _)]) (n' := 1) i_X10_countThere_38 (by decide) rfl (by decide) ⟨rfl, rfl, rfl, rfl, trivial⟩ ?_
        refine V_goto i_X10_countThere_41 ?_
        refine V_L (L' := [(1, _), (2, _), (3, _), (4, _)]) ⟨rfl, rfl, rfl, rfl, trivial⟩ ?_
        rw [show nI i + 1 = nI (i + 1) from nI_1 i]
        have ih2 := ih
        rw [show cntN (geB I 148) (i + 1) = cntN (geB I 148) i + 0 from if_neg d1, ← nI_add] at ih2
        exact ih2
  exact key 0 (Nat.zero_le _)
set_option maxRecDepth 100000 in
set_option maxHeartbeats 4000000 in
theorem c_cth_row (I : IntM) (J : LngM) (hR : ∀ r, r < 6 → I (111 + 2 * r) 1 = I 148 r) : CtV 2 m_X10_countThere [.ref 1] I J (.int (nI (cntN (geB I 148) 6))) I J := by
  refine CtV_of (by decide) rfl (Nat.le_of_ble_eq_true rfl) ?_
  refine V_c i_X10_countThere_0 ?_
  refine V_is (L' := [(0, _), (1, _)]) i_X10_countThere_1 (by decide) ⟨rfl, rfl, trivial⟩ ?_
  refine V_al i_X10_countThere_2 rfl ?_
  refine V_as (L' := [(1, _), (2, _)]) i_X10_countThere_3 (by decide) ⟨rfl, rfl, trivial⟩ ?_
  refine V_al i_X10_countThere_4 rfl ?_
  refine V_alen3 (v := nI _) i_X10_countThere_5 rfl rfl ?_
  refine V_is (L' := [(1, _), (2, _), (3, _)]) i_X10_countThere_6 (by decide) ⟨rfl, rfl, rfl, trivial⟩ ?_
  refine V_c i_X10_countThere_7 ?_
  refine V_is (L' := [(1, _), (2, _), (3, _), (4, _)]) i_X10_countThere_8 (by decide) ⟨rfl, rfl, rfl, rfl, trivial⟩ ?_
  refine V_L (L' := [(1, _), (2, _), (3, _), (4, _)]) ⟨rfl, rfl, rfl, rfl, trivial⟩ ?_
  exact lp_cth_row I J hR _ ⟨rfl, rfl, rfl⟩
set_option maxRecDepth 100000 in
set_option maxHeartbeats 4000000 in
theorem lp_cth_text (I : IntM) (J : LngM) (hR : ∀ r, r < 4 → I (123 + 2 * r) 1 = I 150 r) (Q : Option Value → IntM → LngM → Prop) (hq : Q (some (.int (nI (cntN (geB I 150) 4)))) I J) : VP m_X10_countThere 2 10 [(1, .int 0), (2, .ref 2), (3, .int (nI 4)), (4, .int 0)] [] I J Q := by
  have key : ∀ i, i ≤ 4 → VP m_X10_countThere 2 10 [(1, .int (nI (cntN (geB I 150) i))), (2, .ref 2), (3, .int (nI 4)), (4, .int (nI i))] [] I J Q := by
    refine down 4 ?_ (fun i hi ih => ?_)
    · refine V_il i_X10_countThere_10 rfl ?_
      refine V_il i_X10_countThere_12 rfl ?_
      refine V_ic_ge_t i_X10_countThere_13 (Int32.le_refl _) ?_
      refine V_il i_X10_countThere_44 rfl ?_
      exact P_iret i_X10_countThere_45 rfl hq
    · refine V_il i_X10_countThere_10 rfl ?_
      refine V_il i_X10_countThere_12 rfl ?_
      refine V_ic_ge_f i_X10_countThere_13 (nI_ge (show i < 4 by omega) (by decide)) ?_
      refine V_al i_X10_countThere_16 rfl ?_
      refine V_il i_X10_countThere_17 rfl ?_
      refine K_aald i i_X10_countThere_19 rfl (by decide) rfl hi (by omega) (RF_text hi) ?_
      refine V_as (L' := [(1, _), (2, _), (3, _), (4, _), (5, _)]) i_X10_countThere_20 (by decide) ⟨rfl, rfl, rfl, rfl, rfl, trivial⟩ ?_
      refine V_il i_X10_countThere_22 rfl ?_
      refine V_al i_X10_countThere_23 rfl ?_
      refine P_callV0v i_X10_countThere_25 mi_X3_missing (LI_text hi).1 ⟨_, _, rfl⟩ (by decide) (Nat.le_of_ble_eq_true rfl) (c_I_missing _ _ (LI_text hi)) ?_
      refine V_if_eq i_X10_countThere_28 (fun c28 => ?_) (fun c28 => ?_)
      · have d1 : geB I 150 i = true := decide_eq_true (by rw [← hR i hi]; exact no01 c28)
        refine V_c i_X10_countThere_35 ?_
        refine V_iadd i_X10_countThere_36 ?_
        refine V_is (L' := [(1, _), (2, _), (3, _), (4, _)]) i_X10_countThere_37 (by decide) ⟨rfl, rfl, rfl, rfl, trivial⟩ ?_
        refine V_iinc (L' := [(1, _), (2, _), (3, _), (4, _)]) (n' := 1) i_X10_countThere_38 (by decide) rfl (by decide) ⟨rfl, rfl, rfl, rfl, trivial⟩ ?_
        refine V_goto i_X10_countThere_41 ?_
        refine V_L (L' := [(1, _), (2, _), (3, _), (4, _)]) ⟨rfl, rfl, rfl, rfl, trivial⟩ ?_
        rw [show nI i + 1 = nI (i + 1) from nI_1 i]
        have ih2 := ih
        rw [show cntN (geB I 150) (i + 1) = cntN (geB I 150) i + 1 from if_pos d1, ← nI_add] at ih2
        exact ih2
      · have d1 : ¬ geB I 150 i = true := fun q => of_decide_eq_true q (by rw [← hR i hi]; exact yes01 c28)
        refine V_c i_X10_countThere_31 ?_
        refine V_goto i_X10_countThere_32 ?_
        refine V_iadd i_X10_countThere_36 ?_
        refine V_is (L' := [(1, _), (2, _), (3, _), (4, _)]) i_X10_countThere_37 (by decide) ⟨rfl, rfl, rfl, rfl, trivial⟩ ?_
        refine V_iinc (L' := [(1, _), (2, _), (3, _), (4, _)]) (n' := 1) i_X10_countThere_38 (by decide) rfl (by decide) ⟨rfl, rfl, rfl, rfl, trivial⟩ ?_
        refine V_goto i_X10_countThere_41 ?_
        refine V_L (L' := [(1, _), (2, _), (3, _), (4, _)]) ⟨rfl, rfl, rfl, rfl, trivial⟩ ?_
        rw [show nI i + 1 = nI (i + 1) from nI_1 i]
        have ih2 := ih
        rw [show cntN (geB I 150) (i + 1) = cntN (geB I 150) i + 0 from if_neg d1, ← nI_add] at ih2
        exact ih2
  exact key 0 (Nat.zero_le _)
set_option maxRecDepth 100000 in
set_option maxHeartbeats 4000000 in
theorem c_cth_text (I : IntM) (J : LngM) (hR : ∀ r, r < 4 → I (123 + 2 * r) 1 = I 150 r) : CtV 2 m_X10_countThere [.ref 2] I J (.int (nI (cntN (geB I 150) 4))) I J := by
  refine CtV_of (by decide) rfl (Nat.le_of_ble_eq_true rfl) ?_
  refine V_c i_X10_countThere_0 ?_
  refine V_is (L' := [(0, _), (1, _)]) i_X10_countThere_1 (by decide) ⟨rfl, rfl, trivial⟩ ?_
  refine V_al i_X10_countThere_2 rfl ?_
  refine V_as (L' := [(1, _), (2, _)]) i_X10_countThere_3 (by decide) ⟨rfl, rfl, trivial⟩ ?_
  refine V_al i_X10_countThere_4 rfl ?_
  refine V_alen3 (v := nI _) i_X10_countThere_5 rfl rfl ?_
  refine V_is (L' := [(1, _), (2, _), (3, _)]) i_X10_countThere_6 (by decide) ⟨rfl, rfl, rfl, trivial⟩ ?_
  refine V_c i_X10_countThere_7 ?_
  refine V_is (L' := [(1, _), (2, _), (3, _), (4, _)]) i_X10_countThere_8 (by decide) ⟨rfl, rfl, rfl, rfl, trivial⟩ ?_
  refine V_L (L' := [(1, _), (2, _), (3, _), (4, _)]) ⟨rfl, rfl, rfl, rfl, trivial⟩ ?_
  exact lp_cth_text I J hR _ ⟨rfl, rfl, rfl⟩
set_option maxRecDepth 100000 in
set_option maxHeartbeats 4000000 in
theorem c_count0 (I : IntM) (J : LngM) {n : Nat} {kd nd od : Nat → Nat} {lw pot : Nat} (hK : CK I n kd nd od lw pot) (hKe : ∀ c, c < 3 → KeI I J n c) (hR : ∀ r, r < 6 → I (111 + 2 * r) 1 = I 148 r) (hT : ∀ r, r < 4 → I (123 + 2 * r) 1 = I 150 r) {e : Nat} (he : I 15 4 = nI e) : CtV 6 m_X10_count [.ref 0, .int (nI 0)] I J (.int (cnW I n e kd nd 0)) I J := by
  refine CtV_of (by decide) rfl (Nat.le_of_ble_eq_true rfl) ?_
  refine V_il i_X10_count_0 rfl ?_
  refine V_tswIn (tgt := 48) i_X10_count_1 (by decide) (by decide) rfl (by decide) ?_
  refine V_al i_X10_count_48 rfl ?_
  refine V_getR i_X10_count_49 rfl rfl ?_
  refine V_getI i_X10_count_52 rfl ?_
  rw [hK.sz]
  exact P_iret i_X10_count_55 rfl ⟨congrArg (fun v => some (Value.int v)) (show _ = cnW I n e kd nd 0 from rfl), rfl, rfl⟩
set_option maxRecDepth 100000 in
set_option maxHeartbeats 4000000 in
theorem c_count1 (I : IntM) (J : LngM) {n : Nat} {kd nd od : Nat → Nat} {lw pot : Nat} (hK : CK I n kd nd od lw pot) (hKe : ∀ c, c < 3 → KeI I J n c) (hR : ∀ r, r < 6 → I (111 + 2 * r) 1 = I 148 r) (hT : ∀ r, r < 4 → I (123 + 2 * r) 1 = I 150 r) {e : Nat} (he : I 15 4 = nI e) : CtV 6 m_X10_count [.ref 0, .int (nI 1)] I J (.int (cnW I n e kd nd 1)) I J := by
  refine CtV_of (by decide) rfl (Nat.le_of_ble_eq_true rfl) ?_
  refine V_il i_X10_count_0 rfl ?_
  refine V_tswIn (tgt := 56) i_X10_count_1 (by decide) (by decide) rfl (by decide) ?_
  refine V_al i_X10_count_56 rfl ?_
  refine V_getR i_X10_count_57 rfl rfl ?_
  refine P_callV0v i_X10_count_60 mi_X0_allNeeds rfl ⟨_, _, rfl⟩ (by decide) (Nat.le_of_ble_eq_true rfl) (c_C_all _ _ hK.1 hK.C) ?_
  exact P_iret i_X10_count_63 rfl ⟨congrArg (fun v => some (Value.int v)) (show _ = cnW I n e kd nd 1 from by unfold cnW cnS; rw [if_neg (by decide), if_neg (by decide), cnB_0 (by decide), cnB_0 (by decide), cnB_0 (by decide)]; rfl), rfl, rfl⟩
set_option maxRecDepth 100000 in
set_option maxHeartbeats 4000000 in
theorem c_count2 (I : IntM) (J : LngM) {n : Nat} {kd nd od : Nat → Nat} {lw pot : Nat} (hK : CK I n kd nd od lw pot) (hKe : ∀ c, c < 3 → KeI I J n c) (hR : ∀ r, r < 6 → I (111 + 2 * r) 1 = I 148 r) (hT : ∀ r, r < 4 → I (123 + 2 * r) 1 = I 150 r) {e : Nat} (he : I 15 4 = nI e) : CtV 6 m_X10_count [.ref 0, .int (nI 2)] I J (.int (cnW I n e kd nd 2)) I J := by
  refine CtV_of (by decide) rfl (Nat.le_of_ble_eq_true rfl) ?_
  refine V_il i_X10_count_0 rfl ?_
  refine V_tswIn (tgt := 64) i_X10_count_1 (by decide) (by decide) rfl (by decide) ?_
  refine V_al i_X10_count_64 rfl ?_
  refine V_getR i_X10_count_65 rfl rfl ?_
  refine V_c i_X10_count_68 ?_
  refine P_callV1v i_X10_count_69 mi_X0_countOf rfl ⟨_, _, rfl⟩ (by decide) (Nat.le_of_ble_eq_true rfl) (c_C_countOf _ _ hK.1 hK.C (by decide)) ?_
  exact P_iret i_X10_count_72 rfl ⟨congrArg (fun v => some (Value.int v)) (show _ = cnW I n e kd nd 2 from by unfold cnW cnS; rw [if_neg (by decide), if_neg (by decide), cnB_0 (by decide), cnB_0 (by decide), cnB_0 (by decide), show sumN (cnA kd nd 2) n = cntN (isK kd 1) n from sumN_p (isK kd 1) n]; rfl), rfl, rfl⟩
set_option maxRecDepth 100000 in
set_option maxHeartbeats 4000000 in
theorem c_count3 (I : IntM) (J : LngM) {n : Nat} {kd nd od : Nat → Nat} {lw pot : Nat} (hK : CK I n kd nd od lw pot) (hKe : ∀ c, c < 3 → KeI I J n c) (hR : ∀ r, r < 6 → I (111 + 2 * r) 1 = I 148 r) (hT : ∀ r, r < 4 → I (123 + 2 * r) 1 = I 150 r) {e : Nat} (he : I 15 4 = nI e) : CtV 6 m_X10_count [.ref 0, .int (nI 3)] I J (.int (cnW I n e kd nd 3)) I J := by
  refine CtV_of (by decide) rfl (Nat.le_of_ble_eq_true rfl) ?_
  refine V_il i_X10_count_0 rfl ?_
  refine V_tswIn (tgt := 73) i_X10_count_1 (by decide) (by decide) rfl (by decide) ?_
  refine V_al i_X10_count_73 rfl ?_
  refine V_getR i_X10_count_74 rfl rfl ?_
  refine V_c i_X10_count_77 ?_
  refine P_callV1v i_X10_count_78 mi_X0_countOf rfl ⟨_, _, rfl⟩ (by decide) (Nat.le_of_ble_eq_true rfl) (c_C_countOf _ _ hK.1 hK.C (by decide)) ?_
  exact P_iret i_X10_count_81 rfl ⟨congrArg (fun v => some (Value.int v)) (show _ = cnW I n e kd nd 3 from by unfold cnW cnS; rw [if_neg (by decide), if_neg (by decide), cnB_0 (by decide), cnB_0 (by decide), cnB_0 (by decide), show sumN (cnA kd nd 3) n = cntN (isK kd 2) n from sumN_p (isK kd 2) n]; rfl), rfl, rfl⟩
set_option maxRecDepth 100000 in
set_option maxHeartbeats 4000000 in
theorem c_count4 (I : IntM) (J : LngM) {n : Nat} {kd nd od : Nat → Nat} {lw pot : Nat} (hK : CK I n kd nd od lw pot) (hKe : ∀ c, c < 3 → KeI I J n c) (hR : ∀ r, r < 6 → I (111 + 2 * r) 1 = I 148 r) (hT : ∀ r, r < 4 → I (123 + 2 * r) 1 = I 150 r) {e : Nat} (he : I 15 4 = nI e) : CtV 6 m_X10_count [.ref 0, .int (nI 4)] I J (.int (cnW I n e kd nd 4)) I J := by
  refine CtV_of (by decide) rfl (Nat.le_of_ble_eq_true rfl) ?_
  refine V_il i_X10_count_0 rfl ?_
  refine V_tswIn (tgt := 82) i_X10_count_1 (by decide) (by decide) rfl (by decide) ?_
  refine V_al i_X10_count_82 rfl ?_
  refine V_getR i_X10_count_83 rfl rfl ?_
  refine V_getI i_X10_count_86 rfl ?_
  rw [he]
  exact P_iret i_X10_count_89 rfl ⟨congrArg (fun v => some (Value.int v)) (show _ = cnW I n e kd nd 4 from rfl), rfl, rfl⟩
set_option maxRecDepth 100000 in
set_option maxHeartbeats 4000000 in
theorem c_count5 (I : IntM) (J : LngM) {n : Nat} {kd nd od : Nat → Nat} {lw pot : Nat} (hK : CK I n kd nd od lw pot) (hKe : ∀ c, c < 3 → KeI I J n c) (hR : ∀ r, r < 6 → I (111 + 2 * r) 1 = I 148 r) (hT : ∀ r, r < 4 → I (123 + 2 * r) 1 = I 150 r) {e : Nat} (he : I 15 4 = nI e) : CtV 6 m_X10_count [.ref 0, .int (nI 5)] I J (.int (cnW I n e kd nd 5)) I J := by
  refine CtV_of (by decide) rfl (Nat.le_of_ble_eq_true rfl) ?_
  refine V_il i_X10_count_0 rfl ?_
  refine V_tswIn (tgt := 90) i_X10_count_1 (by decide) (by decide) rfl (by decide) ?_
  refine V_al i_X10_count_90 rfl ?_
  refine P_callV0v i_X10_count_91 mi_X10_countKept rfl ⟨_, _, rfl⟩ (by decide) (Nat.le_of_ble_eq_true rfl) (c_countKept _ _ hK.n7 hKe) ?_
  exact P_iret i_X10_count_94 rfl ⟨congrArg (fun v => some (Value.int v)) (show _ = cnW I n e kd nd 5 from by unfold cnW cnS; rw [if_neg (by decide), if_neg (by decide), cnA_0 (by decide) (by decide) (by decide), cnB_q, cnB_0 (by decide), cnB_0 (by decide), Nat.zero_add]; rfl), rfl, rfl⟩
set_option maxRecDepth 100000 in
set_option maxHeartbeats 4000000 in
theorem c_count6 (I : IntM) (J : LngM) {n : Nat} {kd nd od : Nat → Nat} {lw pot : Nat} (hK : CK I n kd nd od lw pot) (hKe : ∀ c, c < 3 → KeI I J n c) (hR : ∀ r, r < 6 → I (111 + 2 * r) 1 = I 148 r) (hT : ∀ r, r < 4 → I (123 + 2 * r) 1 = I 150 r) {e : Nat} (he : I 15 4 = nI e) : CtV 6 m_X10_count [.ref 0, .int (nI 6)] I J (.int (cnW I n e kd nd 6)) I J := by
  refine CtV_of (by decide) rfl (Nat.le_of_ble_eq_true rfl) ?_
  refine V_il i_X10_count_0 rfl ?_
  refine V_tswIn (tgt := 95) i_X10_count_1 (by decide) (by decide) rfl (by decide) ?_
  refine V_al i_X10_count_95 rfl ?_
  refine V_getR i_X10_count_96 rfl rfl ?_
  refine P_callS1v i_X10_count_99 ms_X10_countThere (by decide) (Nat.le_of_ble_eq_true rfl) (c_cth_row _ _ hR) ?_
  exact P_iret i_X10_count_102 rfl ⟨congrArg (fun v => some (Value.int v)) (show _ = cnW I n e kd nd 6 from by unfold cnW cnS; rw [if_neg (by decide), if_neg (by decide), cnA_0 (by decide) (by decide) (by decide), cnB_0 (by decide), cnB_q, cnB_0 (by decide), Nat.zero_add]; rfl), rfl, rfl⟩
set_option maxRecDepth 100000 in
set_option maxHeartbeats 4000000 in
theorem c_count7 (I : IntM) (J : LngM) {n : Nat} {kd nd od : Nat → Nat} {lw pot : Nat} (hK : CK I n kd nd od lw pot) (hKe : ∀ c, c < 3 → KeI I J n c) (hR : ∀ r, r < 6 → I (111 + 2 * r) 1 = I 148 r) (hT : ∀ r, r < 4 → I (123 + 2 * r) 1 = I 150 r) {e : Nat} (he : I 15 4 = nI e) : CtV 6 m_X10_count [.ref 0, .int (nI 7)] I J (.int (cnW I n e kd nd 7)) I J := by
  refine CtV_of (by decide) rfl (Nat.le_of_ble_eq_true rfl) ?_
  refine V_il i_X10_count_0 rfl ?_
  refine V_tswIn (tgt := 103) i_X10_count_1 (by decide) (by decide) rfl (by decide) ?_
  refine V_al i_X10_count_103 rfl ?_
  refine V_getR i_X10_count_104 rfl rfl ?_
  refine P_callS1v i_X10_count_107 ms_X10_countThere (by decide) (Nat.le_of_ble_eq_true rfl) (c_cth_text _ _ hT) ?_
  exact P_iret i_X10_count_110 rfl ⟨congrArg (fun v => some (Value.int v)) (show _ = cnW I n e kd nd 7 from by unfold cnW cnS; rw [if_neg (by decide), if_neg (by decide), cnA_0 (by decide) (by decide) (by decide), cnB_0 (by decide), cnB_0 (by decide), cnB_q, Nat.zero_add]), rfl, rfl⟩
theorem c_count (I : IntM) (J : LngM) {n : Nat} {kd nd od : Nat → Nat} {lw pot : Nat} (hK : CK I n kd nd od lw pot) (hKe : ∀ c, c < 3 → KeI I J n c) (hR : ∀ r, r < 6 → I (111 + 2 * r) 1 = I 148 r) (hT : ∀ r, r < 4 → I (123 + 2 * r) 1 = I 150 r) {e : Nat} (he : I 15 4 = nI e) {w : Nat} (hw : w ≤ 7) : CtV 6 m_X10_count [.ref 0, .int (nI w)] I J (.int (cnW I n e kd nd w)) I J := by
  obtain rfl | rfl | rfl | rfl | rfl | rfl | rfl | rfl : w = 0 ∨ w = 1 ∨ w = 2 ∨ w = 3 ∨ w = 4 ∨ w = 5 ∨ w = 6 ∨ w = 7 := by omega
  · exact c_count0 I J hK hKe hR hT he
  · exact c_count1 I J hK hKe hR hT he
  · exact c_count2 I J hK hKe hR hT he
  · exact c_count3 I J hK hKe hR hT he
  · exact c_count4 I J hK hKe hR hT he
  · exact c_count5 I J hK hKe hR hT he
  · exact c_count6 I J hK hKe hR hT he
  · exact c_count7 I J hK hKe hR hT he
set_option maxRecDepth 100000 in
set_option maxHeartbeats 4000000 in
theorem c_count9 (I : IntM) (J : LngM) {x : Int32} (h : x.toInt < 0 ∨ 7 < x.toInt) : CtV 6 m_X10_count [.ref 0, .int x] I J (.int (-1)) I J := by
  refine CtV_of (by decide) rfl (Nat.le_of_ble_eq_true rfl) ?_
  refine V_il i_X10_count_0 rfl ?_
  refine V_tswOut (tgt := 111) i_X10_count_1 h (by decide) ?_
  refine V_c i_X10_count_111 ?_
  exact P_iret i_X10_count_112 rfl ⟨rfl, rfl, rfl⟩
set_option maxRecDepth 100000 in
set_option maxHeartbeats 4000000 in
theorem m_count9 (I : IntM) (J : LngM) {x : Int32} (h : hasC 8 x = 0) : CtV 3 m_X11_count [.ref 146, .int x] I J (.int (-1)) I J := by
  refine CtV_of (by decide) rfl (Nat.le_of_ble_eq_true rfl) ?_
  refine V_il i_X11_count_0 rfl ?_
  refine V_i2l i_X11_count_1 ?_
  refine V_cl i_X11_count_2 ?_
  refine V_cl i_X11_count_3 ?_
  refine P_callS3v i_X11_count_6 ms_X11_in (by decide) (Nat.le_of_ble_eq_true rfl) (c_M_in _ _ _ _ _) ?_
  refine V_if_eq_t i_X11_count_9 (by rw [show (7 : Int64) = lN 7 from rfl, in_lit (by decide)]; exact h) ?_
  refine V_c i_X11_count_20 ?_
  exact P_iret i_X11_count_21 rfl ⟨rfl, rfl, rfl⟩
set_option maxRecDepth 100000 in
set_option maxHeartbeats 4000000 in
theorem m_count (I : IntM) (J : LngM) {n : Nat} {kd nd od : Nat → Nat} {lw pot : Nat} (hK : MK I n kd nd od lw pot) {w e : Nat} (hw : w ≤ 7) (he : I 146 32 = nI e) : CtV 3 m_X11_count [.ref 146, .int (nI w)] I J (.int (cnW I n e kd nd w)) I J := by
  refine CtV_of (by decide) rfl (Nat.le_of_ble_eq_true rfl) ?_
  refine V_il i_X11_count_0 rfl ?_
  refine V_i2l i_X11_count_1 ?_
  refine V_cl i_X11_count_2 ?_
  refine V_cl i_X11_count_3 ?_
  refine P_callS3v i_X11_count_6 ms_X11_in (by decide) (Nat.le_of_ble_eq_true rfl) (c_M_in _ _ _ _ _) ?_
  refine V_if_eq_f i_X11_count_9 (by rw [show (7 : Int64) = lN 7 from rfl, in_lit (by decide), hasN_nI (by decide) (show w < 8 by omega)]; decide) ?_
  refine V_al i_X11_count_12 rfl ?_
  refine V_il i_X11_count_13 rfl ?_
  refine P_callV1v i_X11_count_14 mi_X11_countBy rfl ⟨_, _, rfl⟩ (by decide) (Nat.le_of_ble_eq_true rfl) (m_countBy _ _ hK hw he) ?_
  refine V_goto i_X11_count_17 ?_
  exact P_iret i_X11_count_21 rfl ⟨rfl, rfl, rfl⟩
theorem p_count {I : IntM} {J : LngM} (h : Inv I J) (x : Int32) : Pair 6 m_X10_count [.ref 0, .int x] 3 m_X11_count [.ref 146, .int x] I J := by
  obtain ⟨n, kd, nd, od, lw, pot, hP, hK, hM⟩ := h.K
  obtain ⟨hR, hT⟩ := hP.ro
  obtain ⟨how, e, ln, gr, te, hE, hC, hV⟩ := hP.2.1
  by_cases hx : hasC 8 x = 0
  · refine Pair.m (c_count9 I J ?_) (m_count9 I J hx) h
    rcases Int.lt_or_le x.toInt 0 with q | q
    · exact Or.inl q
    · refine Or.inr (Int.lt_of_not_ge (fun q2 => ?_))
      have a0 : ¬ x < 0 := fun z => by
        have := Int32.lt_iff_toInt_lt.mp z
        have e0 : (0 : Int32).toInt = 0 := rfl
        omega
      refine hasC_no hx a0 (Int32.lt_iff_toInt_lt.mpr ?_)
      rw [nI_toInt (by decide)]
      omega
  · obtain ⟨w, hw, rfl⟩ := hasN_yes (by decide) hx
    exact Pair.m (c_count I J hK hP.2.2.1 (fun r hr => (hR r hr).1) (fun r hr => (hT r hr).1) hC.2.1 (show w ≤ 7 by omega)) (m_count I J (hM I (fun _ _ _ => rfl)) (by omega) hV.2.1) h

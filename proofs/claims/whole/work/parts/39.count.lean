
/-! ===== count ===== -/
def cnA (kd nd : Nat → Nat) (w k : Nat) : Nat := if w = 1 then nd k else if w = 2 then (if isK kd 1 k = true then 1 else 0) else if w = 3 then (if isK kd 2 k = true then 1 else 0) else 0
def cnB (p : Nat → Bool) (q w c : Nat) : Nat := if w = q then (if p c = true then 1 else 0) else 0
def geB (I : IntM) (x c : Nat) : Bool := decide (¬ I x c < 0)
def cnS (I : IntM) (n : Nat) (kd nd : Nat → Nat) (w : Nat) : Nat := sumN (cnA kd nd w) n + sumN (cnB (geB I 163) 5 w) 3 + sumN (cnB (geB I 148) 6 w) 6 + sumN (cnB (geB I 150) 7 w) 4
def cnW (I : IntM) (n e : Nat) (kd nd : Nat → Nat) (w : Nat) : Int32 := if w = 0 then nI n else if w = 4 then nI e else nI (cnS I n kd nd w)
theorem sumN_0 {f : Nat → Nat} : ∀ {n}, (∀ k, k < n → f k = 0) → sumN f n = 0
  | 0, _ => rfl
  | n + 1, h => by
    show sumN f n + f n = 0
    rw [sumN_0 (fun k hk => h k (by omega)), h n (by omega)]
theorem sumN_cg {f g : Nat → Nat} : ∀ {n}, (∀ k, k < n → f k = g k) → sumN f n = sumN g n
  | 0, _ => rfl
  | n + 1, h => by
    show sumN f n + f n = sumN g n + g n
    rw [sumN_cg (fun k hk => h k (by omega)), h n (by omega)]
theorem sumN_p (p : Nat → Bool) : ∀ n, sumN (fun k => if p k = true then 1 else 0) n = cntN p n
  | 0 => rfl
  | n + 1 => by
    show sumN (fun k => if p k = true then 1 else 0) n + (if p n = true then 1 else 0) = if p n = true then cntN p n + 1 else cntN p n
    rw [sumN_p p n]
    split <;> omega
theorem cnB_0 {p : Nat → Bool} {q w : Nat} (h : ¬ w = q) (n : Nat) : sumN (cnB p q w) n = 0 := sumN_0 (fun k _ => if_neg h)
theorem cnB_q (p : Nat → Bool) (q n : Nat) : sumN (cnB p q q) n = cntN p n := by
  rw [← sumN_p]
  exact sumN_cg (fun k _ => if_pos rfl)
theorem cnA_0 {kd nd : Nat → Nat} {w : Nat} (h1 : ¬ w = 1) (h2 : ¬ w = 2) (h3 : ¬ w = 3) (n : Nat) : sumN (cnA kd nd w) n = 0 := sumN_0 (fun k _ => by unfold cnA; rw [if_neg h1, if_neg h2, if_neg h3])

set_option maxRecDepth 100000 in
set_option maxHeartbeats 4000000 in
theorem lp_cnA (I : IntM) (J : LngM) {n : Nat} {kd nd od : Nat → Nat} {lw pot : Nat} (hK : MK I n kd nd od lw pot) {w : Nat} (hw : w ≤ 7) (Q : Option Value → IntM → LngM → Prop) (hq : VP m_X11_countBy 2 69 [(0, .ref 146), (1, .int (nI w)), (2, .int (nI (sumN (cnA kd nd w) n)))] [] I J Q) : VP m_X11_countBy 2 4 [(0, .ref 146), (1, .int (nI w)), (2, .int 0), (3, .int 0)] [] I J Q := by
  have key : ∀ i, i ≤ n → VP m_X11_countBy 2 4 [(0, .ref 146), (1, .int (nI w)), (2, .int (nI (sumN (cnA kd nd w) i))), (3, .int (nI i))] [] I J Q := by
    refine down n ?_ (fun i hi ih => ?_)
    · refine V_il i_X11_countBy_4 rfl ?_
      refine V_al i_X11_countBy_5 rfl ?_
      refine V_getI i_X11_countBy_6 rfl ?_
      refine V_ic_ge_t i_X11_countBy_9 (by rw [hK.sz]; exact Int32.le_refl _) ?_
      exact V_L (L' := [(0, _), (1, _), (2, _)]) ⟨rfl, rfl, rfl, trivial⟩ hq
    · refine V_il i_X11_countBy_4 rfl ?_
      refine V_al i_X11_countBy_5 rfl ?_
      refine V_getI i_X11_countBy_6 rfl ?_
      refine V_ic_ge_f i_X11_countBy_9 (by rw [hK.sz]; exact nI_ge hi (by have := hK.n7; omega)) ?_
      refine V_il i_X11_countBy_12 rfl ?_
      refine V_il i_X11_countBy_13 rfl ?_
      refine V_c i_X11_countBy_14 ?_
      refine V_ic_ne i_X11_countBy_15 (fun c15 => ?_) (fun c15 => ?_)
      · have w1 : ¬ w = 1 := fun q => c15 (by rw [q]; rfl)
        refine V_il i_X11_countBy_27 rfl ?_
        refine V_c i_X11_countBy_28 ?_
        refine V_ic_ne i_X11_countBy_29 (fun c29 => ?_) (fun c29 => ?_)
        · have w2 : ¬ w = 2 := fun q => c29 (by rw [q]; rfl)
          refine V_il i_X11_countBy_41 rfl ?_
          refine V_c i_X11_countBy_42 ?_
          refine V_ic_ne i_X11_countBy_43 (fun c43 => ?_) (fun c43 => ?_)
          · have w3 : ¬ w = 3 := fun q => c43 (by rw [q]; rfl)
            refine V_c i_X11_countBy_60 ?_
            refine V_iadd i_X11_countBy_61 ?_
            refine V_is (L' := [(0, _), (1, _), (2, _), (3, _)]) i_X11_countBy_62 (by decide) ⟨rfl, rfl, rfl, rfl, trivial⟩ ?_
            refine V_iinc (L' := [(0, _), (1, _), (2, _), (3, _)]) (n' := 1) i_X11_countBy_63 (by decide) rfl (by decide) ⟨rfl, rfl, rfl, rfl, trivial⟩ ?_
            refine V_goto i_X11_countBy_66 ?_
            refine V_L (L' := [(0, _), (1, _), (2, _), (3, _)]) ⟨rfl, rfl, rfl, rfl, trivial⟩ ?_
            rw [show nI i + 1 = nI (i + 1) from nI_1 i]
            have ev : cnA kd nd w i = 0 := by unfold cnA; rw [if_neg w1, if_neg w2, if_neg w3]
            have ih2 := ih
            rw [show sumN (cnA kd nd w) (i + 1) = sumN (cnA kd nd w) i + 0 from congrArg (sumN (cnA kd nd w) i + ·) ev, ← nI_add] at ih2
            exact ih2
          · have w3 : w = 3 := (nI_eq (by omega) (by decide)).mp c43
            refine V_al i_X11_countBy_46 rfl ?_
            refine V_getR i_X11_countBy_47 rfl rfl ?_
            refine V_il i_X11_countBy_50 rfl ?_
            refine K_iald i i_X11_countBy_51 rfl rfl (by have := hK.n7; omega) (by omega) ?_
            rw [hK.M.2.1 i hi]
            refine V_c i_X11_countBy_52 ?_
            refine V_ic_ne i_X11_countBy_53 (fun c53 => ?_) (fun c53 => ?_)
            · have d2 : ¬ isK kd 2 i = true := fun q => c53 (by rw [isK2] at q; rw [of_decide_eq_true q]; rfl)
              refine V_c i_X11_countBy_60 ?_
              refine V_iadd i_X11_countBy_61 ?_
              refine V_is (L' := [(0, _), (1, _), (2, _), (3, _)]) i_X11_countBy_62 (by decide) ⟨rfl, rfl, rfl, rfl, trivial⟩ ?_
              refine V_iinc (L' := [(0, _), (1, _), (2, _), (3, _)]) (n' := 1) i_X11_countBy_63 (by decide) rfl (by decide) ⟨rfl, rfl, rfl, rfl, trivial⟩ ?_
              refine V_goto i_X11_countBy_66 ?_
              refine V_L (L' := [(0, _), (1, _), (2, _), (3, _)]) ⟨rfl, rfl, rfl, rfl, trivial⟩ ?_
              rw [show nI i + 1 = nI (i + 1) from nI_1 i]
              have ev : cnA kd nd w i = 0 := by unfold cnA; rw [if_neg w1, if_neg w2, if_pos w3, if_neg d2]
              have ih2 := ih
              rw [show sumN (cnA kd nd w) (i + 1) = sumN (cnA kd nd w) i + 0 from congrArg (sumN (cnA kd nd w) i + ·) ev, ← nI_add] at ih2
              exact ih2
            · have d2 : isK kd 2 i = true := by rw [isK2]; exact decide_eq_true ((nI_eq (by have := hK.kd i hi; omega) (by decide)).mp c53)
              refine V_c i_X11_countBy_56 ?_
              refine V_goto i_X11_countBy_57 ?_
              refine V_iadd i_X11_countBy_61 ?_
              refine V_is (L' := [(0, _), (1, _), (2, _), (3, _)]) i_X11_countBy_62 (by decide) ⟨rfl, rfl, rfl, rfl, trivial⟩ ?_
              refine V_iinc (L' := [(0, _), (1, _), (2, _), (3, _)]) (n' := 1) i_X11_countBy_63 (by decide) rfl (by decide) ⟨rfl, rfl, rfl, rfl, trivial⟩ ?_
              refine V_goto i_X11_countBy_66 ?_
              refine V_L (L' := [(0, _), (1, _), (2, _), (3, _)]) ⟨rfl, rfl, rfl, rfl, trivial⟩ ?_
              rw [show nI i + 1 = nI (i + 1) from nI_1 i]
              have ev : cnA kd nd w i = 1 := by unfold cnA; rw [if_neg w1, if_neg w2, if_pos w3, if_pos d2]
              have ih2 := ih
              rw [show sumN (cnA kd nd w) (i + 1) = sumN (cnA kd nd w) i + 1 from congrArg (sumN (cnA kd nd w) i + ·) ev, ← nI_add] at ih2
              exact ih2
        · have w2 : w = 2 := (nI_eq (by omega) (by decide)).mp c29
          refine V_al i_X11_countBy_32 rfl ?_
          refine V_il i_X11_countBy_33 rfl ?_
          refine V_c i_X11_countBy_34 ?_
          refine P_callV2v i_X11_countBy_35 mi_X11_isOf rfl ⟨_, _, rfl⟩ (by decide) (Nat.le_of_ble_eq_true rfl) (c_M_isOf _ _ hK.n7 hK.M hK.kd hi (by decide)) ?_
          refine V_if_ne i_X11_countBy_38 (fun c38 => ?_) (fun c38 => ?_)
          · have d1 : isK kd 1 i = true := yes01 c38
            refine V_c i_X11_countBy_56 ?_
            refine V_goto i_X11_countBy_57 ?_
            refine V_iadd i_X11_countBy_61 ?_
            refine V_is (L' := [(0, _), (1, _), (2, _), (3, _)]) i_X11_countBy_62 (by decide) ⟨rfl, rfl, rfl, rfl, trivial⟩ ?_
            refine V_iinc (L' := [(0, _), (1, _), (2, _), (3, _)]) (n' := 1) i_X11_countBy_63 (by decide) rfl (by decide) ⟨rfl, rfl, rfl, rfl, trivial⟩ ?_
            refine V_goto i_X11_countBy_66 ?_
            refine V_L (L' := [(0, _), (1, _), (2, _), (3, _)]) ⟨rfl, rfl, rfl, rfl, trivial⟩ ?_
            rw [show nI i + 1 = nI (i + 1) from nI_1 i]
            have ev : cnA kd nd w i = 1 := by unfold cnA; rw [if_neg w1, if_pos w2, if_pos d1]
            have ih2 := ih
            rw [show sumN (cnA kd nd w) (i + 1) = sumN (cnA kd nd w) i + 1 from congrArg (sumN (cnA kd nd w) i + ·) ev, ← nI_add] at ih2
            exact ih2
          · have d1 : ¬ isK kd 1 i = true := no01 (c38)
            refine V_il i_X11_countBy_41 rfl ?_
            refine V_c i_X11_countBy_42 ?_
            refine V_ic_ne i_X11_countBy_43 (fun c43 => ?_) (fun c43 => ?_)
            · have w3 : ¬ w = 3 := fun q => c43 (by rw [q]; rfl)
              refine V_c i_X11_countBy_60 ?_
              refine V_iadd i_X11_countBy_61 ?_
              refine V_is (L' := [(0, _), (1, _), (2, _), (3, _)]) i_X11_countBy_62 (by decide) ⟨rfl, rfl, rfl, rfl, trivial⟩ ?_
              refine V_iinc (L' := [(0, _), (1, _), (2, _), (3, _)]) (n' := 1) i_X11_countBy_63 (by decide) rfl (by decide) ⟨rfl, rfl, rfl, rfl, trivial⟩ ?_
              refine V_goto i_X11_countBy_66 ?_
              refine V_L (L' := [(0, _), (1, _), (2, _), (3, _)]) ⟨rfl, rfl, rfl, rfl, trivial⟩ ?_
              rw [show nI i + 1 = nI (i + 1) from nI_1 i]
              have ev : cnA kd nd w i = 0 := by unfold cnA; rw [if_neg w1, if_pos w2, if_neg d1]
              have ih2 := ih
              rw [show sumN (cnA kd nd w) (i + 1) = sumN (cnA kd nd w) i + 0 from congrArg (sumN (cnA kd nd w) i + ·) ev, ← nI_add] at ih2
              exact ih2
            · have w3 : w = 3 := (nI_eq (by omega) (by decide)).mp c43
              refine V_al i_X11_countBy_46 rfl ?_
              refine V_getR i_X11_countBy_47 rfl rfl ?_
              refine V_il i_X11_countBy_50 rfl ?_
              refine K_iald i i_X11_countBy_51 rfl rfl (by have := hK.n7; omega) (by omega) ?_
              rw [hK.M.2.1 i hi]
              refine V_c i_X11_countBy_52 ?_
              refine V_ic_ne i_X11_countBy_53 (fun c53 => ?_) (fun c53 => ?_)
              · have d2 : ¬ isK kd 2 i = true := fun q => c53 (by rw [isK2] at q; rw [of_decide_eq_true q]; rfl)
                refine V_c i_X11_countBy_60 ?_
                refine V_iadd i_X11_countBy_61 ?_
                refine V_is (L' := [(0, _), (1, _), (2, _), (3, _)]) i_X11_countBy_62 (by decide) ⟨rfl, rfl, rfl, rfl, trivial⟩ ?_
                refine V_iinc (L' := [(0, _), (1, _), (2, _), (3, _)]) (n' := 1) i_X11_countBy_63 (by decide) rfl (by decide) ⟨rfl, rfl, rfl, rfl, trivial⟩ ?_
                refine V_goto i_X11_countBy_66 ?_
                refine V_L (L' := [(0, _), (1, _), (2, _), (3, _)]) ⟨rfl, rfl, rfl, rfl, trivial⟩ ?_
                omega
              · have d2 : isK kd 2 i = true := by rw [isK2]; exact decide_eq_true ((nI_eq (by have := hK.kd i hi; omega) (by decide)).mp c53)
                refine V_c i_X11_countBy_56 ?_
                refine V_goto i_X11_countBy_57 ?_
                refine V_iadd i_X11_countBy_61 ?_
                refine V_is (L' := [(0, _), (1, _), (2, _), (3, _)]) i_X11_countBy_62 (by decide) ⟨rfl, rfl, rfl, rfl, trivial⟩ ?_
                refine V_iinc (L' := [(0, _), (1, _), (2, _), (3, _)]) (n' := 1) i_X11_countBy_63 (by decide) rfl (by decide) ⟨rfl, rfl, rfl, rfl, trivial⟩ ?_
                refine V_goto i_X11_countBy_66 ?_
                refine V_L (L' := [(0, _), (1, _), (2, _), (3, _)]) ⟨rfl, rfl, rfl, rfl, trivial⟩ ?_
                omega
      · have w1 : w = 1 := (nI_eq (by omega) (by decide)).mp (c15)
        refine V_al i_X11_countBy_18 rfl ?_
        refine V_getR i_X11_countBy_19 rfl rfl ?_
        refine V_il i_X11_countBy_22 rfl ?_
        refine K_iald i i_X11_countBy_23 rfl rfl (by have := hK.n7; omega) (by omega) ?_
        rw [hK.M.2.2 i hi]
        refine V_goto i_X11_countBy_24 ?_
        refine V_iadd i_X11_countBy_61 ?_
        refine V_is (L' := [(0, _), (1, _), (2, _), (3, _)]) i_X11_countBy_62 (by decide) ⟨rfl, rfl, rfl, rfl, trivial⟩ ?_
        refine V_iinc (L' := [(0, _), (1, _), (2, _), (3, _)]) (n' := 1) i_X11_countBy_63 (by decide) rfl (by decide) ⟨rfl, rfl, rfl, rfl, trivial⟩ ?_
        refine V_goto i_X11_countBy_66 ?_
        refine V_L (L' := [(0, _), (1, _), (2, _), (3, _)]) ⟨rfl, rfl, rfl, rfl, trivial⟩ ?_
        rw [show nI i + 1 = nI (i + 1) from nI_1 i]
        have ev : cnA kd nd w i = nd i := by unfold cnA; rw [if_pos w1]
        have ih2 := ih
        rw [show sumN (cnA kd nd w) (i + 1) = sumN (cnA kd nd w) i + nd i from congrArg (sumN (cnA kd nd w) i + ·) ev, ← nI_add] at ih2
        exact ih2
  exact key 0 (Nat.zero_le _)
set_option maxRecDepth 100000 in
set_option maxHeartbeats 4000000 in
theorem lp_cnB (I : IntM) (J : LngM) {w a : Nat} (hw : w ≤ 7) (Q : Option Value → IntM → LngM → Prop) (hq : VP m_X11_countBy 2 104 [(0, .ref 146), (1, .int (nI w)), (2, .int (nI (a + sumN (cnB (geB I 163) 5 w) 3)))] [] I J Q) : VP m_X11_countBy 2 71 [(0, .ref 146), (1, .int (nI w)), (2, .int (nI a)), (3, .int 0)] [] I J Q := by
  have key : ∀ i, i ≤ 3 → VP m_X11_countBy 2 71 [(0, .ref 146), (1, .int (nI w)), (2, .int (nI (a + sumN (cnB (geB I 163) 5 w) i))), (3, .int (nI i))] [] I J Q := by
    refine down 3 ?_ (fun i hi ih => ?_)
    · refine V_il i_X11_countBy_71 rfl ?_
      refine V_c i_X11_countBy_72 ?_
      refine V_ic_ge_t i_X11_countBy_73 (Int32.le_refl _) ?_
      exact V_L (L' := [(0, _), (1, _), (2, _)]) ⟨rfl, rfl, rfl, trivial⟩ hq
    · refine V_il i_X11_countBy_71 rfl ?_
      refine V_c i_X11_countBy_72 ?_
      refine V_ic_ge_f i_X11_countBy_73 (nI_ge (show i < 3 by omega) (by decide)) ?_
      refine V_il i_X11_countBy_76 rfl ?_
      refine V_il i_X11_countBy_77 rfl ?_
      refine V_c i_X11_countBy_78 ?_
      refine V_ic_ne i_X11_countBy_79 (fun c79 => ?_) (fun c79 => ?_)
      · have w1 : ¬ w = 5 := fun q => c79 (by rw [q]; rfl)
        refine V_c i_X11_countBy_95 ?_
        refine V_iadd i_X11_countBy_96 ?_
        refine V_is (L' := [(0, _), (1, _), (2, _), (3, _)]) i_X11_countBy_97 (by decide) ⟨rfl, rfl, rfl, rfl, trivial⟩ ?_
        refine V_iinc (L' := [(0, _), (1, _), (2, _), (3, _)]) (n' := 1) i_X11_countBy_98 (by decide) rfl (by decide) ⟨rfl, rfl, rfl, rfl, trivial⟩ ?_
        refine V_goto i_X11_countBy_101 ?_
        refine V_L (L' := [(0, _), (1, _), (2, _), (3, _)]) ⟨rfl, rfl, rfl, rfl, trivial⟩ ?_
        rw [show nI i + 1 = nI (i + 1) from nI_1 i]
        have ev : cnB (geB I 163) 5 w i = 0 := by unfold cnB; rw [if_neg w1]
        have ih2 := ih
        rw [show a + sumN (cnB (geB I 163) 5 w) (i + 1) = a + sumN (cnB (geB I 163) 5 w) i + 0 from by show a + (sumN (cnB (geB I 163) 5 w) i + cnB (geB I 163) 5 w i) = _; rw [ev]; rfl, ← nI_add] at ih2
        exact ih2
      · have w1 : w = 5 := (nI_eq (by omega) (by decide)).mp c79
        refine V_al i_X11_countBy_82 rfl ?_
        refine V_getR i_X11_countBy_83 rfl rfl ?_
        refine V_il i_X11_countBy_86 rfl ?_
        refine K_iald i i_X11_countBy_87 rfl rfl (by omega) (by omega) ?_
        refine V_if_lt i_X11_countBy_88 (fun c88 => ?_) (fun c88 => ?_)
        · have d1 : ¬ geB I 163 i = true := fun q => of_decide_eq_true q c88
          refine V_c i_X11_countBy_95 ?_
          refine V_iadd i_X11_countBy_96 ?_
          refine V_is (L' := [(0, _), (1, _), (2, _), (3, _)]) i_X11_countBy_97 (by decide) ⟨rfl, rfl, rfl, rfl, trivial⟩ ?_
          refine V_iinc (L' := [(0, _), (1, _), (2, _), (3, _)]) (n' := 1) i_X11_countBy_98 (by decide) rfl (by decide) ⟨rfl, rfl, rfl, rfl, trivial⟩ ?_
          refine V_goto i_X11_countBy_101 ?_
          refine V_L (L' := [(0, _), (1, _), (2, _), (3, _)]) ⟨rfl, rfl, rfl, rfl, trivial⟩ ?_
          rw [show nI i + 1 = nI (i + 1) from nI_1 i]
          have ev : cnB (geB I 163) 5 w i = 0 := by unfold cnB; rw [if_pos w1, if_neg d1]
          have ih2 := ih
          rw [show a + sumN (cnB (geB I 163) 5 w) (i + 1) = a + sumN (cnB (geB I 163) 5 w) i + 0 from by show a + (sumN (cnB (geB I 163) 5 w) i + cnB (geB I 163) 5 w i) = _; rw [ev]; rfl, ← nI_add] at ih2
          exact ih2
        · have d1 : geB I 163 i = true := decide_eq_true c88
          refine V_c i_X11_countBy_91 ?_
          refine V_goto i_X11_countBy_92 ?_
          refine V_iadd i_X11_countBy_96 ?_
          refine V_is (L' := [(0, _), (1, _), (2, _), (3, _)]) i_X11_countBy_97 (by decide) ⟨rfl, rfl, rfl, rfl, trivial⟩ ?_
          refine V_iinc (L' := [(0, _), (1, _), (2, _), (3, _)]) (n' := 1) i_X11_countBy_98 (by decide) rfl (by decide) ⟨rfl, rfl, rfl, rfl, trivial⟩ ?_
          refine V_goto i_X11_countBy_101 ?_
          refine V_L (L' := [(0, _), (1, _), (2, _), (3, _)]) ⟨rfl, rfl, rfl, rfl, trivial⟩ ?_
          rw [show nI i + 1 = nI (i + 1) from nI_1 i]
          have ev : cnB (geB I 163) 5 w i = 1 := by unfold cnB; rw [if_pos w1, if_pos d1]
          have ih2 := ih
          rw [show a + sumN (cnB (geB I 163) 5 w) (i + 1) = a + sumN (cnB (geB I 163) 5 w) i + 1 from by show a + (sumN (cnB (geB I 163) 5 w) i + cnB (geB I 163) 5 w i) = _; rw [ev]; rfl, ← nI_add] at ih2
          exact ih2
  exact key 0 (Nat.zero_le _)
set_option maxRecDepth 100000 in
set_option maxHeartbeats 4000000 in
theorem lp_cnC (I : IntM) (J : LngM) {w a : Nat} (hw : w ≤ 7) (Q : Option Value → IntM → LngM → Prop) (hq : VP m_X11_countBy 2 141 [(0, .ref 146), (1, .int (nI w)), (2, .int (nI (a + sumN (cnB (geB I 148) 6 w) 6)))] [] I J Q) : VP m_X11_countBy 2 106 [(0, .ref 146), (1, .int (nI w)), (2, .int (nI a)), (3, .int 0)] [] I J Q := by
  have key : ∀ i, i ≤ 6 → VP m_X11_countBy 2 106 [(0, .ref 146), (1, .int (nI w)), (2, .int (nI (a + sumN (cnB (geB I 148) 6 w) i))), (3, .int (nI i))] [] I J Q := by
    refine down 6 ?_ (fun i hi ih => ?_)
    · refine V_il i_X11_countBy_106 rfl ?_
      refine V_c i_X11_countBy_107 ?_
      refine V_ic_ge_t i_X11_countBy_109 (Int32.le_refl _) ?_
      exact V_L (L' := [(0, _), (1, _), (2, _)]) ⟨rfl, rfl, rfl, trivial⟩ hq
    · refine V_il i_X11_countBy_106 rfl ?_
      refine V_c i_X11_countBy_107 ?_
      refine V_ic_ge_f i_X11_countBy_109 (nI_ge (show i < 6 by omega) (by decide)) ?_
      refine V_il i_X11_countBy_112 rfl ?_
      refine V_il i_X11_countBy_113 rfl ?_
      refine V_c i_X11_countBy_114 ?_
      refine V_ic_ne i_X11_countBy_116 (fun c116 => ?_) (fun c116 => ?_)
      · have w1 : ¬ w = 6 := fun q => c116 (by rw [q]; rfl)
        refine V_c i_X11_countBy_132 ?_
        refine V_iadd i_X11_countBy_133 ?_
        refine V_is (L' := [(0, _), (1, _), (2, _), (3, _)]) i_X11_countBy_134 (by decide) ⟨rfl, rfl, rfl, rfl, trivial⟩ ?_
        refine V_iinc (L' := [(0, _), (1, _), (2, _), (3, _)]) (n' := 1) i_X11_countBy_135 (by decide) rfl (by decide) ⟨rfl, rfl, rfl, rfl, trivial⟩ ?_
        refine V_goto i_X11_countBy_138 ?_
        refine V_L (L' := [(0, _), (1, _), (2, _), (3, _)]) ⟨rfl, rfl, rfl, rfl, trivial⟩ ?_
        rw [show nI i + 1 = nI (i + 1) from nI_1 i]
        have ev : cnB (geB I 148) 6 w i = 0 := by unfold cnB; rw [if_neg w1]
        have ih2 := ih
        rw [show a + sumN (cnB (geB I 148) 6 w) (i + 1) = a + sumN (cnB (geB I 148) 6 w) i + 0 from by show a + (sumN (cnB (geB I 148) 6 w) i + cnB (geB I 148) 6 w i) = _; rw [ev]; rfl, ← nI_add] at ih2
        exact ih2
      · have w1 : w = 6 := (nI_eq (by omega) (by decide)).mp c116
        refine V_al i_X11_countBy_119 rfl ?_
        refine V_getR i_X11_countBy_120 rfl rfl ?_
        refine V_il i_X11_countBy_123 rfl ?_
        refine K_iald i i_X11_countBy_124 rfl rfl (by omega) (by omega) ?_
        refine V_if_lt i_X11_countBy_125 (fun c125 => ?_) (fun c125 => ?_)
        · have d1 : ¬ geB I 148 i = true := fun q => of_decide_eq_true q c125
          refine V_c i_X11_countBy_132 ?_
          refine V_iadd i_X11_countBy_133 ?_
          refine V_is (L' := [(0, _), (1, _), (2, _), (3, _)]) i_X11_countBy_134 (by decide) ⟨rfl, rfl, rfl, rfl, trivial⟩ ?_
          refine V_iinc (L' := [(0, _), (1, _), (2, _), (3, _)]) (n' := 1) i_X11_countBy_135 (by decide) rfl (by decide) ⟨rfl, rfl, rfl, rfl, trivial⟩ ?_
          refine V_goto i_X11_countBy_138 ?_
          refine V_L (L' := [(0, _), (1, _), (2, _), (3, _)]) ⟨rfl, rfl, rfl, rfl, trivial⟩ ?_
          rw [show nI i + 1 = nI (i + 1) from nI_1 i]
          have ev : cnB (geB I 148) 6 w i = 0 := by unfold cnB; rw [if_pos w1, if_neg d1]
          have ih2 := ih
          rw [show a + sumN (cnB (geB I 148) 6 w) (i + 1) = a + sumN (cnB (geB I 148) 6 w) i + 0 from by show a + (sumN (cnB (geB I 148) 6 w) i + cnB (geB I 148) 6 w i) = _; rw [ev]; rfl, ← nI_add] at ih2
          exact ih2
        · have d1 : geB I 148 i = true := decide_eq_true c125
          refine V_c i_X11_countBy_128 ?_
          refine V_goto i_X11_countBy_129 ?_
          refine V_iadd i_X11_countBy_133 ?_
          refine V_is (L' := [(0, _), (1, _), (2, _), (3, _)]) i_X11_countBy_134 (by decide) ⟨rfl, rfl, rfl, rfl, trivial⟩ ?_
          refine V_iinc (L' := [(0, _), (1, _), (2, _), (3, _)]) (n' := 1) i_X11_countBy_135 (by decide) rfl (by decide) ⟨rfl, rfl, rfl, rfl, trivial⟩ ?_
          refine V_goto i_X11_countBy_138 ?_
          refine V_L (L' := [(0, _), (1, _), (2, _), (3, _)]) ⟨rfl, rfl, rfl, rfl, trivial⟩ ?_
          rw [show nI i + 1 = nI (i + 1) from nI_1 i]
          have ev : cnB (geB I 148) 6 w i = 1 := by unfold cnB; rw [if_pos w1, if_pos d1]
          have ih2 := ih
          rw [show a + sumN (cnB (geB I 148) 6 w) (i + 1) = a + sumN (cnB (geB I 148) 6 w) i + 1 from by show a + (sumN (cnB (geB I 148) 6 w) i + cnB (geB I 148) 6 w i) = _; rw [ev]; rfl, ← nI_add] at ih2
          exact ih2
  exact key 0 (Nat.zero_le _)
set_option maxRecDepth 100000 in
set_option maxHeartbeats 4000000 in
theorem lp_cnD (I : IntM) (J : LngM) {w a : Nat} (hw : w ≤ 7) (Q : Option Value → IntM → LngM → Prop) (hq : VP m_X11_countBy 2 177 [(0, .ref 146), (1, .int (nI w)), (2, .int (nI (a + sumN (cnB (geB I 150) 7 w) 4)))] [] I J Q) : VP m_X11_countBy 2 143 [(0, .ref 146), (1, .int (nI w)), (2, .int (nI a)), (3, .int 0)] [] I J Q := by
  have key : ∀ i, i ≤ 4 → VP m_X11_countBy 2 143 [(0, .ref 146), (1, .int (nI w)), (2, .int (nI (a + sumN (cnB (geB I 150) 7 w) i))), (3, .int (nI i))] [] I J Q := by
    refine down 4 ?_ (fun i hi ih => ?_)
    · refine V_il i_X11_countBy_143 rfl ?_
      refine V_c i_X11_countBy_144 ?_
      refine V_ic_ge_t i_X11_countBy_145 (Int32.le_refl _) ?_
      exact V_L (L' := [(0, _), (1, _), (2, _)]) ⟨rfl, rfl, rfl, trivial⟩ hq
    · refine V_il i_X11_countBy_143 rfl ?_
      refine V_c i_X11_countBy_144 ?_
      refine V_ic_ge_f i_X11_countBy_145 (nI_ge (show i < 4 by omega) (by decide)) ?_
      refine V_il i_X11_countBy_148 rfl ?_
      refine V_il i_X11_countBy_149 rfl ?_
      refine V_c i_X11_countBy_150 ?_
      refine V_ic_ne i_X11_countBy_152 (fun c152 => ?_) (fun c152 => ?_)
      · have w1 : ¬ w = 7 := fun q => c152 (by rw [q]; rfl)
        refine V_c i_X11_countBy_168 ?_
        refine V_iadd i_X11_countBy_169 ?_
        refine V_is (L' := [(0, _), (1, _), (2, _), (3, _)]) i_X11_countBy_170 (by decide) ⟨rfl, rfl, rfl, rfl, trivial⟩ ?_
        refine V_iinc (L' := [(0, _), (1, _), (2, _), (3, _)]) (n' := 1) i_X11_countBy_171 (by decide) rfl (by decide) ⟨rfl, rfl, rfl, rfl, trivial⟩ ?_
        refine V_goto i_X11_countBy_174 ?_
        refine V_L (L' := [(0, _), (1, _), (2, _), (3, _)]) ⟨rfl, rfl, rfl, rfl, trivial⟩ ?_
        rw [show nI i + 1 = nI (i + 1) from nI_1 i]
        have ev : cnB (geB I 150) 7 w i = 0 := by unfold cnB; rw [if_neg w1]
        have ih2 := ih
        rw [show a + sumN (cnB (geB I 150) 7 w) (i + 1) = a + sumN (cnB (geB I 150) 7 w) i + 0 from by show a + (sumN (cnB (geB I 150) 7 w) i + cnB (geB I 150) 7 w i) = _; rw [ev]; rfl, ← nI_add] at ih2
        exact ih2
      · have w1 : w = 7 := (nI_eq (by omega) (by decide)).mp c152
        refine V_al i_X11_countBy_155 rfl ?_
        refine V_getR i_X11_countBy_156 rfl rfl ?_
        refine V_il i_X11_countBy_159 rfl ?_
        refine K_iald i i_X11_countBy_160 rfl rfl (by omega) (by omega) ?_
        refine V_if_lt i_X11_countBy_161 (fun c161 => ?_) (fun c161 => ?_)
        · have d1 : ¬ geB I 150 i = true := fun q => of_decide_eq_true q c161
          refine V_c i_X11_countBy_168 ?_
          refine V_iadd i_X11_countBy_169 ?_
          refine V_is (L' := [(0, _), (1, _), (2, _), (3, _)]) i_X11_countBy_170 (by decide) ⟨rfl, rfl, rfl, rfl, trivial⟩ ?_
          refine V_iinc (L' := [(0, _), (1, _), (2, _), (3, _)]) (n' := 1) i_X11_countBy_171 (by decide) rfl (by decide) ⟨rfl, rfl, rfl, rfl, trivial⟩ ?_
          refine V_goto i_X11_countBy_174 ?_
          refine V_L (L' := [(0, _), (1, _), (2, _), (3, _)]) ⟨rfl, rfl, rfl, rfl, trivial⟩ ?_
          rw [show nI i + 1 = nI (i + 1) from nI_1 i]
          have ev : cnB (geB I 150) 7 w i = 0 := by unfold cnB; rw [if_pos w1, if_neg d1]
          have ih2 := ih
          rw [show a + sumN (cnB (geB I 150) 7 w) (i + 1) = a + sumN (cnB (geB I 150) 7 w) i + 0 from by show a + (sumN (cnB (geB I 150) 7 w) i + cnB (geB I 150) 7 w i) = _; rw [ev]; rfl, ← nI_add] at ih2
          exact ih2
        · have d1 : geB I 150 i = true := decide_eq_true c161
          refine V_c i_X11_countBy_164 ?_
          refine V_goto i_X11_countBy_165 ?_
          refine V_iadd i_X11_countBy_169 ?_
          refine V_is (L' := [(0, _), (1, _), (2, _), (3, _)]) i_X11_countBy_170 (by decide) ⟨rfl, rfl, rfl, rfl, trivial⟩ ?_
          refine V_iinc (L' := [(0, _), (1, _), (2, _), (3, _)]) (n' := 1) i_X11_countBy_171 (by decide) rfl (by decide) ⟨rfl, rfl, rfl, rfl, trivial⟩ ?_
          refine V_goto i_X11_countBy_174 ?_
          refine V_L (L' := [(0, _), (1, _), (2, _), (3, _)]) ⟨rfl, rfl, rfl, rfl, trivial⟩ ?_
          rw [show nI i + 1 = nI (i + 1) from nI_1 i]
          have ev : cnB (geB I 150) 7 w i = 1 := by unfold cnB; rw [if_pos w1, if_pos d1]
          have ih2 := ih
          rw [show a + sumN (cnB (geB I 150) 7 w) (i + 1) = a + sumN (cnB (geB I 150) 7 w) i + 1 from by show a + (sumN (cnB (geB I 150) 7 w) i + cnB (geB I 150) 7 w i) = _; rw [ev]; rfl, ← nI_add] at ih2
          exact ih2
  exact key 0 (Nat.zero_le _)
set_option maxRecDepth 100000 in
set_option maxHeartbeats 4000000 in
theorem m_countBy (I : IntM) (J : LngM) {n : Nat} {kd nd od : Nat → Nat} {lw pot : Nat} (hK : MK I n kd nd od lw pot) {w e : Nat} (hw : w ≤ 7) (he : I 146 32 = nI e) : CtV 2 m_X11_countBy [.ref 146, .int (nI w)] I J (.int (cnW I n e kd nd w)) I J := by
  refine CtV_of (by decide) rfl (Nat.le_of_ble_eq_true rfl) ?_
  refine V_c i_X11_countBy_0 ?_
  refine V_is (L' := [(0, _), (1, _), (2, _)]) i_X11_countBy_1 (by decide) ⟨rfl, rfl, rfl, trivial⟩ ?_
  refine V_c i_X11_countBy_2 ?_
  refine V_is (L' := [(0, _), (1, _), (2, _), (3, _)]) i_X11_countBy_3 (by decide) ⟨rfl, rfl, rfl, rfl, trivial⟩ ?_
  refine V_L (L' := [(0, _), (1, _), (2, _), (3, _)]) ⟨rfl, rfl, rfl, rfl, trivial⟩ ?_
  refine lp_cnA I J hK hw _ ?_
  refine V_c i_X11_countBy_69 ?_
  refine V_is (L' := [(0, _), (1, _), (2, _), (3, _)]) i_X11_countBy_70 (by decide) ⟨rfl, rfl, rfl, rfl, trivial⟩ ?_
  refine lp_cnB I J hw _ ?_
  refine V_c i_X11_countBy_104 ?_
  refine V_is (L' := [(0, _), (1, _), (2, _), (3, _)]) i_X11_countBy_105 (by decide) ⟨rfl, rfl, rfl, rfl, trivial⟩ ?_
  refine lp_cnC I J hw _ ?_
  refine V_c i_X11_countBy_141 ?_
  refine V_is (L' := [(0, _), (1, _), (2, _), (3, _)]) i_X11_countBy_142 (by decide) ⟨rfl, rfl, rfl, rfl, trivial⟩ ?_
  refine lp_cnD I J hw _ ?_
  refine V_il i_X11_countBy_177 rfl ?_
  refine V_if_ne i_X11_countBy_178 (fun c178 => ?_) (fun c178 => ?_)
  · have w0 : ¬ w = 0 := fun q => c178 (by rw [q]; rfl)
    refine V_il i_X11_countBy_188 rfl ?_
    refine V_c i_X11_countBy_189 ?_
    refine V_ic_ne i_X11_countBy_190 (fun c190 => ?_) (fun c190 => ?_)
    · have w4 : ¬ w = 4 := fun q => c190 (by rw [q]; rfl)
      refine V_il i_X11_countBy_200 rfl ?_
      exact P_iret i_X11_countBy_201 rfl ⟨by unfold cnW; first | rw [if_pos w0] | rw [if_neg w0, if_pos w4] | (rw [if_neg w0, if_neg w4]; rfl), rfl, rfl⟩
    · have w4 : w = 4 := (nI_eq (by omega) (by decide)).mp c190
      refine V_al i_X11_countBy_193 rfl ?_
      refine V_getI i_X11_countBy_194 rfl ?_
      rw [he]
      refine V_goto i_X11_countBy_197 ?_
      exact P_iret i_X11_countBy_201 rfl ⟨by unfold cnW; first | rw [if_pos w0] | rw [if_neg w0, if_pos w4] | (rw [if_neg w0, if_neg w4]; rfl), rfl, rfl⟩
  · have w0 : w = 0 := (nI_eq (by omega) (by decide)).mp c178
    refine V_al i_X11_countBy_181 rfl ?_
    refine V_getI i_X11_countBy_182 rfl ?_
    rw [hK.sz]
    refine V_goto i_X11_countBy_185 ?_
    exact P_iret i_X11_countBy_201 rfl ⟨by unfold cnW; first | rw [if_pos w0] | rw [if_neg w0, if_pos w4] | (rw [if_neg w0, if_neg w4]; rfl), rfl, rfl⟩

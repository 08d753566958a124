
/-! ===== kitchens ===== -/
theorem lN_toI {x : Nat} (h : x < 2 ^ 31) : (lN x).toInt32 = nI x := by rw [← nI_long h, lg_l2i_i2l]
def nzN (z : Nat) : Nat := z * 48271 % 2147483647
theorem nz_lt (z : Nat) : nzN z < 2147483647 := Nat.mod_lt _ (by decide)
def drN : Nat → Nat → (Nat → Nat) → Nat × (Nat → Nat) := fun p => match p with
  | 0 => fun z f => (z, f)
  | p + 1 => fun z f => drN p (nzN z) (sw f (p + 1) (nzN z % (p + 2)))
theorem drN_ok {n : Nat} : ∀ p z f, p < n → z < 2147483647 → Pm n f → (drN p z f).1 < 2147483647 ∧ Pm n (drN p z f).2
  | 0, z, f, _, hz, hf => ⟨hz, hf⟩
  | p + 1, z, f, hp, hz, hf => by
    have h := Nat.mod_lt (nzN z) (show 0 < p + 2 by omega)
    exact drN_ok p _ _ (by omega) (nz_lt z) (Pm_sw hf hp (by omega))
def kiS (kd nd : Nat → Nat) (lw how P : Nat) (od : Nat → Nat) (n s : Nat) : Nat → Nat × (Nat → Nat) := fun e => match e with
  | 0 => (s, fun _ => 0)
  | e + 1 => ((drN (n - 1) (kiS kd nd lw how P od n s e).1 od).1, fun k => (kiS kd nd lw how P od n s e).2 k + if (setN (fdE kd nd lw how P (drN (n - 1) (kiS kd nd lw how P od n s e).1 od).2 n) n).testBit k = true then 1 else 0)
theorem kiS_lt {kd nd : Nat → Nat} {lw how P : Nat} {od : Nat → Nat} {n s : Nat} (h1 : 1 ≤ n) (hs : s < 2147483647) (hP : Pm n od) : ∀ e, (kiS kd nd lw how P od n s e).1 < 2147483647
  | 0 => hs
  | e + 1 => (drN_ok (n - 1) _ od (by omega) (kiS_lt h1 hs hP e) hP).1
theorem fgr_cong {f g : Nat → Int32} : ∀ {n}, (∀ k, k < n → f k = g k) → fgr f n = fgr g n
  | 0, _ => rfl
  | 1, h => by
    show (if f 0 < f 0 then 0 else 0) = (if g 0 < g 0 then 0 else 0)
    rw [h 0 (by decide)]
  | n + 2, h => by
    have ih := fgr_cong (f := f) (g := g) (n := n + 1) (fun k hk => h k (by omega))
    have hl := fgr_le g n
    show (if f (fgr f (n + 1)) < f (n + 1) then n + 1 else fgr f (n + 1)) = (if g (fgr g (n + 1)) < g (n + 1) then n + 1 else fgr g (n + 1))
    rw [ih, h _ (by omega), h (n + 1) (by omega)]

set_option maxRecDepth 100000 in
set_option maxHeartbeats 4000000 in
theorem lp_draw (I : IntM) (J : LngM) {n : Nat} (hn : n ≤ 7) (hz8 : I 108 1 = nI 7) (Q : Option Value → IntM → LngM → Prop) : ∀ p, p < n → ∀ z f, z < 2147483647 → (∀ I1 J1, (∀ a k, a ≠ 109 → I1 a k = I a k) → (∀ a k, ¬ (a = 90 ∧ k = 4) → J1 a k = J a k) → AtI I1 109 n (drN p z f).2 → J1 90 4 = lN (drN p z f).1 → Q none I1 J1) → ∀ I1 J1, (∀ a k, a ≠ 109 → I1 a k = I a k) → (∀ a k, ¬ (a = 90 ∧ k = 4) → J1 a k = J a k) → AtI I1 109 n f → J1 90 4 = lN z → VP m_X1_draw 4 22 [(0, .ref 90), (2, .int (nI p))] [] I1 J1 Q := by
  intro p
  induction p with
  | zero =>
    intro hp z f hz hq I1 J1 fr frJ hf hz1
    refine V_il i_X1_draw_22 rfl ?_
    refine V_c i_X1_draw_23 ?_
    refine V_ic_lt_t i_X1_draw_24 (by decide) ?_
    exact P_vret i_X1_draw_67 rfl (hq I1 J1 fr frJ hf hz1)
  | succ p ih =>
    intro hp z f hz hq I1 J1 fr frJ hf hz1
    have hj := Nat.mod_lt (nzN z) (show 0 < p + 2 by omega)
    have hnz := nz_lt z
    refine V_il i_X1_draw_22 rfl ?_
    refine V_c i_X1_draw_23 ?_
    refine V_ic_lt_f i_X1_draw_24 (nI_nlt (a := p + 1) (b := 1) (by omega) (by omega)) ?_
    refine V_al i_X1_draw_27 rfl ?_
    refine V_al i_X1_draw_28 rfl ?_
    refine V_getJ i_X1_draw_29 rfl ?_
    rw [hz1]
    refine V_cl i_X1_draw_32 ?_
    refine V_lmul i_X1_draw_35 ?_
    rw [show (48271 : Int64) = lN 48271 from rfl, lN_mul]
    refine V_cl i_X1_draw_36 ?_
    refine V_lrem i_X1_draw_39 (by decide) ?_
    rw [show (2147483647 : Int64) = lN 2147483647 from rfl, pk_lRem (by omega) (by decide) (by decide), show z * 48271 % 2147483647 = nzN z from rfl]
    refine V_putJ i_X1_draw_40 rfl ?_
    refine V_al i_X1_draw_43 rfl ?_
    refine V_getR i_X1_draw_44 rfl rfl ?_
    refine V_il i_X1_draw_47 rfl ?_
    refine V_al i_X1_draw_48 rfl ?_
    refine V_getJ i_X1_draw_49 rfl ?_
    rw [uJ_eq]
    refine V_il i_X1_draw_52 rfl ?_
    refine V_c i_X1_draw_53 ?_
    refine V_iadd i_X1_draw_54 ?_
    rw [nI_1, show p + 1 + 1 = p + 2 from rfl]
    refine V_i2l i_X1_draw_55 ?_
    rw [nI_long (by omega)]
    refine V_lrem i_X1_draw_56 (lN_ne (by omega) (by omega)) ?_
    rw [pk_lRem (by omega) (by omega) (by omega)]
    refine V_l2i i_X1_draw_57 ?_
    rw [lN_toI (by omega)]
    refine P_callV2u i_X1_draw_58 mi_X3_swap rfl ⟨_, _, rfl⟩ (by decide) (Nat.le_of_ble_eq_true rfl) (c_I_swap _ _ (x := 108) (n := 7) (s := 7) (i := p + 1) (j := nzN z % (p + 2)) ⟨rfl, rfl, rfl, by decide⟩ (by rw [fr _ _ (by decide)]; exact hz8) (by decide) (by omega) (by omega)) ?_
    refine V_iinc (L' := [(0, _), (2, _)]) (n' := (-1)) i_X1_draw_61 (by decide) rfl (by decide) ⟨rfl, rfl, trivial⟩ ?_
    refine V_goto i_X1_draw_64 ?_
    refine V_L (L' := [(0, _), (2, _)]) ⟨rfl, rfl, trivial⟩ ?_
    rw [show nI (p + 1) + -1 = nI p from pk_m1 p]
    exact ih (by omega) (nzN z) _ (nz_lt z) hq _ _ (fun a k h => by rw [uI_nx (show a ≠ 108 + 1 from h), uI_nx (show a ≠ 108 + 1 from h)]; exact fr a k h) (fun a k h => by unfold uJ; rw [if_neg h]; exact frJ a k h) (sw_row hf (by omega) (by omega)) uJ_eq
set_option maxRecDepth 100000 in
set_option maxHeartbeats 4000000 in
theorem c_draw (I : IntM) (J : LngM) {n : Nat} {kd nd od : Nat → Nat} {lw pot : Nat} (hK : CK I n kd nd od lw pot) {z : Nat} (h1 : 1 ≤ n) (hz : z < 2147483647) (hz1 : J 90 4 = lN z) : CtP 4 m_X1_draw [.ref 90, .ref 8] I J (fun r I1 J1 => r = none ∧ (∀ a k, a ≠ 109 → I1 a k = I a k) ∧ (∀ a k, ¬ (a = 90 ∧ k = 4) → J1 a k = J a k) ∧ AtI I1 109 n (drN (n - 1) z od).2 ∧ J1 90 4 = lN (drN (n - 1) z od).1) := by
  refine CtP_of (by decide) rfl (Nat.le_of_ble_eq_true rfl) ?_
  refine V_al i_X1_draw_0 rfl ?_
  refine V_getR i_X1_draw_1 rfl rfl ?_
  refine V_al i_X1_draw_4 rfl ?_
  refine V_getR i_X1_draw_5 rfl rfl ?_
  refine V_c i_X1_draw_8 ?_
  refine V_c i_X1_draw_9 ?_
  refine V_c i_X1_draw_10 ?_
  refine P_callV4u i_X1_draw_12 mi_X3_moveTo rfl ⟨_, _, rfl⟩ (by decide) (Nat.le_of_ble_eq_true rfl) (c_I_moveTo I J (x := 13) (n := 7) (y := 108) (n2 := 7) (s := 7) (t := 7) (a := 0) (b := 0) (c := 7) ⟨rfl, rfl, rfl, by decide⟩ ⟨rfl, rfl, rfl, by decide⟩ hK.z13 hK.Z.2.2.2.2.2.2.2.2.2 (by decide) (by decide) (by decide) (by decide)) ?_
  obtain ⟨I1, hI1⟩ : ∃ x, x = cpI I (13 + 1) 0 (108 + 1) 0 7 := ⟨_, rfl⟩
  rw [← hI1]
  have x1 : ∀ a k, a ≠ 109 → I1 a k = I a k := fun a k h => by
    rw [hI1]
    unfold cpI
    rw [if_neg (fun z => h z.1)]
  have a1 : AtI I1 109 n od := fun k hk => by
    rw [hI1]
    unfold cpI
    rw [if_pos ⟨rfl, Nat.zero_le _, by have := hK.n7; omega⟩, show 0 + (k - 0) = k by omega]
    exact hK.od k hk
  refine V_al i_X1_draw_15 rfl ?_
  refine V_getI i_X1_draw_16 rfl ?_
  rw [show I1 8 3 = nI n from (x1 _ _ (by decide)).trans hK.sz]
  refine V_c i_X1_draw_19 ?_
  refine V_isub i_X1_draw_20 ?_
  rw [nI_sub1 h1]
  refine V_is (L' := [(0, _), (2, _)]) i_X1_draw_21 (by decide) ⟨rfl, rfl, trivial⟩ ?_
  refine V_L (L' := [(0, _), (2, _)]) ⟨rfl, rfl, trivial⟩ ?_
  exact lp_draw I1 J hK.n7 (by rw [x1 _ _ (by decide)]; exact hK.Z.2.2.2.2.2.2.2.2.2) _ (n - 1) (by omega) z od hz (fun I2 J2 fr frJ h2 h3 => ⟨rfl, fun a k h => (fr a k h).trans (x1 a k h), frJ, h2, h3⟩) I1 J (fun _ _ _ => rfl) (fun _ _ _ => rfl) a1 hz1

def FrR (I : IntM) (J : LngM) (x : Nat) (I1 : IntM) (J1 : LngM) : Prop := (∀ a k, ¬ (a = 3 ∨ a = 5 ∨ a = 7 ∨ (21 ≤ a ∧ a ≤ 109)) → a ≠ x → I1 a k = I a k) ∧ ∀ a k, ¬ (21 ≤ a ∧ a ≤ 109) → J1 a k = J a k
theorem FrR.rf {I : IntM} {J : LngM} {x : Nat} : FrR I J x I J := ⟨fun _ _ _ _ => rfl, fun _ _ _ => rfl⟩
theorem FrR.c {I I1 I2 : IntM} {J J1 J2 : LngM} {x : Nat} (h : FrR I J x I1 J1) (h2 : FrC I1 J1 I2 J2) : FrR I J x I2 J2 := ⟨fun a k h3 h4 => (h2.1 a k h3).trans (h.1 a k h3 h4), fun a k h3 => (h2.2 a k h3).trans (h.2 a k h3)⟩
theorem FrR.u {I I1 : IntM} {J J1 : LngM} {x : Nat} (h : FrR I J x I1 J1) (k : Nat) (v : Int32) : FrR I J x (uI I1 x k v) J1 := ⟨fun a j h3 h4 => by rw [uI_nx h4]; exact h.1 a j h3 h4, h.2⟩
theorem CK.row {I : IntM} {n : Nat} {kd nd od : Nat → Nat} {lw pot : Nat} {x : Nat} (hx : 111 ≤ x) (hK : CK I n kd nd od lw pot) (k : Nat) (v : Int32) : CK (uI I x k v) n kd nd od lw pot := CK.fr (fun a j q => uI_nx (by omega)) (ISz.congr (fun a j q => uI_nx (by omega)) hK.Z) hK

set_option maxRecDepth 100000 in
set_option maxHeartbeats 4000000 in
theorem lp_bl1 (I : IntM) (J : LngM) {n : Nat} {kd nd od : Nat → Nat} {lw pot : Nat} (hK : CK I n kd nd od lw pot) {x : Nat} (hL : LI x 60) (hx : 111 ≤ x) {N e w : Nat} {c : Nat → Nat} (hz : I x 1 = nI n) (hs6 : I 91 6 = nI n) (hw : w < 128) (hfd : I 103 n = nI w) (hc : ∀ k, k < n → I (x + 1) k = nI (c k)) (Q : Option Value → IntM → LngM → Prop) (hq : ∀ I1, CK I1 n kd nd od lw pot → (∀ a k, a ≠ x + 1 → I1 a k = I a k) → (∀ k, k < n → I1 (x + 1) k = nI (c k + if w.testBit k = true then 1 else 0)) → VP m_X1_byLots 5 110 [(0, .ref 90), (1, .ref 8), (2, .int (nI N)), (5, .ref x), (6, .int (nI e))] [] I1 J Q) : VP m_X1_byLots 5 68 [(0, .ref 90), (1, .ref 8), (2, .int (nI N)), (5, .ref x), (6, .int (nI e)), (7, .int 0)] [] I J Q := by
  have key : ∀ i, i ≤ n → ∀ I1 : IntM, CK I1 n kd nd od lw pot → (∀ a k, a ≠ x + 1 → I1 a k = I a k) → (∀ k, k < i → I1 (x + 1) k = nI (c k + if w.testBit k = true then 1 else 0)) → (∀ k, i ≤ k → k < n → I1 (x + 1) k = nI (c k)) → VP m_X1_byLots 5 68 [(0, .ref 90), (1, .ref 8), (2, .int (nI N)), (5, .ref x), (6, .int (nI e)), (7, .int (nI i))] [] I1 J Q := by
    refine down n ?_ (fun i hi ih => ?_)
    · intro I1 k1 fr h1 h2
      refine V_il i_X1_byLots_68 rfl ?_
      refine V_al i_X1_byLots_70 rfl ?_
      refine V_getI i_X1_byLots_71 rfl ?_
      refine V_ic_ge_t i_X1_byLots_74 (by rw [k1.sz]; exact Int32.le_refl _) ?_
      exact V_L (L' := [(0, _), (1, _), (2, _), (5, _), (6, _)]) ⟨rfl, rfl, rfl, rfl, rfl, trivial⟩ (hq I1 k1 fr h1)
    · intro I1 k1 fr h1 h2
      refine V_il i_X1_byLots_68 rfl ?_
      refine V_al i_X1_byLots_70 rfl ?_
      refine V_getI i_X1_byLots_71 rfl ?_
      refine V_ic_ge_f i_X1_byLots_74 (by rw [k1.sz]; exact nI_ge hi (by have := hK.n7; omega)) ?_
      refine V_al i_X1_byLots_77 rfl ?_
      refine V_il i_X1_byLots_79 rfl ?_
      refine V_al i_X1_byLots_81 rfl ?_
      refine V_il i_X1_byLots_83 rfl ?_
      refine P_callV1v i_X1_byLots_85 mi_X3_get hL.1 ⟨_, _, rfl⟩ (by decide) (Nat.le_of_ble_eq_true rfl) (c_I_getN (n := 60) (s := n) (k := i) _ _ hL (by rw [fr _ _ (by omega)]; exact hz) rfl hi (by have := hK.n7; omega)) ?_
      refine V_al i_X1_byLots_88 rfl ?_
      refine V_getR i_X1_byLots_89 rfl rfl ?_
      refine P_callV0v i_X1_byLots_92 mi_X7_fedAll rfl ⟨_, _, rfl⟩ (by decide) (Nat.le_of_ble_eq_true rfl) (c_S_fedAll _ _ LS_91 k1.Z91 k1.n7 (by rw [fr _ _ (by omega)]; exact hs6)) ?_
      rw [show I1 (91 + 12) n = nI w from by rw [fr _ _ (by omega)]; exact hfd]
      refine V_il i_X1_byLots_95 rfl ?_
      refine V_ishr i_X1_byLots_97 ?_
      refine V_c i_X1_byLots_98 ?_
      refine V_iand i_X1_byLots_99 ?_
      rw [shr_tab w hw i (by have := hK.n7; omega), show I1 (x + 1) i = nI (c i) from (h2 i (Nat.le_refl i) hi)]
      refine V_iadd i_X1_byLots_100 ?_
      rw [nI_addb]
      refine P_callV2u i_X1_byLots_101 mi_X3_set hL.1 ⟨_, _, rfl⟩ (by decide) (Nat.le_of_ble_eq_true rfl) (c_I_setN (n := 60) (s := n) (k := i) _ _ _ hL (by rw [fr _ _ (by omega)]; exact hz) rfl hi (by have := hK.n7; omega)) ?_
      refine V_iinc (L' := [(0, _), (1, _), (2, _), (5, _), (6, _), (7, _)]) (n' := 1) i_X1_byLots_104 (by decide) rfl (by decide) ⟨rfl, rfl, rfl, rfl, rfl, rfl, trivial⟩ ?_
      refine V_goto i_X1_byLots_107 ?_
      refine V_L (L' := [(0, _), (1, _), (2, _), (5, _), (6, _), (7, _)]) ⟨rfl, rfl, rfl, rfl, rfl, rfl, trivial⟩ ?_
      rw [show nI i + 1 = nI (i + 1) from nI_1 i]
      exact ih _ (k1.row (by omega) _ _) (fun a k h => by rw [uI_nx h]; exact fr a k h) (fun k hk => by
        by_cases hki : k = i
        · rw [hki, uI_eq]
        · rw [uI_nk hki]; exact h1 k (by omega)) (fun k hk hk2 => by rw [uI_nk (by omega)]; exact h2 k (by omega) hk2)
  exact key 0 (Nat.zero_le _) I hK (fun _ _ _ => rfl) (fun k hk => absurd hk (Nat.not_lt_zero k)) (fun k _ hk => hc k hk)
set_option maxRecDepth 100000 in
set_option maxHeartbeats 4000000 in
theorem lp_bl2 (I : IntM) (J : LngM) {n : Nat} {kd nd od : Nat → Nat} {lw pot : Nat} (hK : CK I n kd nd od lw pot) {x : Nat} (hL : LI x 60) (hx : 111 ≤ x) {N s how : Nat} (hN : N ≤ 40) (h1 : 1 ≤ n) (hh : how ≤ 1) (hs : s < 2147483647) (hz0 : I x 1 = nI n) (Q : Option Value → IntM → LngM → Prop) (hq : ∀ I1 J1, FrR I J (x + 1) I1 J1 → CK I1 n kd nd od lw pot → (∀ k, k < n → I1 (x + 1) k = nI ((kiS kd nd lw how (pot * un how) od n s N).2 k)) → Q none I1 J1) : ∀ I0 J0, FrR I J (x + 1) I0 J0 → CK I0 n kd nd od lw pot → SQ I0 91 n kd nd → SR I0 J0 91 lw how (pot * un how) → J0 90 4 = lN s → (∀ k, k < n → I0 (x + 1) k = 0) → VP m_X1_byLots 5 34 [(0, .ref 90), (1, .ref 8), (2, .int (nI N)), (5, .ref x), (6, .int (nI 0))] [] I0 J0 Q := by
  have key : ∀ i, i ≤ N → ∀ I1 J1, FrR I J (x + 1) I1 J1 → CK I1 n kd nd od lw pot → SQ I1 91 n kd nd → SR I1 J1 91 lw how (pot * un how) → J1 90 4 = lN (kiS kd nd lw how (pot * un how) od n s i).1 → (∀ k, k < n → I1 (x + 1) k = nI ((kiS kd nd lw how (pot * un how) od n s i).2 k)) → VP m_X1_byLots 5 34 [(0, .ref 90), (1, .ref 8), (2, .int (nI N)), (5, .ref x), (6, .int (nI (i)))] [] I1 J1 Q := by
    refine down N ?_ (fun i hi ih => ?_)
    · intro I1 J1 f1 k1 s1 r1 l1 h2
      refine V_il i_X1_byLots_34 rfl ?_
      refine V_il i_X1_byLots_36 rfl ?_
      refine V_ic_ge_t i_X1_byLots_37 (Int32.le_refl _) ?_
      exact P_vret i_X1_byLots_116 rfl (hq I1 J1 f1 k1 h2)
    · intro I1 J1 f1 k1 s1 r1 l1 h2
      have hzl := kiS_lt (kd := kd) (nd := nd) (lw := lw) (how := how) (P := pot * un how) h1 hs hK.P i
      have hPz := (drN_ok (n - 1) (kiS kd nd lw how (pot * un how) od n s i).1 od (by omega) hzl hK.P).2
      have hz : I1 x 1 = nI n := by rw [f1.1 _ _ (by omega) (by omega)]; exact hz0
      refine V_il i_X1_byLots_34 rfl ?_
      refine V_il i_X1_byLots_36 rfl ?_
      refine V_ic_ge_f i_X1_byLots_37 (nI_ge hi (by omega)) ?_
      refine V_al i_X1_byLots_40 rfl ?_
      refine V_al i_X1_byLots_41 rfl ?_
      refine P_callV1 i_X1_byLots_42 mi_X1_draw rfl ⟨_, _, rfl⟩ (by decide) (Nat.le_of_ble_eq_true rfl) (c_draw I1 J1 k1 h1 hzl l1) (fun r9 I2 J2 q => ?_)
      obtain ⟨rfl, x2, y2, a2, l2⟩ := q
      have x2n : ∀ a k, ¬ noZ a → I2 a k = I1 a k := fun a k h => x2 a k (fun z => h (Or.inr (Or.inr (Or.inr (Or.inr (Or.inl z))))))
      have y2n : ∀ a k, ¬ noZ a → J2 a k = J1 a k := fun a k h => y2 a k (fun z => h (Or.inr (Or.inr (Or.inr (Or.inr (Or.inr z.1))))))
      have k2 := CK.xz x2n k1
      have c2 := FrC.xz x2n y2n
      have s2 := SQ.xz x2n (by unfold noZ; omega) s1
      have r2 := SR.xz x2n y2n (by unfold noZ; omega) r1
      refine V_al i_X1_byLots_45 rfl ?_
      refine V_getR i_X1_byLots_46 rfl rfl ?_
      refine V_al i_X1_byLots_49 rfl ?_
      refine V_getR i_X1_byLots_50 rfl rfl ?_
      refine V_c i_X1_byLots_53 ?_
      refine P_callV2 i_X1_byLots_54 mi_X7_seatTurned rfl ⟨_, _, rfl⟩ (by decide) (Nat.le_of_ble_eq_true rfl) (q_turn0 I2 J2 LS_91 k2.Z91 k2.n7 s2 r2 (y := 108) ⟨rfl, rfl, rfl, by decide⟩ k2.Z.2.2.2.2.2.2.2.2.2 (by decide) a2) (fun r9 I3 J3 q => ?_)
      obtain ⟨rfl, f3, s3, r3, a3, -⟩ := q
      have k3 := FrS.K (by decide) f3 k2
      refine V_al i_X1_byLots_57 rfl ?_
      refine V_getR i_X1_byLots_58 rfl rfl ?_
      refine V_c i_X1_byLots_61 ?_
      refine P_callV1 i_X1_byLots_62 mi_X7_serve rfl ⟨_, _, rfl⟩ (by decide) (Nat.le_of_ble_eq_true rfl) (q_serve I3 J3 LS_91 k3.Z91 k3.n7 hh k3.l3 k3.p9 k3.kd k3.nd hPz s3 r3 a3) (fun r9 I4 J4 q => ?_)
      obtain ⟨rfl, f4, s4, r4, a4, d4⟩ := q
      have k4 := FrS.K (by decide) f4 k3
      have f9 := FrS.tr f3 f4
      have c4 := FrC.tr c2 (FrS.C (by decide) (by decide) f9)
      refine V_c i_X1_byLots_65 ?_
      refine V_is (L' := [(0, _), (1, _), (2, _), (5, _), (6, _), (7, _)]) i_X1_byLots_66 (by decide) ⟨rfl, rfl, rfl, rfl, rfl, rfl, trivial⟩ ?_
      refine V_L (L' := [(0, _), (1, _), (2, _), (5, _), (6, _), (7, _)]) ⟨rfl, rfl, rfl, rfl, rfl, rfl, trivial⟩ ?_
      refine lp_bl1 I4 J4 k4 hL hx (w := setN (fdE kd nd lw how (pot * un how) (drN (n - 1) (kiS kd nd lw how (pot * un how) od n s i).1 od).2 n) n) (c := (kiS kd nd lw how (pot * un how) od n s i).2) (by rw [c4.1 _ _ (by omega)]; exact hz) s4.1 (setN_lt _ n hK.n7) ?_ (fun k hk => by rw [c4.1 _ _ (by omega)]; exact h2 k hk) Q (fun I5 k5 fr5 h5 => ?_)
      · rw [show (103 : Nat) = 91 + 12 from rfl, (d4.1 n (Nat.le_refl n)).2, fdS_set hPz]
      · refine V_iinc (L' := [(0, _), (1, _), (2, _), (5, _), (6, _)]) (n' := 1) i_X1_byLots_110 (by decide) rfl (by decide) ⟨rfl, rfl, rfl, rfl, rfl, trivial⟩ ?_
        refine V_goto i_X1_byLots_113 ?_
        refine V_L (L' := [(0, _), (1, _), (2, _), (5, _), (6, _)]) ⟨rfl, rfl, rfl, rfl, rfl, trivial⟩ ?_
        rw [show nI i + 1 = nI (i + 1) from nI_1 i]
        exact ih I5 J4 ⟨fun a k ha hb => by rw [fr5 a k hb, c4.1 a k ha]; exact f1.1 a k ha hb, fun a k ha => by rw [c4.2 a k ha]; exact f1.2 a k ha⟩ k5 ⟨by rw [fr5 _ _ (by omega)]; exact s4.1, AtI.congr (fun k => fr5 _ _ (by omega)) s4.2.1, AtI.congr (fun k => fr5 _ _ (by omega)) s4.2.2⟩ ⟨by rw [fr5 _ _ (by omega)]; exact r4.1, by rw [fr5 _ _ (by omega)]; exact r4.2.1, r4.2.2⟩ (by rw [f9.2 _ _ (by omega)]; exact l2) (fun k hk => h5 k hk)
  intro I0 J0 f0 k0 s0 r0 l0 h0
  exact key 0 (Nat.zero_le _) I0 J0 f0 k0 s0 r0 l0 (fun k hk => h0 k hk)
set_option maxRecDepth 100000 in
set_option maxHeartbeats 4000000 in
theorem c_bl (I : IntM) (J : LngM) {n : Nat} {kd nd od : Nat → Nat} {lw pot : Nat} (hK : CK I n kd nd od lw pot) {x : Nat} (hL : LI x 60) (hx : 111 ≤ x) {N s how : Nat} (hN : N ≤ 40) (h1 : 1 ≤ n) (hh : how ≤ 1) (hs : s < 2147483647) (hz0 : I x 1 = nI n) (h0 : ∀ k, k < n → I (x + 1) k = 0) : CtP 5 m_X1_byLots [.ref 90, .ref 8, .int (nI N), .int (nI s), .int (nI how), .ref x] I J (fun r I1 J1 => r = none ∧ FrR I J (x + 1) I1 J1 ∧ CK I1 n kd nd od lw pot ∧ ∀ k, k < n → I1 (x + 1) k = nI ((kiS kd nd lw how (pot * un how) od n s N).2 k)) := by
  refine CtP_of (by decide) rfl (Nat.le_of_ble_eq_true rfl) ?_
  refine V_al i_X1_byLots_0 rfl ?_
  refine V_il i_X1_byLots_1 rfl ?_
  refine V_i2l i_X1_byLots_2 ?_
  rw [nI_long (by omega)]
  refine V_putJ i_X1_byLots_3 rfl ?_
  obtain ⟨J1, hJ1⟩ : ∃ y, y = uJ J 90 4 (lN s) := ⟨_, rfl⟩
  rw [← hJ1]
  have y1 : ∀ a k, ¬ noZ a → J1 a k = J a k := fun a k h => by rw [hJ1]; exact uJ_xz (Or.inr (Or.inr (Or.inr (Or.inr (Or.inr rfl))))) a k h
  refine V_al i_X1_byLots_6 rfl ?_
  refine V_getR i_X1_byLots_7 rfl rfl ?_
  refine V_al i_X1_byLots_10 rfl ?_
  refine P_callV1 i_X1_byLots_11 mi_X7_invite rfl ⟨_, _, rfl⟩ (by decide) (Nat.le_of_ble_eq_true rfl) (q_invite I J1 LS_91 hK.Z91 hK.n7 hK.C) (fun r9 I2 J2 q => ?_)
  obtain ⟨rfl, f2, s2, -⟩ := q
  have k2 := FrS.K (by decide) f2 hK
  refine V_al i_X1_byLots_14 rfl ?_
  refine V_getR i_X1_byLots_15 rfl rfl ?_
  refine V_al i_X1_byLots_18 rfl ?_
  refine V_getI i_X1_byLots_19 rfl ?_
  rw [k2.lw]
  refine V_il i_X1_byLots_22 rfl ?_
  refine V_al i_X1_byLots_24 rfl ?_
  refine V_getI i_X1_byLots_25 rfl ?_
  rw [k2.pt]
  refine P_callV3 i_X1_byLots_28 mi_X7_rules rfl ⟨_, _, rfl⟩ (by decide) (Nat.le_of_ble_eq_true rfl) (q_rules I2 J2 LS_91 k2.Z91 hh k2.p9 s2) (fun r9 I3 J3 q => ?_)
  obtain ⟨rfl, f3, s3, r3, -⟩ := q
  have k3 := FrS.K (by decide) f3 k2
  have f9 := FrS.tr f2 f3
  refine V_c i_X1_byLots_31 ?_
  refine V_is (L' := [(0, _), (1, _), (2, _), (5, _), (6, _)]) i_X1_byLots_32 (by decide) ⟨rfl, rfl, rfl, rfl, rfl, trivial⟩ ?_
  refine V_L (L' := [(0, _), (1, _), (2, _), (5, _), (6, _)]) ⟨rfl, rfl, rfl, rfl, rfl, trivial⟩ ?_
  refine lp_bl2 I J hK hL hx hN h1 hh hs hz0 _ (fun I4 J4 f4 k4 h4 => ⟨rfl, f4, k4, h4⟩) I3 J3 (FrR.c (FrR.c FrR.rf (FrC.xz (I := I) (fun _ _ _ => rfl) y1)) (FrS.C (by decide) (by decide) f9)) k3 s3 r3 (by rw [f9.2 _ _ (by omega), hJ1, uJ_eq]) (fun k hk => by rw [f9.1 _ _ (by omega)]; exact h0 k hk)
set_option maxRecDepth 100000 in
set_option maxHeartbeats 4000000 in
theorem c_kit0 (I : IntM) (J : LngM) {n : Nat} {kd nd od : Nat → Nat} {lw pot : Nat} (hK : CK I n kd nd od lw pot) {x y z w : Int32} (h : hasC 6 w = 0) : CtP 6 m_X10_kitchens [.ref 0, .int x, .int y, .int z, .int w] I J (QC I J (.int (-1)) none none none) := by
  refine CtP_of (by decide) rfl (Nat.le_of_ble_eq_true rfl) ?_
  refine V_al i_X10_kitchens_0 rfl ?_
  refine V_getR i_X10_kitchens_1 rfl rfl ?_
  refine V_il i_X10_kitchens_4 rfl ?_
  refine P_callS2v i_X10_kitchens_6 ms_X10_pick (by decide) (Nat.le_of_ble_eq_true rfl) (c_pick0 _ _ rfl (by decide) h) ?_
  refine V_asN (L' := [(0, _), (1, _), (2, _), (3, _), (5, _)]) i_X10_kitchens_9 (by decide) ⟨rfl, rfl, rfl, rfl, rfl, trivial⟩ ?_
  refine V_alN i_X10_kitchens_11 rfl ?_
  refine V_ifnullN i_X10_kitchens_13 ?_
  refine V_c i_X10_kitchens_46 ?_
  exact P_iret i_X10_kitchens_47 rfl ⟨rfl, I, J, FrC.rf, hK.Z, rfl, rfl⟩
set_option maxRecDepth 100000 in
set_option maxHeartbeats 4000000 in
theorem c_kit1 (I : IntM) (J : LngM) {n : Nat} {kd nd od : Nat → Nat} {lw pot : Nat} (hK : CK I n kd nd od lw pot) {x y z : Int32} {r : Nat} (hr : r < 6) (h : x < 1 ∨ 40 < x ∨ y < 1 ∨ 2147483647 ≤ y ∨ howv z = 0) : CtP 6 m_X10_kitchens [.ref 0, .int x, .int y, .int z, .int (nI r)] I J (QC I J (.int (-1)) none none none) := by
  refine CtP_of (by decide) rfl (Nat.le_of_ble_eq_true rfl) ?_
  refine V_al i_X10_kitchens_0 rfl ?_
  refine V_getR i_X10_kitchens_1 rfl rfl ?_
  refine V_il i_X10_kitchens_4 rfl ?_
  refine P_callS2v i_X10_kitchens_6 ms_X10_pick (by decide) (Nat.le_of_ble_eq_true rfl) (c_pick _ _ rfl (by decide) hr (RF_row hr)) ?_
  refine V_as (L' := [(0, _), (1, _), (2, _), (3, _), (5, _)]) i_X10_kitchens_9 (by decide) ⟨rfl, rfl, rfl, rfl, rfl, trivial⟩ ?_
  refine V_al i_X10_kitchens_11 rfl ?_
  refine V_ifnull i_X10_kitchens_13 ?_
  refine V_il i_X10_kitchens_16 rfl ?_
  refine V_c i_X10_kitchens_17 ?_
  refine V_ic_lt i_X10_kitchens_18 (fun c18 => ?_) (fun c18 => ?_)
  · refine V_c i_X10_kitchens_46 ?_
    exact P_iret i_X10_kitchens_47 rfl ⟨rfl, I, J, FrC.rf, hK.Z, rfl, rfl⟩
  · refine V_il i_X10_kitchens_21 rfl ?_
    refine V_c i_X10_kitchens_22 ?_
    refine V_ic_gt i_X10_kitchens_24 (fun c24 => ?_) (fun c24 => ?_)
    · refine V_c i_X10_kitchens_46 ?_
      exact P_iret i_X10_kitchens_47 rfl ⟨rfl, I, J, FrC.rf, hK.Z, rfl, rfl⟩
    · refine V_il i_X10_kitchens_27 rfl ?_
      refine V_c i_X10_kitchens_28 ?_
      refine V_ic_lt i_X10_kitchens_29 (fun c29 => ?_) (fun c29 => ?_)
      · refine V_c i_X10_kitchens_46 ?_
        exact P_iret i_X10_kitchens_47 rfl ⟨rfl, I, J, FrC.rf, hK.Z, rfl, rfl⟩
      · refine V_il i_X10_kitchens_32 rfl ?_
        refine V_c i_X10_kitchens_33 ?_
        refine V_ic_ge i_X10_kitchens_36 (fun c36 => ?_) (fun c36 => ?_)
        · refine V_c i_X10_kitchens_46 ?_
          exact P_iret i_X10_kitchens_47 rfl ⟨rfl, I, J, FrC.rf, hK.Z, rfl, rfl⟩
        · refine V_il i_X10_kitchens_39 rfl ?_
          refine P_callS1v i_X10_kitchens_40 ms_X10_isHow (by decide) (Nat.le_of_ble_eq_true rfl) (c_isHow _ _ _) ?_
          refine V_if_ne_f i_X10_kitchens_43 (by rcases h with h | h | h | h | h; exact absurd h c18; exact absurd h c24; exact absurd h c29; exact absurd h c36; exact h) ?_
          refine V_c i_X10_kitchens_46 ?_
          exact P_iret i_X10_kitchens_47 rfl ⟨rfl, I, J, FrC.rf, hK.Z, rfl, rfl⟩
set_option maxRecDepth 100000 in
set_option maxHeartbeats 4000000 in
theorem c_kit2 (I : IntM) (J : LngM) {n : Nat} {kd nd od : Nat → Nat} {lw pot : Nat} (hK : CK I n kd nd od lw pot) {N s how r : Nat} (hr : r < 6) (hN1 : 1 ≤ N) (hN : N ≤ 40) (hs1 : 1 ≤ s) (hs : s < 2147483647) (hh : how ≤ 1) (h0 : n = 0) : CtP 6 m_X10_kitchens [.ref 0, .int (nI N), .int (nI s), .int (nI how), .int (nI r)] I J (QC I J (.int (-4)) none none none) := by
  refine CtP_of (by decide) rfl (Nat.le_of_ble_eq_true rfl) ?_
  refine V_al i_X10_kitchens_0 rfl ?_
  refine V_getR i_X10_kitchens_1 rfl rfl ?_
  refine V_il i_X10_kitchens_4 rfl ?_
  refine P_callS2v i_X10_kitchens_6 ms_X10_pick (by decide) (Nat.le_of_ble_eq_true rfl) (c_pick _ _ rfl (by decide) hr (RF_row hr)) ?_
  refine V_as (L' := [(0, _), (1, _), (2, _), (3, _), (5, _)]) i_X10_kitchens_9 (by decide) ⟨rfl, rfl, rfl, rfl, rfl, trivial⟩ ?_
  refine V_al i_X10_kitchens_11 rfl ?_
  refine V_ifnull i_X10_kitchens_13 ?_
  refine V_il i_X10_kitchens_16 rfl ?_
  refine V_c i_X10_kitchens_17 ?_
  refine V_ic_lt_f i_X10_kitchens_18 (nI_nlt (b := 1) hN1 (by omega)) ?_
  refine V_il i_X10_kitchens_21 rfl ?_
  refine V_c i_X10_kitchens_22 ?_
  refine V_ic_gt_f i_X10_kitchens_24 (nI_nlt (a := 40) hN (by decide)) ?_
  refine V_il i_X10_kitchens_27 rfl ?_
  refine V_c i_X10_kitchens_28 ?_
  refine V_ic_lt_f i_X10_kitchens_29 (nI_nlt (b := 1) hs1 (by omega)) ?_
  refine V_il i_X10_kitchens_32 rfl ?_
  refine V_c i_X10_kitchens_33 ?_
  refine V_ic_ge_f i_X10_kitchens_36 (nI_ge (b := 2147483647) hs (by decide)) ?_
  refine V_il i_X10_kitchens_39 rfl ?_
  refine P_callS1v i_X10_kitchens_40 ms_X10_isHow (by decide) (Nat.le_of_ble_eq_true rfl) (c_isHow _ _ _) ?_
  refine V_if_ne_t i_X10_kitchens_43 (by rw [howv_nI hh]; decide) ?_
  refine V_al i_X10_kitchens_48 rfl ?_
  refine V_getR i_X10_kitchens_49 rfl rfl ?_
  refine V_getI i_X10_kitchens_52 rfl ?_
  refine V_if_ne_f i_X10_kitchens_55 (by rw [hK.sz, h0]; rfl) ?_
  refine V_c i_X10_kitchens_58 ?_
  exact P_iret i_X10_kitchens_60 rfl ⟨rfl, I, J, FrC.rf, hK.Z, rfl, rfl⟩
set_option maxRecDepth 100000 in
set_option maxHeartbeats 4000000 in
theorem c_kit3 (I : IntM) (J : LngM) {n : Nat} {kd nd od : Nat → Nat} {lw pot : Nat} (hK : CK I n kd nd od lw pot) {N s how r : Nat} (hr : r < 6) (hN1 : 1 ≤ N) (hN : N ≤ 40) (hs1 : 1 ≤ s) (hs : s < 2147483647) (hh : how ≤ 1) (h0 : 0 < n) : CtP 6 m_X10_kitchens [.ref 0, .int (nI N), .int (nI s), .int (nI how), .int (nI r)] I J (fun q I1 J1 => q = some (.int (nI (fgr (fun k => nI ((kiS kd nd lw how (pot * un how) od n s N).2 k)) n))) ∧ RowC I J r n (fun k => nI ((kiS kd nd lw how (pot * un how) od n s N).2 k)) I1 J1) := by
  refine CtP_of (by decide) rfl (Nat.le_of_ble_eq_true rfl) ?_
  refine V_al i_X10_kitchens_0 rfl ?_
  refine V_getR i_X10_kitchens_1 rfl rfl ?_
  refine V_il i_X10_kitchens_4 rfl ?_
  refine P_callS2v i_X10_kitchens_6 ms_X10_pick (by decide) (Nat.le_of_ble_eq_true rfl) (c_pick _ _ rfl (by decide) hr (RF_row hr)) ?_
  refine V_as (L' := [(0, _), (1, _), (2, _), (3, _), (5, _)]) i_X10_kitchens_9 (by decide) ⟨rfl, rfl, rfl, rfl, rfl, trivial⟩ ?_
  refine V_al i_X10_kitchens_11 rfl ?_
  refine V_ifnull i_X10_kitchens_13 ?_
  refine V_il i_X10_kitchens_16 rfl ?_
  refine V_c i_X10_kitchens_17 ?_
  refine V_ic_lt_f i_X10_kitchens_18 (nI_nlt (b := 1) hN1 (by omega)) ?_
  refine V_il i_X10_kitchens_21 rfl ?_
  refine V_c i_X10_kitchens_22 ?_
  refine V_ic_gt_f i_X10_kitchens_24 (nI_nlt (a := 40) hN (by decide)) ?_
  refine V_il i_X10_kitchens_27 rfl ?_
  refine V_c i_X10_kitchens_28 ?_
  refine V_ic_lt_f i_X10_kitchens_29 (nI_nlt (b := 1) hs1 (by omega)) ?_
  refine V_il i_X10_kitchens_32 rfl ?_
  refine V_c i_X10_kitchens_33 ?_
  refine V_ic_ge_f i_X10_kitchens_36 (nI_ge (b := 2147483647) hs (by decide)) ?_
  refine V_il i_X10_kitchens_39 rfl ?_
  refine P_callS1v i_X10_kitchens_40 ms_X10_isHow (by decide) (Nat.le_of_ble_eq_true rfl) (c_isHow _ _ _) ?_
  refine V_if_ne_t i_X10_kitchens_43 (by rw [howv_nI hh]; decide) ?_
  refine V_al i_X10_kitchens_48 rfl ?_
  refine V_getR i_X10_kitchens_49 rfl rfl ?_
  refine V_getI i_X10_kitchens_52 rfl ?_
  refine V_if_ne_t i_X10_kitchens_55 (by rw [hK.sz]; exact nI_ne0 h0 (by have := hK.n7; omega)) ?_
  refine V_al i_X10_kitchens_61 rfl ?_
  refine V_al i_X10_kitchens_63 rfl ?_
  refine V_getR i_X10_kitchens_64 rfl rfl ?_
  refine V_getI i_X10_kitchens_67 rfl ?_
  rw [hK.sz]
  refine V_c i_X10_kitchens_70 ?_
  refine P_callV2u i_X10_kitchens_71 mi_X3_reset (LI_row hr).1 ⟨_, _, rfl⟩ (by decide) (Nat.le_of_ble_eq_true rfl) (c_I_reset _ _ (LI_row hr) (by have := hK.n7; omega) 0) ?_
  obtain ⟨I2, hI2⟩ : ∃ x, x = fillI (uI I (111 + 2 * r) 1 (nI n)) (111 + 2 * r + 1) n 0 := ⟨_, rfl⟩
  rw [← hI2]
  have x2 : ∀ x k, ¬ (x = 111 + 2 * r ∨ x = 111 + 2 * r + 1) → I2 x k = I x k := fun x k h => by
    rw [hI2]
    unfold fillI uI
    rw [if_neg (by omega), if_neg (by omega)]
  have z2 : I2 (111 + 2 * r) 1 = nI n := by
    rw [hI2]
    unfold fillI
    rw [if_neg (by omega), uI_eq]
  have k2 : CK I2 n kd nd od lw pot := CK.fr (fun x k q => x2 x k (by omega)) (ISz.congr (fun x k q => x2 x k (by omega)) hK.Z) hK
  refine V_al i_X10_kitchens_74 rfl ?_
  refine V_getR i_X10_kitchens_75 rfl rfl ?_
  refine V_al i_X10_kitchens_78 rfl ?_
  refine V_getR i_X10_kitchens_79 rfl rfl ?_
  refine V_il i_X10_kitchens_82 rfl ?_
  refine V_il i_X10_kitchens_83 rfl ?_
  refine V_il i_X10_kitchens_84 rfl ?_
  refine V_al i_X10_kitchens_85 rfl ?_
  refine P_callV5 i_X10_kitchens_87 mi_X1_byLots rfl ⟨_, _, rfl⟩ (by decide) (Nat.le_of_ble_eq_true rfl) (c_bl I2 J k2 (LI_row hr) (by omega) hN h0 hh hs z2 (fun k hk => by rw [hI2]; unfold fillI; rw [if_pos ⟨rfl, hk⟩])) (fun r9 I3 J3 q => ?_)
  obtain ⟨rfl, f3, k3, h3⟩ := q
  have z3 : I3 (111 + 2 * r) 1 = nI n := by rw [f3.1 _ _ (by omega) (by omega)]; exact z2
  refine V_al i_X10_kitchens_90 rfl ?_
  have c9 := c_I_fg I3 J3 (LI_row hr) (s := n - 1) (by have := hK.n7; omega) (by rw [show n - 1 + 1 = n by omega]; exact z3)
  rw [show n - 1 + 1 = n by omega, fgr_cong h3] at c9
  refine P_callV0v i_X10_kitchens_92 mi_X3_firstGreatest (LI_row hr).1 ⟨_, _, rfl⟩ (by decide) (Nat.le_of_ble_eq_true rfl) c9 ?_
  exact P_iret i_X10_kitchens_95 rfl ⟨rfl, fun x k h1 h2 => by
    rw [f3.1 x k h1 (by omega)]
    exact x2 x k h2, f3.2, k3.Z, z3, h3⟩

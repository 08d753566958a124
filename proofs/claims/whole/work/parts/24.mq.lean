
/-! ===== the reference's calls that keep the state ===== -/
def MK (I : IntM) (n : Nat) (kd nd od : Nat → Nat) (lw pot : Nat) : Prop := CoOK n kd nd od ∧ lw ≤ 3 ∧ pot ≤ 999 ∧ MCo I n kd nd ∧ AtI I 156 n od ∧ I 146 18 = nI lw ∧ I 146 17 = nI pot
theorem MK.n7 {I : IntM} {n : Nat} {kd nd od : Nat → Nat} {lw pot : Nat} (h : MK I n kd nd od lw pot) : n ≤ 7 := h.1.1
theorem MK.M {I : IntM} {n : Nat} {kd nd od : Nat → Nat} {lw pot : Nat} (h : MK I n kd nd od lw pot) : MCo I n kd nd := h.2.2.2.1
theorem MK.sz {I : IntM} {n : Nat} {kd nd od : Nat → Nat} {lw pot : Nat} (h : MK I n kd nd od lw pot) : I 146 19 = nI n := h.2.2.2.1.1
theorem MK.od {I : IntM} {n : Nat} {kd nd od : Nat → Nat} {lw pot : Nat} (h : MK I n kd nd od lw pot) : AtI I 156 n od := h.2.2.2.2.1
theorem MK.lw {I : IntM} {n : Nat} {kd nd od : Nat → Nat} {lw pot : Nat} (h : MK I n kd nd od lw pot) : I 146 18 = nI lw := h.2.2.2.2.2.1
theorem MK.pt {I : IntM} {n : Nat} {kd nd od : Nat → Nat} {lw pot : Nat} (h : MK I n kd nd od lw pot) : I 146 17 = nI pot := h.2.2.2.2.2.2
theorem MK.P {I : IntM} {n : Nat} {kd nd od : Nat → Nat} {lw pot : Nat} (h : MK I n kd nd od lw pot) : Pm n od := CoOK.P h.1
theorem MK.kd {I : IntM} {n : Nat} {kd nd od : Nat → Nat} {lw pot : Nat} (h : MK I n kd nd od lw pot) : ∀ k, k < n → kd k ≤ 5 := h.1.2.1
theorem MK.nd {I : IntM} {n : Nat} {kd nd od : Nat → Nat} {lw pot : Nat} (h : MK I n kd nd od lw pot) : ∀ k, k < n → nd k ≤ 99 := h.1.2.2.1
theorem MK.l3 {I : IntM} {n : Nat} {kd nd od : Nat → Nat} {lw pot : Nat} (h : MK I n kd nd od lw pot) : lw ≤ 3 := h.2.1
theorem MK.p9 {I : IntM} {n : Nat} {kd nd od : Nat → Nat} {lw pot : Nat} (h : MK I n kd nd od lw pot) : pot ≤ 999 := h.2.2.1
theorem MK.fr {I I' : IntM} {n : Nat} {kd nd od : Nat → Nat} {lw pot : Nat} (hI : ∀ x k, (x = 146 ∧ 17 ≤ k ∧ k ≤ 19) ∨ (154 ≤ x ∧ x ≤ 156) → I' x k = I x k) (h : MK I n kd nd od lw pot) : MK I' n kd nd od lw pot := by
  obtain ⟨h1, h2, h3, ⟨m1, m2, m3⟩, h5, h6, h7⟩ := h
  exact ⟨h1, h2, h3, ⟨by rw [hI _ _ (by omega)]; exact m1, AtI.congr (fun k => hI _ _ (by omega)) m2, AtI.congr (fun k => hI _ _ (by omega)) m3⟩, AtI.congr (fun k => hI _ _ (by omega)) h5, by rw [hI _ _ (by omega)]; exact h6, by rw [hI _ _ (by omega)]; exact h7⟩
theorem FrM.K {I I' : IntM} {J J' : LngM} {n : Nat} {kd nd od : Nat → Nat} {lw pot : Nat} (h : FrM I J I' J') (hK : MK I n kd nd od lw pot) : MK I' n kd nd od lw pot := MK.fr (fun x k q => h.1 x k (Or.inl (by unfold pI; omega))) hK
def FrJ (J J' : LngM) : Prop := ∀ x k, ¬ (x = 146 ∧ 23 ≤ k ∧ k ≤ 29) → x ≠ 158 → x ≠ 159 → J' x k = J x k
theorem FrJ.rf {J : LngM} : FrJ J J := fun _ _ _ _ _ => rfl
theorem FrJ.tr {J J1 J2 : LngM} (h1 : FrJ J J1) (h2 : FrJ J1 J2) : FrJ J J2 := fun x k a b c => (h2 x k a b c).trans (h1 x k a b c)
theorem FrJ.M {J J' : LngM} (I : IntM) (h : FrJ J J') : FrM I J I J' := ⟨fun _ _ _ => rfl, fun x k q => h x k (by unfold pJ at q; omega) (by unfold pJ at q; omega) (by unfold pJ at q; omega)⟩
theorem FrJ.lo (J : LngM) (A : Int) (u : Nat) : FrJ J (loJ J A u) := fun x k a b c => by
  unfold loJ uJ
  rw [if_neg (by omega), if_neg (by omega)]
theorem RowF.M {I I' : IntM} {n : Nat} (J : LngM) (h : RowF I I' 157 n) : FrM I J I' J := ⟨fun x k q => h x k (by unfold pI at q; omega), fun _ _ _ => rfl⟩
theorem putI_M (I : IntM) (J : LngM) (n : Nat) (f : Nat → Int32) : FrM I J (putI I 157 n f) J := ⟨fun x k q => by unfold putI; rw [if_neg (by unfold pI at q; omega)], fun _ _ _ => rfl⟩
theorem putI_At {I : IntM} {a n : Nat} {f : Nat → Nat} {g : Nat → Int32} (h : ∀ k, k < n → g k = nI (f k)) : AtI (putI I a n g) a n f := fun k hk => by
  unfold putI
  rw [if_pos ⟨rfl, hk⟩]
  exact h k hk
theorem loJ_get (J : LngM) (A : Int) (u : Nat) : Fr (loJ J A u 146 23) (loJ J A u 146 24) A u := by
  unfold loJ
  exact ⟨by rw [uJ_ne _ _ (by decide), uJ_eq], by rw [uJ_eq]⟩
def GE (J : LngM) (n : Nat) (kd nd : Nat → Nat) (lw how P : Nat) (ln : Nat → Nat) : Prop := Fr (J 146 28) (J 146 29) ((thS kd nd lw how P ln n : Nat) : Int) (un how) ∧ ∀ k, k < n → Fr (J 158 k) (J 159 k) ((tE kd nd lw how P ln n k : Nat) : Int) (un how)

theorem m_told (I : IntM) (J : LngM) {n : Nat} {kd nd od : Nat → Nat} {lw pot : Nat} (hK : MK I n kd nd od lw pot) : CtP 1 m_X11_seatsAsTold [.ref 146] I J (fun r I1 J1 => r = none ∧ FrM I J I1 J1 ∧ AtI I1 157 n od ∧ J = J1) := by
  refine CtP_mono (c_M_told I J hK.n7 hK.sz) (fun r I1 J1 q => ?_)
  obtain ⟨rfl, rfl, rfl⟩ := q
  exact ⟨rfl, putI_M _ _ _ _, putI_At hK.od, rfl⟩
theorem m_turned (I : IntM) (J : LngM) {n : Nat} {kd nd od : Nat → Nat} {lw pot : Nat} (hK : MK I n kd nd od lw pot) {t : Nat} (ht : t ≤ 100) : CtP 1 m_X11_seatsTurned [.ref 146, .int (nI t)] I J (fun r I1 J1 => r = none ∧ FrM I J I1 J1 ∧ AtI I1 157 n (fun i => od ((i + t) % n)) ∧ J = J1) := by
  refine CtP_mono (c_M_turned I J hK.n7 hK.sz ht) (fun r I1 J1 q => ?_)
  obtain ⟨rfl, rfl, rfl⟩ := q
  exact ⟨rfl, putI_M _ _ _ _, putI_At (fun k hk => hK.od _ (Nat.mod_lt _ (by omega))), rfl⟩
theorem m_with (I : IntM) (J : LngM) {n : Nat} {kd nd od : Nat → Nat} {lw pot : Nat} (hK : MK I n kd nd od lw pot) {k at' : Nat} (hk : k < n) (hat : at' < n) : CtP 1 m_X11_seatsWith [.ref 146, .int (nI k), .int (nI at')] I J (fun r I1 J1 => r = none ∧ FrM I J I1 J1 ∧ AtI I1 157 n (mvS od (plN od k n) k at') ∧ J = J1) := by
  have hpos := Pm_place hK.P hk
  refine CtP_mono (c_M_with I J hK.n7 hK.sz hK.od hK.P hpos.1 hpos.2 hat) (fun r I1 J1 q => ?_)
  obtain ⟨rfl, rfl, h1, h2⟩ := q
  exact ⟨rfl, RowF.M _ h2, h1, rfl⟩
theorem m_goes (I : IntM) (J : LngM) {n : Nat} {kd nd od : Nat → Nat} {lw pot : Nat} (hK : MK I n kd nd od lw pot) {ln : Nat → Nat} {how p l w : Nat} (hh : how ≤ 1) (hl : l ≤ 3) (hp : p ≤ 999) (hw : w < 128) (hS : AtI I 157 n ln) (hP : Pm n ln) : CtP 6 m_X11_goes [.ref 146, .int (nI how), .int (nI p), .int (nI l), .int (nI w)] I J (fun r I1 J1 => r = none ∧ I = I1 ∧ FrJ J J1 ∧ GE J1 n (hon kd w) nd l how (p * un how) ln) := by
  refine CtP_mono (c_M_goes I J hK.n7 hh hl hp hw hK.M hK.kd hK.nd hS hP.1 hP.2) (fun r I1 J1 q => ?_)
  obtain ⟨h1, h2, h3, h4, h5⟩ := q
  refine ⟨h1, h2.symm, fun x k a b c => h5 x k (by omega) b c, h3, fun k hk => ?_⟩
  obtain ⟨p1, p2⟩ := Pm_place hP hk
  have := h4 _ p1
  rwa [p2] at this
theorem m_goes0 (I : IntM) (J : LngM) {n : Nat} {kd nd od : Nat → Nat} {lw pot : Nat} (hK : MK I n kd nd od lw pot) {ln : Nat → Nat} {how p l : Nat} (hh : how ≤ 1) (hl : l ≤ 3) (hp : p ≤ 999) (hS : AtI I 157 n ln) (hP : Pm n ln) : CtP 6 m_X11_goes [.ref 146, .int (nI how), .int (nI p), .int (nI l), .int 0] I J (fun r I1 J1 => r = none ∧ I = I1 ∧ FrJ J J1 ∧ GE J1 n kd nd l how (p * un how) ln) := by
  have h := m_goes I J hK hh hl hp (w := 0) (by decide) hS hP
  rw [hon_0] at h
  exact h
theorem m_fset (I : IntM) (J : LngM) {n : Nat} {kd nd od : Nat → Nat} {lw pot : Nat} (hK : MK I n kd nd od lw pot) {ln : Nat → Nat} {how p l : Nat} (hp : p ≤ 999) (hG : GE J n kd nd l how (p * un how) ln) : CtV 1 m_X11_fedSet [.ref 146] I J (.int (nI (setN (fdE kd nd l how (p * un how) ln n) n))) I J := c_M_fset I J hK.n7 hK.M hK.nd (tE := tE kd nd l how (p * un how) ln n) hG.2 (fun k hk => Nat.lt_trans (tkB hp _) (by decide))
theorem m_tells (I : IntM) (J : LngM) {r : Int32} {a b : Int64} {A : Int} {u : Nat} (hu : 0 < u) (hu2 : u < 2 ^ 62) (hA : A.natAbs < 2 ^ 62) (h : Fr a b A u) : CtV 3 m_X11_tells [.ref 146, .int r, .long a, .long b] I J (.int r) I (tlJ 146 3 4 (some (A, u)) (loJ J A u)) := by
  obtain ⟨rfl, rfl⟩ := h
  have e := ro_one (rd_pos (A := A) hu) hu (ro_cross A u)
  have h := c_M_tells I J (r := r) (A := roN A u) (B := rdN A u) (by have := ro_abs (A := A) hu; omega) (by have := rd_le (A := A) hu; omega) (rd_pos hu)
  unfold teJ at h
  rw [loJ_Fr J (rd_pos hu) hu (ro_cross A u), e.1, e.2] at h
  exact h
theorem un_62 (how : Nat) : un how < 2 ^ 62 := by
  have := un_le how
  omega
theorem un_33 (how : Nat) : un how < 2 ^ 33 := by
  have := un_le how
  omega
theorem abs62 {a : Nat} (h : a < 2 ^ 43) : ((a : Nat) : Int).natAbs < 2 ^ 62 := by
  rw [Int.natAbs_natCast]
  omega
theorem abs60 {a : Nat} (h : a < 2 ^ 43) : ((a : Nat) : Int).natAbs < 2 ^ 60 := by
  rw [Int.natAbs_natCast]
  omega
set_option maxRecDepth 100000 in
set_option maxHeartbeats 4000000 in
theorem m_evening0 (I : IntM) (J : LngM) {n : Nat} {kd nd od : Nat → Nat} {lw pot : Nat} (hK : MK I n kd nd od lw pot) {x : Int32} (h : howv x = 0) : CtP 7 m_X11_evening [.ref 146, .int x] I J (QM I J (.int (-1)) none none none) := by
  refine CtP_of (by decide) rfl (Nat.le_of_ble_eq_true rfl) ?_
  refine V_il i_X11_evening_0 rfl ?_
  refine P_callS1v i_X11_evening_1 ms_X11_isHow (by decide) (Nat.le_of_ble_eq_true rfl) (c_M_isHow _ _ _) ?_
  refine V_if_ne_f i_X11_evening_4 h ?_
  refine V_c i_X11_evening_7 ?_
  exact P_iret i_X11_evening_8 rfl ⟨rfl, I, J, FrM.rf, rfl, rfl⟩
set_option maxRecDepth 100000 in
set_option maxHeartbeats 4000000 in
theorem m_evening (I : IntM) (J : LngM) {n : Nat} {kd nd od : Nat → Nat} {lw pot : Nat} (hK : MK I n kd nd od lw pot) {how : Nat} (hh : how ≤ 1) : CtP 7 m_X11_evening [.ref 146, .int (nI how)] I J (QM I J (.int (nI (setN (fdE kd nd lw how (pot * un how) od n) n))) (some (nI (popc (setN (fdE kd nd lw how (pot * un how) od n) n)))) (some (((thS kd nd lw how (pot * un how) od n : Nat) : Int), un how)) none) := by
  refine CtP_of (by decide) rfl (Nat.le_of_ble_eq_true rfl) ?_
  refine V_il i_X11_evening_0 rfl ?_
  refine P_callS1v i_X11_evening_1 ms_X11_isHow (by decide) (Nat.le_of_ble_eq_true rfl) (c_M_isHow _ _ _) ?_
  refine V_if_ne_t i_X11_evening_4 (by rw [howv_nI hh]; decide) ?_
  refine V_al i_X11_evening_9 rfl ?_
  refine P_callV0 i_X11_evening_10 mi_X11_seatsAsTold rfl ⟨_, _, rfl⟩ (by decide) (Nat.le_of_ble_eq_true rfl) (m_told I J hK) (fun r I1 Jx q => ?_)
  obtain ⟨rfl, f1, a1, rfl⟩ := q
  have k1 := FrM.K f1 hK
  refine V_al i_X11_evening_13 rfl ?_
  refine V_il i_X11_evening_14 rfl ?_
  refine V_al i_X11_evening_15 rfl ?_
  refine V_getI i_X11_evening_16 rfl ?_
  rw [k1.pt]
  refine V_al i_X11_evening_19 rfl ?_
  refine V_getI i_X11_evening_20 rfl ?_
  rw [k1.lw]
  refine V_c i_X11_evening_23 ?_
  refine P_callV4 i_X11_evening_24 mi_X11_goes rfl ⟨_, _, rfl⟩ (by decide) (Nat.le_of_ble_eq_true rfl) (m_goes0 I1 J k1 hh k1.l3 k1.p9  a1 k1.P) (fun r Ix J1 q => ?_)
  obtain ⟨rfl, rfl, j1, g1⟩ := q
  refine V_al i_X11_evening_27 rfl ?_
  refine V_al i_X11_evening_28 rfl ?_
  refine V_al i_X11_evening_29 rfl ?_
  refine P_callV0v i_X11_evening_30 mi_X11_fedSet rfl ⟨_, _, rfl⟩ (by decide) (Nat.le_of_ble_eq_true rfl) (m_fset I1 J1 k1 k1.p9 g1) ?_
  refine P_callV1v i_X11_evening_33 mi_X11_tellsSet rfl ⟨_, _, rfl⟩ (by decide) (Nat.le_of_ble_eq_true rfl) (c_M_tellsSet _ _ (setN_lt _ n hK.n7)) ?_
  refine V_al i_X11_evening_36 rfl ?_
  refine V_getJ i_X11_evening_37 rfl ?_
  refine V_al i_X11_evening_40 rfl ?_
  refine V_getJ i_X11_evening_41 rfl ?_
  refine P_callV3v i_X11_evening_44 mi_X11_tells rfl ⟨_, _, rfl⟩ (by decide) (Nat.le_of_ble_eq_true rfl) (m_tells _ _ (un_pos how) (un_62 how) (abs62 (thB hK.p9 n)) g1.1) ?_
  exact P_iret i_X11_evening_47 rfl ⟨rfl, I1, _, FrM.tr f1 (FrJ.M _ (FrJ.tr j1 (FrJ.lo _ _ _))), rfl, rfl⟩
set_option maxRecDepth 100000 in
set_option maxHeartbeats 4000000 in
theorem m_place0 (I : IntM) (J : LngM) {n : Nat} {kd nd od : Nat → Nat} {lw pot : Nat} (hK : MK I n kd nd od lw pot) {x y z : Int32} (h : hasC n x = 0 ∨ hasC n y = 0 ∨ howv z = 0) : CtP 7 m_X11_place [.ref 146, .int x, .int y, .int z] I J (QM I J (.int (-1)) none none none) := by
  refine CtP_of (by decide) rfl (Nat.le_of_ble_eq_true rfl) ?_
  refine V_al i_X11_place_0 rfl ?_
  refine V_il i_X11_place_1 rfl ?_
  refine P_callV1v i_X11_place_2 mi_X11_isEater rfl ⟨_, _, rfl⟩ (by decide) (Nat.le_of_ble_eq_true rfl) (c_M_isEater _ _ hK.n7 hK.sz _) ?_
  refine V_if_eq i_X11_place_5 (fun c5 => ?_) (fun c5 => ?_)
  · refine V_c i_X11_place_23 ?_
    exact P_iret i_X11_place_24 rfl ⟨rfl, I, J, FrM.rf, rfl, rfl⟩
  · refine V_al i_X11_place_8 rfl ?_
    refine V_il i_X11_place_9 rfl ?_
    refine P_callV1v i_X11_place_10 mi_X11_isEater rfl ⟨_, _, rfl⟩ (by decide) (Nat.le_of_ble_eq_true rfl) (c_M_isEater _ _ hK.n7 hK.sz _) ?_
    refine V_if_eq i_X11_place_13 (fun c13 => ?_) (fun c13 => ?_)
    · refine V_c i_X11_place_23 ?_
      exact P_iret i_X11_place_24 rfl ⟨rfl, I, J, FrM.rf, rfl, rfl⟩
    · refine V_il i_X11_place_16 rfl ?_
      refine P_callS1v i_X11_place_17 ms_X11_isHow (by decide) (Nat.le_of_ble_eq_true rfl) (c_M_isHow _ _ _) ?_
      refine V_if_ne_f i_X11_place_20 (by rcases h with h | h | h; exact absurd h c5; exact absurd h c13; exact h) ?_
      refine V_c i_X11_place_23 ?_
      exact P_iret i_X11_place_24 rfl ⟨rfl, I, J, FrM.rf, rfl, rfl⟩
set_option maxRecDepth 100000 in
set_option maxHeartbeats 4000000 in
theorem m_place (I : IntM) (J : LngM) {n : Nat} {kd nd od : Nat → Nat} {lw pot : Nat} (hK : MK I n kd nd od lw pot) {k at' how : Nat} (hh : how ≤ 1) (hk : k < n) (hat : at' < n) : CtP 7 m_X11_place [.ref 146, .int (nI k), .int (nI at'), .int (nI how)] I J (QM I J (.int 1) none (some (((mvT kd nd lw how (pot * un how) od n k at' : Nat) : Int), un how)) none) := by
  refine CtP_of (by decide) rfl (Nat.le_of_ble_eq_true rfl) ?_
  refine V_al i_X11_place_0 rfl ?_
  refine V_il i_X11_place_1 rfl ?_
  refine P_callV1v i_X11_place_2 mi_X11_isEater rfl ⟨_, _, rfl⟩ (by decide) (Nat.le_of_ble_eq_true rfl) (c_M_isEater _ _ hK.n7 hK.sz _) ?_
  refine V_if_eq_f i_X11_place_5 (by rw [hasC_nI hK.n7 hk]; decide) ?_
  refine V_al i_X11_place_8 rfl ?_
  refine V_il i_X11_place_9 rfl ?_
  refine P_callV1v i_X11_place_10 mi_X11_isEater rfl ⟨_, _, rfl⟩ (by decide) (Nat.le_of_ble_eq_true rfl) (c_M_isEater _ _ hK.n7 hK.sz _) ?_
  refine V_if_eq_f i_X11_place_13 (by rw [hasC_nI hK.n7 hat]; decide) ?_
  refine V_il i_X11_place_16 rfl ?_
  refine P_callS1v i_X11_place_17 ms_X11_isHow (by decide) (Nat.le_of_ble_eq_true rfl) (c_M_isHow _ _ _) ?_
  refine V_if_ne_t i_X11_place_20 (by rw [howv_nI hh]; decide) ?_
  refine V_al i_X11_place_25 rfl ?_
  refine V_il i_X11_place_26 rfl ?_
  refine V_il i_X11_place_27 rfl ?_
  refine P_callV2 i_X11_place_28 mi_X11_seatsWith rfl ⟨_, _, rfl⟩ (by decide) (Nat.le_of_ble_eq_true rfl) (m_with I J hK hk hat) (fun r I1 Jx q => ?_)
  obtain ⟨rfl, f1, a1, rfl⟩ := q
  have k1 := FrM.K f1 hK
  refine V_al i_X11_place_31 rfl ?_
  refine V_il i_X11_place_32 rfl ?_
  refine V_al i_X11_place_33 rfl ?_
  refine V_getI i_X11_place_34 rfl ?_
  rw [k1.pt]
  refine V_al i_X11_place_37 rfl ?_
  refine V_getI i_X11_place_38 rfl ?_
  rw [k1.lw]
  refine V_c i_X11_place_41 ?_
  refine P_callV4 i_X11_place_42 mi_X11_goes rfl ⟨_, _, rfl⟩ (by decide) (Nat.le_of_ble_eq_true rfl) (m_goes0 I1 J k1 hh k1.l3 k1.p9  a1 (Pm_mv hK.P (Pm_place hK.P hk).1 (Pm_place hK.P hk).2 hat)) (fun r Ix J1 q => ?_)
  obtain ⟨rfl, rfl, j1, g1⟩ := q
  refine V_al i_X11_place_45 rfl ?_
  refine V_c i_X11_place_46 ?_
  refine V_al i_X11_place_47 rfl ?_
  refine V_getR i_X11_place_48 rfl rfl ?_
  refine V_il i_X11_place_51 rfl ?_
  refine K_lald k i_X11_place_52 rfl rfl (by have := hK.n7; omega) (by omega) ?_
  refine V_al i_X11_place_53 rfl ?_
  refine V_getR i_X11_place_54 rfl rfl ?_
  refine V_il i_X11_place_57 rfl ?_
  refine K_lald k i_X11_place_58 rfl rfl (by have := hK.n7; omega) (by omega) ?_
  refine P_callV3v i_X11_place_59 mi_X11_tells rfl ⟨_, _, rfl⟩ (by decide) (Nat.le_of_ble_eq_true rfl) (m_tells _ _ (un_pos how) (un_62 how) (abs62 (tkB hK.p9 _)) (g1.2 k hk)) ?_
  exact P_iret i_X11_place_62 rfl ⟨rfl, I1, _, FrM.tr f1 (FrJ.M _ (FrJ.tr j1 (FrJ.lo _ _ _))), rfl, rfl⟩

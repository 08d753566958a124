
/-! ===== the start: the world of the law's entry, both objects made, then the loop ===== -/
theorem cl_inst {ci : Nat} {C : String} {T : u_T} {N : Nat} (h : vwCl[ci]? = some (C, T, N)) : Cond.instantiable C N ∈ gtb := cl_all (P := fun q => Cond.instantiable q.1 q.2.2 ∈ gtb) (gt_1 71 (by decide +kernel) (by decide +kernel)) (gt_2 21 (by decide +kernel) (by decide +kernel)) (gt_1 120 (by decide +kernel) (by decide +kernel)) (gt_1 33 (by decide +kernel) (by decide +kernel)) (gt_1 128 (by decide +kernel) (by decide +kernel)) (gt_1 208 (by decide +kernel) (by decide +kernel)) (gt_1 27 (by decide +kernel) (by decide +kernel)) (gt_1 167 (by decide +kernel) (by decide +kernel)) (gt_1 229 (by decide +kernel) (by decide +kernel)) (gt_1 17 (by decide +kernel) (by decide +kernel)) (gt_4 218 (by decide +kernel) (by decide +kernel)) h
theorem ra_class {ty : FieldType} {args : Array Value} {s : State} (h : (Cond.arrayClass ty).before args s = true) : ∃ cA : ClassId, ArrOfT s cA ty ∧ s.vm.findClass ("[" ++ ty.toString) = some cA := by
  obtain ⟨c, kA, comp, h1, h2, h3⟩ := Cond.arrayClass_spec h
  exact ⟨c, fun n z => ⟨fun k h => (by cases h), kA, h2, comp, h3⟩, h1⟩
theorem ra_over {C : String} {args : Array Value} {s : State} (h : (Cond.arrayOver (.object C)).before args s = true) : ∃ cA : ClassId, ArrOfT s cA (.object C) ∧ va_RA s cA (.object C) := by
  obtain ⟨comp, c, kA, h1, h2, h3, h4, h5⟩ := Cond.arrayOver_spec h
  exact ⟨c, fun n z => ⟨fun k h => (by cases h), kA, h3, comp, h4⟩, kA, comp, h3, h4, h1, h5⟩
theorem nws_in : ∀ w ∈ nws, w ∈ lw_tbl := by
  intro w hw
  simp only [nws, List.mem_cons, List.not_mem_nil, or_false] at hw
  rcases hw with rfl | rfl | rfl | rfl | rfl | rfl | rfl | rfl | rfl | rfl
  · exact tb_1 _ (List.mem_of_getElem? (i := 28) (by decide +kernel))
  · exact tb_1 _ (List.mem_of_getElem? (i := 72) (by decide +kernel))
  · exact tb_1 _ (List.mem_of_getElem? (i := 121) (by decide +kernel))
  · exact tb_1 _ (List.mem_of_getElem? (i := 168) (by decide +kernel))
  · exact tb_1 _ (List.mem_of_getElem? (i := 209) (by decide +kernel))
  · exact tb_1 _ (List.mem_of_getElem? (i := 214) (by decide +kernel))
  · exact tb_1 _ (List.mem_of_getElem? (i := 230) (by decide +kernel))
  · exact tb_1 _ (List.mem_of_getElem? (i := 235) (by decide +kernel))
  · exact tb_2 _ (List.mem_of_getElem? (i := 22) (by decide +kernel))
  · exact tb_2 _ (List.mem_of_getElem? (i := 27) (by decide +kernel))
theorem law_V {Q : LW.ScrT} (hL : Q.2.1 ≤ 3072) : LW.V m_L_law 9 0 0 175 2131 0 [] [] [] (hR []) (hI []) (hJ []) Q := by
  show LW.VH m_L_law 9 0 0 175 2131 0 [] [] [] Q
  refine LW.N_new (h' := hp_0) (N := 16) (c := 16) (q := 0) i_L_law_0 (by intro C T n h; cases h; rfl) (by decide) (by decide) (rq (by decide +kernel)) (by decide +kernel) ?_
  refine LW.V_dup i_L_law_3 rfl ?_
  refine LW.N_call0 (h' := hp_228) i_L_law_4 mc_X10_init n_X10_init_15 (by decide) (by decide) (by decide) (by decide) (by decide +kernel) ?_
  refine LW.V_as (L' := [(1, _)]) i_L_law_7 (by decide) (by decide) ⟨rfl, trivial⟩ ?_
  refine LW.N_new (h' := hp_229) (N := 53) (c := 53) (q := 146) i_L_law_8 (by intro C T n h; cases h; rfl) (by decide) (by decide) (rq (by decide +kernel)) (by decide +kernel) ?_
  refine LW.V_dup i_L_law_11 rfl ?_
  refine LW.N_call0 (h' := hp_302) i_L_law_12 mc_X11_init n_X11_init_16 (by decide) (by decide) (by decide) (by decide) (by decide +kernel) ?_
  refine LW.V_as (L' := [(1, _), (2, _)]) i_L_law_15 (by decide) (by decide) ⟨rfl, rfl, trivial⟩ ?_
  refine LW.V_c i_L_law_16 ?_
  refine LW.V_is (L' := lcL 0) i_L_law_17 (by decide) (by decide) ⟨rfl, rfl, rfl, trivial⟩ ?_
  have e : LW.V m_L_law 9 175 2131 175 2131 18 (lcL 0) [] SH RF (hI HF) (hJ HF) Q := lp_law hL 3078 0 (by decide) (by omega) (hI HF) (hJ HF) inv0
  rw [← HF_S, ← HF_R] at e
  exact e
theorem lt_start {s : State} {args : Array Value} (hts : ∀ w ∈ lw_tbl, w.before args s = true) (hgv : (Jvm.Cond.and given_1 narrow_1).before args s = true) : LT s.heap.size s s.heap := by
  have L := flat_of_before _ hgv
  have h0 : (Cond.arrayOf (Term.static "ThirdLeft$Reader" "LETTERS" "[C") .char).before args s = true := L _ (by decide +kernel)
  have h1 : (Cond.eq (.length (Term.static "ThirdLeft$Reader" "LETTERS" "[C")) (.int 6)).before args s = true := L _ (by decide +kernel)
  have e0 : (Cond.eq (.elem (Term.static "ThirdLeft$Reader" "LETTERS" "[C") (.int 0)) (.int 101)).before args s = true := L _ (by decide +kernel)
  have e1 : (Cond.eq (.elem (Term.static "ThirdLeft$Reader" "LETTERS" "[C") (.int 1)) (.int 103)).before args s = true := L _ (by decide +kernel)
  have e2 : (Cond.eq (.elem (Term.static "ThirdLeft$Reader" "LETTERS" "[C") (.int 2)) (.int 99)).before args s = true := L _ (by decide +kernel)
  have e3 : (Cond.eq (.elem (Term.static "ThirdLeft$Reader" "LETTERS" "[C") (.int 3)) (.int 110)).before args s = true := L _ (by decide +kernel)
  have e4 : (Cond.eq (.elem (Term.static "ThirdLeft$Reader" "LETTERS" "[C") (.int 4)) (.int 100)).before args s = true := L _ (by decide +kernel)
  have e5 : (Cond.eq (.elem (Term.static "ThirdLeft$Reader" "LETTERS" "[C") (.int 5)) (.int 107)).before args s = true := L _ (by decide +kernel)
  obtain ⟨t, ht, hT⟩ := va_Tof (tm := (Term.static "ThirdLeft$Reader" "LETTERS" "[C")) (ty := .char) (N := 6) (f := fun j => .int (ltr j)) (A := fun q => s.heap.size ≤ q) (by decide) h0 (va_eqt h1) (fun j hj => by
    match j, hj with
    | 0, _ => exact va_eqt e0
    | 1, _ => exact va_eqt e1
    | 2, _ => exact va_eqt e2
    | 3, _ => exact va_eqt e3
    | 4, _ => exact va_eqt e4
    | 5, _ => exact va_eqt e5) (fun a h => Nat.not_le.mpr h)
  exact ⟨t, va_Zref (hts _ (tb_2 _ (List.mem_of_getElem? (i := 220) (by decide +kernel)))) (hts _ (tb_1 _ (List.mem_of_getElem? (i := 2) (by decide +kernel)))) ht (fun a h => Nat.not_le.mpr h), hT⟩
theorem nw_start {s : State} {args : Array Value} (hts : ∀ w ∈ lw_tbl, w.before args s = true) : NW s := ⟨fun w hw => va_Nw.of (nws_tab w hw) (hts w (nws_in w hw)), va_AO.of (A := args) (hts _ (tb_1 _ (List.mem_of_getElem? (i := 25) (by decide +kernel)))), va_AO.of (A := args) (hts _ (tb_1 _ (List.mem_of_getElem? (i := 165) (by decide +kernel))))⟩
theorem k_start {s : State} {args : Array Value} (hts : ∀ w ∈ lw_tbl, w.before args s = true) : ∃ (D : va_G) (cA : Nat → ClassId), va_K D vwCl (tysOf cA) s := by
  have hg : ∀ w ∈ gtb, w.before args s = true := fun w hw => hts w (gtb_in w hw)
  have hk : ∀ ci : Nat, ∃ z : ClassId × (Nat → Nat), ∀ q : vw_C, vwCl[ci]? = some q → u_Kn s q.1 q.2.1 q.2.2 z.1 z.2 := by
    intro ci
    cases h : vwCl[ci]? with
    | none => exact ⟨(0, fun _ => 0), fun q e => by cases e⟩
    | some q =>
      obtain ⟨C, T, N⟩ := q
      obtain ⟨cC, iS, hu⟩ := u_known hg (cl_in h) (hg _ (cl_inst h))
      exact ⟨(cC, iS), fun q e => by cases e; exact hu⟩
  obtain ⟨f, hf⟩ := Classical.axiomOfChoice hk
  obtain ⟨c1, a1, b1⟩ := ra_class (hg _ gwI)
  obtain ⟨c2, a2, b2⟩ := ra_class (hg _ gwJ)
  obtain ⟨c3, a3, b3⟩ := ra_over (C := "ThirdLeft$Ints") (args := args) (hts _ (tb_1 _ (List.mem_of_getElem? (i := 25) (by decide +kernel))))
  obtain ⟨c4, a4, b4⟩ := ra_over (C := "ThirdLeft$Evening") (args := args) (hts _ (tb_1 _ (List.mem_of_getElem? (i := 165) (by decide +kernel))))
  refine ⟨(fun c => (f c).1, fun c => (f c).2), (fun j => match j with
    | 1 => c1
    | 2 => c2
    | 3 => c3
    | _ => c4), fun c q h => hf c q h, fun k q h => ?_⟩
  match k, h with
  | 0, h => cases h; exact ⟨a1, b1⟩
  | 1, h => cases h; exact ⟨a2, b2⟩
  | 2, h => cases h; exact ⟨a3, b3⟩
  | 3, h => cases h; exact ⟨a4, b4⟩
  | k + 4, h => simp [tysOf] at h
theorem whole_start {p : Program} {e : Env} {s : State} {m : MethodId} {below : List Frame} {meth : Method} {c : Code} (l : Launch) (hflags : l.flags = flags0) {b L : Nat} {xs : Nat → Int32} (hL : L ≤ 3072) (C0 : lw_At p s m meth c b L xs) : W p l e room_1 s m #[Value.ref b] below meth c s.heap [] 0 0 (lw_Z below #[Value.ref b] s) (entryFrame m ([Value.ref b] : List Value).toArray 4) := by
  obtain ⟨hx, hb, hr, hml, hown, hts, hX, hbl, hlk, hgv⟩ := C0
  obtain ⟨D, cA, hK⟩ := k_start hts
  have hl := lv_entry [Value.ref b] (n := 4) (Nat.le_of_ble_eq_true rfl)
  rw [lg_entry_eq]
  refine law_V (Q := (b, L, xs)) hL p l e room_1 s m #[Value.ref b] below meth c s.heap [] _ s.heap.size D cA ⟨⟨hx, hb, hr, hml, hown, fun w hw => hts w (gtb_in w hw), hlk, ⟨by decide, by decide, by decide, by decide⟩, Nat.le_refl _, lt_start hts hgv, nw_start hts⟩, rfl, hX, hbl, Nat.le_refl _, hL, rfl⟩ rfl ⟨fun k q h => ?_, hK⟩ va_S.rf hl
  exact absurd h (by simp [wsOf])
-- ===== YOUR PART ENDS =====
set_option maxHeartbeats 4000000 in
theorem lw_walk (l : Launch) (hflags : l.flags = flags0) (b : Addr) (xs : List Int32) : MetFree l x (headSpec (Jvm.Cond.code x code maxLocals ret :: tables_1) room_1) (lw_P b xs) (fun _ _ _ _ _ => True) lw_Q := by
  refine MetFree.of_bodyS (code := code) (maxLocals := maxLocals) (ret := ret) (by decide) ?_ ?_
  · intro args s m h hn
    obtain ⟨meth, c, h1, h2, h3, h4, h5, h6, -, -⟩ := Cond.code_spec hn (atoms_spec (ws := Jvm.Cond.code x code maxLocals ret :: tables_1) h _ List.mem_cons_self)
    exact ⟨meth, c, h1, h2, h3, h4, h5, h6⟩
  · intro p e s m args below meth c s₁ B hml0 hP _
    obtain ⟨rfl, hx, hbd, hgv⟩ := hP
    obtain ⟨scr, harrAt, hlist, hof, hsmall⟩ := hx
    obtain ⟨hcb, hkn, -, -⟩ := State.arrayAt?_spec harrAt
    have hown : s.vm.findClass R_law = some m.cls := findClass_of_methodNamed B.named
    have hts0 : ∀ c ∈ (Jvm.Cond.code x code maxLocals ret :: tables_1), c.before #[Value.ref b] s = true := atoms_spec (ws := Jvm.Cond.code x code maxLocals ret :: tables_1) B.pre
    have hts : ∀ w ∈ lw_tbl, w.before #[Value.ref b] s = true := k2_hts_sels lw_privs (fun w hw => hts0 w (List.mem_cons_of_mem _ hw)) lw_privs_ok
    have hml : c.maxLocals = 4 := B.maxLocals_eq (hts0 _ List.mem_cons_self)
    have X₀ : Stand p l e room_1 s m #[Value.ref b] below meth c s₁ [] 0 0 := Stand.of_body B
    have hh0 : s₁.heap = s.heap := by rw [B.state]; rfl
    have hsz : scr.slots.size = xs.length := by rw [← Array.length_toList, hlist, List.length_map]
    have hval : ∀ j : Nat, j < xs.length → scr.slots[j]? = some (.int (xs.getD j 0)) := fun j hj => by
      rw [← Array.getElem?_toList, hlist]
      simp [hj]
    have hbl : b < s.heap.size := (Array.getElem?_eq_some_iff.mp hcb).1
    have hX : va_X b xs.length (fun j => xs.getD j 0) s s.heap := ⟨scr, hcb, hof, hkn, hsz, hval⟩
    have K : W p l e room_1 s m #[Value.ref b] below meth c s₁.heap [] 0 0 (lw_Z below #[Value.ref b] s) (entryFrame m ([Value.ref b] : List Value).toArray 4) := by
      rw [hh0]
      exact whole_start l hflags hbd ⟨B.exec, B.bytes, B.returns, hml, hown, hts, hX, hbl, B.notSynchronized, hgv⟩
    obtain ⟨t, a1, o, b1, b2, b3⟩ := K s₁ rfl X₀
    exact ⟨t, o, a1, b1, b2, b3⟩
theorem lw_pre_spec {args : Array Value} {s : State} (h : (Jvm.Cond.and given_1 narrow_1).before args s = true) (hr : rest_1_c.before args s = true) : ∃ (b : Addr) (xs : List Int32), lw_P b xs args s := by
  have hs := flat_of_before _ h
  have hq := flat_of_before _ hr
  have hc : (Cond.count 1).before args s = true := hs _ (by decide +kernel)
  have harr : (Cond.arrayOf (.arg 0) .int).before args s = true := hs _ (by decide +kernel)
  have hle : (Cond.le (.length (.arg 0)) (.int 3072)).before args s = true := hs _ (by decide +kernel)
  have hlen : (Cond.isInt (.length (.arg 0))).before args s = true := hq _ (by decide +kernel)
  have hall : (Cond.all (.arg 0) (.isInt (.elem (.arg 0) (.index 0)))).before args s = true := hq _ (by decide +kernel)
  obtain ⟨b, xs, hb, hx⟩ := State.ints_of_pre rfl harr hlen hall
  have hsm : xs.length < 2 ^ 31 := hx.choose_spec.2.2.2
  have hev : (Term.length (.arg 0)).eval args s none [] s = some (.int xs.length.toInt32) := hx.length_eval hb
  have hv := Cond.le_ints hev (show (Term.int 3072).eval args s none [] s = some (.int 3072) from rfl)
  have hd : xs.length.toInt32 ≤ 3072 := by
    simpa [Cond.before, Cond.holds, hv] using hle
  have hN : xs.length ≤ 3072 := (Int32.ofNat_le_ofNat hsm (by decide)).mp (show Int32.ofNat xs.length ≤ Int32.ofNat 3072 from hd)
  exact ⟨b, xs, Cond.one_arg hc (show args[0]? = some (.ref b) from hb), hx, hN, h⟩
theorem lw_comes (l : Launch) (hflags : l.flags = flags0) : Comes l x (Jvm.Cond.code x code maxLocals ret :: tables_1) room_1 (fun tb e args s => Calls_1 tb e args s ∧ rest_1 tb e args s ∧ Pre_1 tb e args s)
    (fun _ _ args s o t => lw_Q args s o t) := by
  intro p e ha hc hk s m args below hf hfit hheap happ hpre
  obtain ⟨b, xs, hP⟩ := lw_pre_spec hpre.2.2 hpre.2.1
  obtain ⟨k, o, h1, h2, h3, hQ⟩ := lw_walk l hflags b xs p e ha hc hk s m args below hf ((Spec.applies_iff_loose hf).mp happ).1 hP trivial
  exact ⟨k, o, h1, h2, h3, hQ⟩
theorem lw_frame {s t : State} {o : Outcome} {args : Array Value} (h : Framed s o t [] 600000 7302250) :
    Framed s o t (fieldLocs frame_1_writes args s ++ arrayLocs frame_1_arrays args s ++ staticLocs frame_1_statics s) 600000 7302250 := h
theorem lw_limb (L : Cond) (hL : ∀ (args : Array Value) (s t : State), L.after args s (.returned (some (.int 1))) t = true) :
    ArmFor flags0 classFile x code maxLocals ret World_1 tables_1 room_1 Calls_1 rest_1 Pre_1
      (fun tb e a s o t => postC L tb e a s o t ∧ Framed s o t (fieldLocs frame_1_writes a s ++ arrayLocs frame_1_arrays a s ++ staticLocs frame_1_statics s) 600000 7302250) := by
  intro l hflags _ _ p e ha hc hk s m args below hf hfit hheap happ hpre
  obtain ⟨k, o, h1, h2, h3, rfl, hF⟩ := lw_comes l hflags p e ha hc hk s m args below hf hfit hheap happ hpre
  exact ⟨k, _, h1, h2, h3, hL args s _, lw_frame hF⟩
theorem i_vc : Claimed_1_1 ∧ Claimed_1_2 := ⟨lw_limb limb_1_1 (fun args s t => by simp [limb_1_1, Cond.after, Cond.holds, Cond.value]), lw_limb limb_1_2 (fun args s t => Cond.after_iff.mpr (by
  first | (rw [show limb_1_2 = Cond.eq .result (.int 1) from rfl, Cond.eq_ints (x := 1) (y := 1) rfl rfl]; simp; done) | (simp [limb_1_2, Cond.value, Term.eval]; done)))⟩

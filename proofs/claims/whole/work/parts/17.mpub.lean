def g_M_counter (u : MN) (w : Int32) : Int32 × MN := let a0 := u.1; let a1 := u.2.1; let a2 := u.2.2.1; let a3 := u.2.2.2.1; let a4 := u.2.2.2.2.1; let a5 := u.2.2.2.2.2.1; let a6 := u.2.2.2.2.2.2.1; let a7 := u.2.2.2.2.2.2.2.1; let a8 := u.2.2.2.2.2.2.2.2.1; let a9 := u.2.2.2.2.2.2.2.2.2.1; let a10 := u.2.2.2.2.2.2.2.2.2.2.1; let a11 := u.2.2.2.2.2.2.2.2.2.2.2.1; let a12 := u.2.2.2.2.2.2.2.2.2.2.2.2.1; let a13 := u.2.2.2.2.2.2.2.2.2.2.2.2.2; if w = 0 then (a1, (a0, a1, a2, a3, a4, a5, a6, a7, a8, a9, a10, a11, a12, a13)) else (a0, (a0, a1, a2, a3, a4, a5, a6, a7, a8, a9, a10, a11, a12, a13))
def F_M_counter (v : MS) (n : Int32) (w : Int32) : Int32 × MS := match ix v.1 n with
  | none => (-1, v)
  | some j => ((g_M_counter (v.2.2 (j + 1)) w).1, ((v.1, v.2.1, va_up v.2.2 (j + 1) (g_M_counter (v.2.2 (j + 1)) w).2) : MS))
set_option maxHeartbeats 4000000 in
set_option maxRecDepth 100000 in
theorem c_M_counter (l : Launch) (D : va_G) (h0 sz : Nat) (v : MS) (w0 : va_W) (tm : List (ClassId × FieldType)) (hI : IM h0 v w0 tm) (hD0 : va_D (fun _ => True) w0) (n : Int32) (w : Int32) : Met l y_M_counter (cw_M_counter :: BIG) (rmk 5 0 0) (va_Pc [.ref h0, .int n, .int w] (fun U => U.heap.size = sz ∧ va_P D cls_ w0 U.heap ∧ va_K D cls_ tm U ∧ NK U)) (va_Qi (fun (r : Int32) (v2 : MS) => r = (F_M_counter v n w).1 ∧ v2 = (F_M_counter v n w).2) (atM D h0 (va_A w0 sz)) (va_A w0 sz)) 0 0 (va_A w0 sz) := by
  refine Met.ofW (cc := b_M_counter) (maxL := 3) (ret := (some .int)) (by decide) rfl ?_
  intro p e s m args below meth c s₁ B hml hv
  obtain ⟨rfl, hsz, hP, hK, hN⟩ := hv
  have hx := B.exec
  have hb := B.bytes
  have hr := B.returns
  have htB : ∀ w ∈ BIG, w.before _ s = true := fun w h => atoms_spec (ws := cw_M_counter :: BIG) B.pre w (List.mem_cons_of_mem _ h)
  have hown : s.vm.findClass R_M = some m.cls := findClass_of_methodNamed B.named
  have hlocks := B.notSynchronized
  have hD : va_D (va_A w0 sz) w0 := hD0.self
  have hS : va_S (va_A w0 sz) s.heap s.heap [] := va_S.rf
  obtain ⟨qq, cc, ff, fl, c0, hw0, rfl, hvn, hvf⟩ := hI
  have hP : va_P D cls_ (wMg h0 qq cc ff fl c0 (nI v.1) v.2.1) s.heap := by rw [← hw0]; exact hP
  have hD : va_D (va_A w0 sz) (wMg h0 qq cc ff fl c0 (nI v.1) v.2.1) := by rw [← hw0]; exact hD
  have hl := lv_entry ([.ref h0, .int n, .int w]) (n := 3) (Nat.le_of_ble_eq_true rfl)
  rw [lg_entry_eq]
  generalize (lg_sl ([.ref h0, .int n, .int w]) ++ List.replicate (3 - (lg_sl ([.ref h0, .int n, .int w])).length) Slot.unset).toArray = ls at hl ⊢
  have hl : lv_has ls 3 [(0, .ref h0), (1, .int n), (2, .int w)] := hl
  refine lv_aload_n hx hb d_M_counter_0 rfl (lv_at hl 0 rfl) ?_
  refine lv_iload_n hx hb d_M_counter_1 rfl (lv_at hl 1 rfl) ?_
  have hAh : va_A w0 sz h0 := hD.2 0 _ rfl
  refine va_calli (va_runV (As := [.int n]) (rest := []) ⟨hx, hb, hml, hown, htB⟩ (c_M_none l D h0 qq c0 (nI v.1) v.2.1 n) (cwV 1 htB g_M_75 rfl rfl rfl (by decide +kernel) ⟨Nat.le_of_ble_eq_true rfl, Nat.le_of_ble_eq_true rfl⟩) (preV (pone hP (k := 0) rfl) (hK.sub (tys' := []) [] rfl) hN (va_recv hK hP (ci := 2) (q0 := 0) rfl rfl)) rfl rfl hl.1 rfl (lv_room (Nat.le_of_ble_eq_true rfl)) d_M_counter_2 ⟨Nat.le_of_ble_eq_true rfl, Nat.le_of_ble_eq_true rfl⟩) hS (fun q _ h => by rw [h]; exact hAh) (fun q h => by rw [h]; exact hAh) (fun r0 z9 t H1 locs ht hvm hw hB hz1 hk1 hS => ?_)
  rw [ht] at hB
  obtain ⟨hP, hD⟩ := pcall (k := 0) hP hD rfl hk1 hB
  have hP : va_P D cls_ (wMg h0 qq cc ff fl 0 (nI v.1) v.2.1) H1 := hP
  have hD : va_D (va_A w0 sz) (wMg h0 qq cc ff fl 0 (nI v.1) v.2.1) := hD
  rcases hj : ix v.1 n with _ | j
  · have hw : r0 = 1 := hw.trans (mn_none hj)
    subst hw
    have hF : F_M_counter v n w = (-1, v) := by unfold F_M_counter; rw [hj]
    refine lv_if_eq (tgt := 10) hx hb d_M_counter_5 (by decide) (fun c9 => absurd c9 (by decide)) (fun _ => ?_)
    refine lv_iconst (v := (-1)) hx hb d_M_counter_8 (by decide) ?_
    exact W.iret hx hb hr (fun t ht hW => ⟨⟨-1, v, rfl, ⟨(congrArg Prod.fst hF).symm, (congrArg Prod.snd hF).symm⟩, _, _, ⟨qq, cc, ff, fl, 0, rfl, rfl, hvn, hvf⟩, by rw [ht]; exact hP, va_K.moved hW.alike hK, hD⟩, hS.F ht⟩) hS.2.2 d_M_counter_9
  · have hw : r0 = 0 := hw.trans (mn_some hj)
    subst hw
    obtain ⟨hjl, hnk⟩ := ix_some hvn hj
    have hnj : n.toNatClampNeg = j + 1 := by rw [hnk]; exact nI_clamp (by omega)
    have hin : vp_in n 101 := by rw [hnk]; exact vp_in_nI (by omega) (by decide)
    have hu0 := hvf (j + 1)
    obtain ⟨z, hu⟩ : ∃ z, v.2.2 (j + 1) = z := ⟨_, rfl⟩
    rw [hu] at hu0
    have hP : va_P D cls_ (wM h0 qq cc ff fl n.toNatClampNeg 0 (nI v.1) v.2.1 z) H1 := by rw [hu0, ← hnj, wM_self]; exact hP
    have hD : va_D (va_A w0 sz) (wM h0 qq cc ff fl n.toNatClampNeg 0 (nI v.1) v.2.1 z) := by rw [hu0, ← hnj, wM_self]; exact hD
    obtain ⟨a0, a1, a2, a3, a4, a5, a6, a7, a8, a9, a10, a11, a12, a13⟩ := z
    have hF : F_M_counter v n w = ((g_M_counter (a0, a1, a2, a3, a4, a5, a6, a7, a8, a9, a10, a11, a12, a13) w).1, ((v.1, v.2.1, va_up v.2.2 (j + 1) (g_M_counter (a0, a1, a2, a3, a4, a5, a6, a7, a8, a9, a10, a11, a12, a13) w).2) : MS)) := by unfold F_M_counter; rw [hj]; show ((g_M_counter (v.2.2 (j + 1)) w).1, ((v.1, v.2.1, va_up v.2.2 (j + 1) (g_M_counter (v.2.2 (j + 1)) w).2) : MS)) = _; rw [hu]
    have hc : g_M_counter (a0, a1, a2, a3, a4, a5, a6, a7, a8, a9, a10, a11, a12, a13) w = g_M_counter (a0, a1, a2, a3, a4, a5, a6, a7, a8, a9, a10, a11, a12, a13) w := rfl
    refine lv_if_eq (tgt := 10) hx hb d_M_counter_5 (by decide) (fun _ => ?_) (fun c9 => absurd (by decide) c9)
    refine lv_iload_n hx hb d_M_counter_10 rfl (lv_at hl 2 rfl) ?_
    refine lv_if_eq (tgt := 23) hx hb d_M_counter_11 (by decide) (fun c_1 => ?_) (fun c_1 => ?_)
    · refine lv_aload_n hx hb d_M_counter_23 rfl (lv_at hl 0 rfl) ?_
      refine va_get (D := D) (ci := 2) (v := .ref (qq 1)) (C := R_M) (T := F_M) (N := 17) hx hb htB uw_M hown hK hP 0 rfl rfl 3 (by decide) (htB _ fl_M_13) (fun _ h9 => h9) rfl d_M_counter_24 ?_
      refine lv_iload_n hx hb d_M_counter_27 rfl (lv_at hl 1 rfl) ?_
      refine va_iald hx hb hK hP 2 1 rfl rfl hin d_M_counter_28 ?_
      refine tpi a1 pk_us ?_
      have he : g_M_counter (a0, a1, a2, a3, a4, a5, a6, a7, a8, a9, a10, a11, a12, a13) w = (a1, (a0, a1, a2, a3, a4, a5, a6, a7, a8, a9, a10, a11, a12, a13)) := hc.trans (if_pos c_1)
      have he := hF.trans (congrArg (fun z : Int32 × MN => (z.1, ((v.1, v.2.1, va_up v.2.2 (j + 1) z.2) : MS))) he)
      exact W.iret hx hb hr (fun t ht hW => ⟨⟨a1, (v.1, v.2.1, va_up v.2.2 (j + 1) (a0, a1, a2, a3, a4, a5, a6, a7, a8, a9, a10, a11, a12, a13)), rfl, ⟨(congrArg Prod.fst he).symm, (congrArg Prod.snd he).symm⟩, _, _, ⟨qq, cc, uff ff n.toNatClampNeg (a0, a1, a2, a3, a4, a5, a6, a7, a8, a9, a10, a11, a12, a13), vp_updL fl n.toNatClampNeg a9, 0, rfl, rfl, hvn, fun k9 => mfin hvf hnj k9⟩, by rw [ht]; exact hP, va_K.moved hW.alike hK, hD⟩, hS.F ht⟩) hS.2.2 d_M_counter_29
    · refine lv_aload_n hx hb d_M_counter_14 rfl (lv_at hl 0 rfl) ?_
      refine va_get (D := D) (ci := 2) (v := .ref (qq 0)) (C := R_M) (T := F_M) (N := 17) hx hb htB uw_M hown hK hP 0 rfl rfl 2 (by decide) (htB _ fl_M_7) (fun _ h9 => h9) rfl d_M_counter_15 ?_
      refine lv_iload_n hx hb d_M_counter_18 rfl (lv_at hl 1 rfl) ?_
      refine va_iald hx hb hK hP 1 0 rfl rfl hin d_M_counter_19 ?_
      refine tpi a0 pk_us ?_
      refine lv_goto (tgt := 29) hx hb d_M_counter_20 (by decide) ?_
      have he : g_M_counter (a0, a1, a2, a3, a4, a5, a6, a7, a8, a9, a10, a11, a12, a13) w = (a0, (a0, a1, a2, a3, a4, a5, a6, a7, a8, a9, a10, a11, a12, a13)) := hc.trans (if_neg c_1)
      have he := hF.trans (congrArg (fun z : Int32 × MN => (z.1, ((v.1, v.2.1, va_up v.2.2 (j + 1) z.2) : MS))) he)
      exact W.iret hx hb hr (fun t ht hW => ⟨⟨a0, (v.1, v.2.1, va_up v.2.2 (j + 1) (a0, a1, a2, a3, a4, a5, a6, a7, a8, a9, a10, a11, a12, a13)), rfl, ⟨(congrArg Prod.fst he).symm, (congrArg Prod.snd he).symm⟩, _, _, ⟨qq, cc, uff ff n.toNatClampNeg (a0, a1, a2, a3, a4, a5, a6, a7, a8, a9, a10, a11, a12, a13), vp_updL fl n.toNatClampNeg a9, 0, rfl, rfl, hvn, fun k9 => mfin hvf hnj k9⟩, by rw [ht]; exact hP, va_K.moved hW.alike hK, hD⟩, hS.F ht⟩) hS.2.2 d_M_counter_29
def g_M_state (u : MN) : Int32 × MN := let a0 := u.1; let a1 := u.2.1; let a2 := u.2.2.1; let a3 := u.2.2.2.1; let a4 := u.2.2.2.2.1; let a5 := u.2.2.2.2.2.1; let a6 := u.2.2.2.2.2.2.1; let a7 := u.2.2.2.2.2.2.2.1; let a8 := u.2.2.2.2.2.2.2.2.1; let a9 := u.2.2.2.2.2.2.2.2.2.1; let a10 := u.2.2.2.2.2.2.2.2.2.2.1; let a11 := u.2.2.2.2.2.2.2.2.2.2.2.1; let a12 := u.2.2.2.2.2.2.2.2.2.2.2.2.1; let a13 := u.2.2.2.2.2.2.2.2.2.2.2.2.2; (f_M_is (a0, a1, a2, a3, a4, a5, a6, a7, a8, a9, a10, a11, a12, a13), (a0, a1, a2, a3, a4, a5, a6, a7, a8, a9, a10, a11, a12, a13))
def F_M_state (v : MS) (n : Int32) : Int32 × MS := match ix v.1 n with
  | none => (-1, v)
  | some j => ((g_M_state (v.2.2 (j + 1))).1, ((v.1, v.2.1, va_up v.2.2 (j + 1) (g_M_state (v.2.2 (j + 1))).2) : MS))
set_option maxHeartbeats 4000000 in
set_option maxRecDepth 100000 in
theorem c_M_state (l : Launch) (D : va_G) (h0 sz : Nat) (v : MS) (w0 : va_W) (tm : List (ClassId × FieldType)) (hI : IM h0 v w0 tm) (hD0 : va_D (fun _ => True) w0) (n : Int32) : Met l y_M_state (cw_M_state :: BIG) (rmk 5 0 0) (va_Pc [.ref h0, .int n] (fun U => U.heap.size = sz ∧ va_P D cls_ w0 U.heap ∧ va_K D cls_ tm U ∧ NK U)) (va_Qi (fun (r : Int32) (v2 : MS) => r = (F_M_state v n).1 ∧ v2 = (F_M_state v n).2) (atM D h0 (va_A w0 sz)) (va_A w0 sz)) 0 0 (va_A w0 sz) := by
  refine Met.ofW (cc := b_M_state) (maxL := 2) (ret := (some .int)) (by decide) rfl ?_
  intro p e s m args below meth c s₁ B hml hv
  obtain ⟨rfl, hsz, hP, hK, hN⟩ := hv
  have hx := B.exec
  have hb := B.bytes
  have hr := B.returns
  have htB : ∀ w ∈ BIG, w.before _ s = true := fun w h => atoms_spec (ws := cw_M_state :: BIG) B.pre w (List.mem_cons_of_mem _ h)
  have hown : s.vm.findClass R_M = some m.cls := findClass_of_methodNamed B.named
  have hlocks := B.notSynchronized
  have hD : va_D (va_A w0 sz) w0 := hD0.self
  have hS : va_S (va_A w0 sz) s.heap s.heap [] := va_S.rf
  obtain ⟨qq, cc, ff, fl, c0, hw0, rfl, hvn, hvf⟩ := hI
  have hP : va_P D cls_ (wMg h0 qq cc ff fl c0 (nI v.1) v.2.1) s.heap := by rw [← hw0]; exact hP
  have hD : va_D (va_A w0 sz) (wMg h0 qq cc ff fl c0 (nI v.1) v.2.1) := by rw [← hw0]; exact hD
  have hl := lv_entry ([.ref h0, .int n]) (n := 2) (Nat.le_of_ble_eq_true rfl)
  rw [lg_entry_eq]
  generalize (lg_sl ([.ref h0, .int n]) ++ List.replicate (2 - (lg_sl ([.ref h0, .int n])).length) Slot.unset).toArray = ls at hl ⊢
  have hl : lv_has ls 2 [(0, .ref h0), (1, .int n)] := hl
  refine lv_aload_n hx hb d_M_state_0 rfl (lv_at hl 0 rfl) ?_
  refine lv_iload_n hx hb d_M_state_1 rfl (lv_at hl 1 rfl) ?_
  have hAh : va_A w0 sz h0 := hD.2 0 _ rfl
  refine va_calli (va_runV (As := [.int n]) (rest := []) ⟨hx, hb, hml, hown, htB⟩ (c_M_none l D h0 qq c0 (nI v.1) v.2.1 n) (cwV 1 htB g_M_75 rfl rfl rfl (by decide +kernel) ⟨Nat.le_of_ble_eq_true rfl, Nat.le_of_ble_eq_true rfl⟩) (preV (pone hP (k := 0) rfl) (hK.sub (tys' := []) [] rfl) hN (va_recv hK hP (ci := 2) (q0 := 0) rfl rfl)) rfl rfl hl.1 rfl (lv_room (Nat.le_of_ble_eq_true rfl)) d_M_state_2 ⟨Nat.le_of_ble_eq_true rfl, Nat.le_of_ble_eq_true rfl⟩) hS (fun q _ h => by rw [h]; exact hAh) (fun q h => by rw [h]; exact hAh) (fun r0 z9 t H1 locs ht hvm hw hB hz1 hk1 hS => ?_)
  rw [ht] at hB
  obtain ⟨hP, hD⟩ := pcall (k := 0) hP hD rfl hk1 hB
  have hP : va_P D cls_ (wMg h0 qq cc ff fl 0 (nI v.1) v.2.1) H1 := hP
  have hD : va_D (va_A w0 sz) (wMg h0 qq cc ff fl 0 (nI v.1) v.2.1) := hD
  rcases hj : ix v.1 n with _ | j
  · have hw : r0 = 1 := hw.trans (mn_none hj)
    subst hw
    have hF : F_M_state v n = (-1, v) := by unfold F_M_state; rw [hj]
    refine lv_if_eq (tgt := 12) hx hb d_M_state_5 (by decide) (fun c9 => absurd c9 (by decide)) (fun _ => ?_)
    refine lv_iconst (v := (-1)) hx hb d_M_state_8 (by decide) ?_
    refine lv_goto (tgt := 17) hx hb d_M_state_9 (by decide) ?_
    exact W.iret hx hb hr (fun t ht hW => ⟨⟨-1, v, rfl, ⟨(congrArg Prod.fst hF).symm, (congrArg Prod.snd hF).symm⟩, _, _, ⟨qq, cc, ff, fl, 0, rfl, rfl, hvn, hvf⟩, by rw [ht]; exact hP, va_K.moved hW.alike hK, hD⟩, hS.F ht⟩) hS.2.2 d_M_state_17
  · have hw : r0 = 0 := hw.trans (mn_some hj)
    subst hw
    obtain ⟨hjl, hnk⟩ := ix_some hvn hj
    have hnj : n.toNatClampNeg = j + 1 := by rw [hnk]; exact nI_clamp (by omega)
    have hin : vp_in n 101 := by rw [hnk]; exact vp_in_nI (by omega) (by decide)
    have hu0 := hvf (j + 1)
    obtain ⟨z, hu⟩ : ∃ z, v.2.2 (j + 1) = z := ⟨_, rfl⟩
    rw [hu] at hu0
    have hP : va_P D cls_ (wM h0 qq cc ff fl n.toNatClampNeg 0 (nI v.1) v.2.1 z) H1 := by rw [hu0, ← hnj, wM_self]; exact hP
    have hD : va_D (va_A w0 sz) (wM h0 qq cc ff fl n.toNatClampNeg 0 (nI v.1) v.2.1 z) := by rw [hu0, ← hnj, wM_self]; exact hD
    obtain ⟨a0, a1, a2, a3, a4, a5, a6, a7, a8, a9, a10, a11, a12, a13⟩ := z
    have hF : F_M_state v n = ((g_M_state (a0, a1, a2, a3, a4, a5, a6, a7, a8, a9, a10, a11, a12, a13)).1, ((v.1, v.2.1, va_up v.2.2 (j + 1) (g_M_state (a0, a1, a2, a3, a4, a5, a6, a7, a8, a9, a10, a11, a12, a13)).2) : MS)) := by unfold F_M_state; rw [hj]; show ((g_M_state (v.2.2 (j + 1))).1, ((v.1, v.2.1, va_up v.2.2 (j + 1) (g_M_state (v.2.2 (j + 1))).2) : MS)) = _; rw [hu]
    have hc : g_M_state (a0, a1, a2, a3, a4, a5, a6, a7, a8, a9, a10, a11, a12, a13) = g_M_state (a0, a1, a2, a3, a4, a5, a6, a7, a8, a9, a10, a11, a12, a13) := rfl
    refine lv_if_eq (tgt := 12) hx hb d_M_state_5 (by decide) (fun _ => ?_) (fun c9 => absurd (by decide) c9)
    refine lv_aload_n hx hb d_M_state_12 rfl (lv_at hl 0 rfl) ?_
    refine lv_iload_n hx hb d_M_state_13 rfl (lv_at hl 1 rfl) ?_
    refine vp_callSi (va_Run.run (va_runV (As := [.int n]) (rest := []) ⟨hx, hb, hml, hown, htB⟩ (c_M_is l D h0 qq cc ff fl 0 (nI v.1) v.2.1 n hin (a0, a1, a2, a3, a4, a5, a6, a7, a8, a9, a10, a11, a12, a13)) (cwV 1 htB g_M_63 rfl rfl rfl (by decide +kernel) ⟨Nat.le_of_ble_eq_true rfl, Nat.le_of_ble_eq_true rfl⟩) (preV hP hK hN (va_recv hK hP (ci := 2) (q0 := 0) rfl rfl)) rfl rfl hl.1 rfl (lv_room (Nat.le_of_ble_eq_true rfl)) d_M_state_14 ⟨Nat.le_of_ble_eq_true rfl, Nat.le_of_ble_eq_true rfl⟩)) (fun r_1 hr_1 => ?_)
    subst hr_1
    have he : g_M_state (a0, a1, a2, a3, a4, a5, a6, a7, a8, a9, a10, a11, a12, a13) = (f_M_is (a0, a1, a2, a3, a4, a5, a6, a7, a8, a9, a10, a11, a12, a13), (a0, a1, a2, a3, a4, a5, a6, a7, a8, a9, a10, a11, a12, a13)) := hc.trans (rfl)
    have he := hF.trans (congrArg (fun z : Int32 × MN => (z.1, ((v.1, v.2.1, va_up v.2.2 (j + 1) z.2) : MS))) he)
    exact W.iret hx hb hr (fun t ht hW => ⟨⟨f_M_is (a0, a1, a2, a3, a4, a5, a6, a7, a8, a9, a10, a11, a12, a13), (v.1, v.2.1, va_up v.2.2 (j + 1) (a0, a1, a2, a3, a4, a5, a6, a7, a8, a9, a10, a11, a12, a13)), rfl, ⟨(congrArg Prod.fst he).symm, (congrArg Prod.snd he).symm⟩, _, _, ⟨qq, cc, uff ff n.toNatClampNeg (a0, a1, a2, a3, a4, a5, a6, a7, a8, a9, a10, a11, a12, a13), vp_updL fl n.toNatClampNeg a9, 0, rfl, rfl, hvn, fun k9 => mfin hvf hnj k9⟩, by rw [ht]; exact hP, va_K.moved hW.alike hK, hD⟩, hS.F ht⟩) hS.2.2 d_M_state_17
def g_M_flag (u : MN) : Int32 × MN := let a0 := u.1; let a1 := u.2.1; let a2 := u.2.2.1; let a3 := u.2.2.2.1; let a4 := u.2.2.2.2.1; let a5 := u.2.2.2.2.2.1; let a6 := u.2.2.2.2.2.2.1; let a7 := u.2.2.2.2.2.2.2.1; let a8 := u.2.2.2.2.2.2.2.2.1; let a9 := u.2.2.2.2.2.2.2.2.2.1; let a10 := u.2.2.2.2.2.2.2.2.2.2.1; let a11 := u.2.2.2.2.2.2.2.2.2.2.2.1; let a12 := u.2.2.2.2.2.2.2.2.2.2.2.2.1; let a13 := u.2.2.2.2.2.2.2.2.2.2.2.2.2; (a3, (a0, a1, a2, a3, a4, a5, a6, a7, a8, a9, a10, a11, a12, a13))
def F_M_flag (v : MS) (n : Int32) : Int32 × MS := match ix v.1 n with
  | none => (-1, v)
  | some j => ((g_M_flag (v.2.2 (j + 1))).1, ((v.1, v.2.1, va_up v.2.2 (j + 1) (g_M_flag (v.2.2 (j + 1))).2) : MS))
set_option maxHeartbeats 4000000 in
set_option maxRecDepth 100000 in
theorem c_M_flag (l : Launch) (D : va_G) (h0 sz : Nat) (v : MS) (w0 : va_W) (tm : List (ClassId × FieldType)) (hI : IM h0 v w0 tm) (hD0 : va_D (fun _ => True) w0) (n : Int32) : Met l y_M_flag (cw_M_flag :: BIG) (rmk 5 0 0) (va_Pc [.ref h0, .int n] (fun U => U.heap.size = sz ∧ va_P D cls_ w0 U.heap ∧ va_K D cls_ tm U ∧ NK U)) (va_Qi (fun (r : Int32) (v2 : MS) => r = (F_M_flag v n).1 ∧ v2 = (F_M_flag v n).2) (atM D h0 (va_A w0 sz)) (va_A w0 sz)) 0 0 (va_A w0 sz) := by
  refine Met.ofW (cc := b_M_flag) (maxL := 2) (ret := (some .int)) (by decide) rfl ?_
  intro p e s m args below meth c s₁ B hml hv
  obtain ⟨rfl, hsz, hP, hK, hN⟩ := hv
  have hx := B.exec
  have hb := B.bytes
  have hr := B.returns
  have htB : ∀ w ∈ BIG, w.before _ s = true := fun w h => atoms_spec (ws := cw_M_flag :: BIG) B.pre w (List.mem_cons_of_mem _ h)
  have hown : s.vm.findClass R_M = some m.cls := findClass_of_methodNamed B.named
  have hlocks := B.notSynchronized
  have hD : va_D (va_A w0 sz) w0 := hD0.self
  have hS : va_S (va_A w0 sz) s.heap s.heap [] := va_S.rf
  obtain ⟨qq, cc, ff, fl, c0, hw0, rfl, hvn, hvf⟩ := hI
  have hP : va_P D cls_ (wMg h0 qq cc ff fl c0 (nI v.1) v.2.1) s.heap := by rw [← hw0]; exact hP
  have hD : va_D (va_A w0 sz) (wMg h0 qq cc ff fl c0 (nI v.1) v.2.1) := by rw [← hw0]; exact hD
  have hl := lv_entry ([.ref h0, .int n]) (n := 2) (Nat.le_of_ble_eq_true rfl)
  rw [lg_entry_eq]
  generalize (lg_sl ([.ref h0, .int n]) ++ List.replicate (2 - (lg_sl ([.ref h0, .int n])).length) Slot.unset).toArray = ls at hl ⊢
  have hl : lv_has ls 2 [(0, .ref h0), (1, .int n)] := hl
  refine lv_aload_n hx hb d_M_flag_0 rfl (lv_at hl 0 rfl) ?_
  refine lv_iload_n hx hb d_M_flag_1 rfl (lv_at hl 1 rfl) ?_
  have hAh : va_A w0 sz h0 := hD.2 0 _ rfl
  refine va_calli (va_runV (As := [.int n]) (rest := []) ⟨hx, hb, hml, hown, htB⟩ (c_M_none l D h0 qq c0 (nI v.1) v.2.1 n) (cwV 1 htB g_M_75 rfl rfl rfl (by decide +kernel) ⟨Nat.le_of_ble_eq_true rfl, Nat.le_of_ble_eq_true rfl⟩) (preV (pone hP (k := 0) rfl) (hK.sub (tys' := []) [] rfl) hN (va_recv hK hP (ci := 2) (q0 := 0) rfl rfl)) rfl rfl hl.1 rfl (lv_room (Nat.le_of_ble_eq_true rfl)) d_M_flag_2 ⟨Nat.le_of_ble_eq_true rfl, Nat.le_of_ble_eq_true rfl⟩) hS (fun q _ h => by rw [h]; exact hAh) (fun q h => by rw [h]; exact hAh) (fun r0 z9 t H1 locs ht hvm hw hB hz1 hk1 hS => ?_)
  rw [ht] at hB
  obtain ⟨hP, hD⟩ := pcall (k := 0) hP hD rfl hk1 hB
  have hP : va_P D cls_ (wMg h0 qq cc ff fl 0 (nI v.1) v.2.1) H1 := hP
  have hD : va_D (va_A w0 sz) (wMg h0 qq cc ff fl 0 (nI v.1) v.2.1) := hD
  rcases hj : ix v.1 n with _ | j
  · have hw : r0 = 1 := hw.trans (mn_none hj)
    subst hw
    have hF : F_M_flag v n = (-1, v) := by unfold F_M_flag; rw [hj]
    refine lv_if_eq (tgt := 12) hx hb d_M_flag_5 (by decide) (fun c9 => absurd c9 (by decide)) (fun _ => ?_)
    refine lv_iconst (v := (-1)) hx hb d_M_flag_8 (by decide) ?_
    refine lv_goto (tgt := 18) hx hb d_M_flag_9 (by decide) ?_
    exact W.iret hx hb hr (fun t ht hW => ⟨⟨-1, v, rfl, ⟨(congrArg Prod.fst hF).symm, (congrArg Prod.snd hF).symm⟩, _, _, ⟨qq, cc, ff, fl, 0, rfl, rfl, hvn, hvf⟩, by rw [ht]; exact hP, va_K.moved hW.alike hK, hD⟩, hS.F ht⟩) hS.2.2 d_M_flag_18
  · have hw : r0 = 0 := hw.trans (mn_some hj)
    subst hw
    obtain ⟨hjl, hnk⟩ := ix_some hvn hj
    have hnj : n.toNatClampNeg = j + 1 := by rw [hnk]; exact nI_clamp (by omega)
    have hin : vp_in n 101 := by rw [hnk]; exact vp_in_nI (by omega) (by decide)
    have hu0 := hvf (j + 1)
    obtain ⟨z, hu⟩ : ∃ z, v.2.2 (j + 1) = z := ⟨_, rfl⟩
    rw [hu] at hu0
    have hP : va_P D cls_ (wM h0 qq cc ff fl n.toNatClampNeg 0 (nI v.1) v.2.1 z) H1 := by rw [hu0, ← hnj, wM_self]; exact hP
    have hD : va_D (va_A w0 sz) (wM h0 qq cc ff fl n.toNatClampNeg 0 (nI v.1) v.2.1 z) := by rw [hu0, ← hnj, wM_self]; exact hD
    obtain ⟨a0, a1, a2, a3, a4, a5, a6, a7, a8, a9, a10, a11, a12, a13⟩ := z
    have hF : F_M_flag v n = ((g_M_flag (a0, a1, a2, a3, a4, a5, a6, a7, a8, a9, a10, a11, a12, a13)).1, ((v.1, v.2.1, va_up v.2.2 (j + 1) (g_M_flag (a0, a1, a2, a3, a4, a5, a6, a7, a8, a9, a10, a11, a12, a13)).2) : MS)) := by unfold F_M_flag; rw [hj]; show ((g_M_flag (v.2.2 (j + 1))).1, ((v.1, v.2.1, va_up v.2.2 (j + 1) (g_M_flag (v.2.2 (j + 1))).2) : MS)) = _; rw [hu]
    have hc : g_M_flag (a0, a1, a2, a3, a4, a5, a6, a7, a8, a9, a10, a11, a12, a13) = g_M_flag (a0, a1, a2, a3, a4, a5, a6, a7, a8, a9, a10, a11, a12, a13) := rfl
    refine lv_if_eq (tgt := 12) hx hb d_M_flag_5 (by decide) (fun _ => ?_) (fun c9 => absurd (by decide) c9)
    refine lv_aload_n hx hb d_M_flag_12 rfl (lv_at hl 0 rfl) ?_
    refine va_get (D := D) (ci := 2) (v := .ref (qq 3)) (C := R_M) (T := F_M) (N := 17) hx hb htB uw_M hown hK hP 0 rfl rfl 5 (by decide) (htB _ fl_M_20) (fun _ h9 => h9) rfl d_M_flag_13 ?_
    refine lv_iload_n hx hb d_M_flag_16 rfl (lv_at hl 1 rfl) ?_
    refine va_iald hx hb hK hP 4 3 rfl rfl hin d_M_flag_17 ?_
    refine tpi a3 pk_us ?_
    have he : g_M_flag (a0, a1, a2, a3, a4, a5, a6, a7, a8, a9, a10, a11, a12, a13) = (a3, (a0, a1, a2, a3, a4, a5, a6, a7, a8, a9, a10, a11, a12, a13)) := hc.trans (rfl)
    have he := hF.trans (congrArg (fun z : Int32 × MN => (z.1, ((v.1, v.2.1, va_up v.2.2 (j + 1) z.2) : MS))) he)
    exact W.iret hx hb hr (fun t ht hW => ⟨⟨a3, (v.1, v.2.1, va_up v.2.2 (j + 1) (a0, a1, a2, a3, a4, a5, a6, a7, a8, a9, a10, a11, a12, a13)), rfl, ⟨(congrArg Prod.fst he).symm, (congrArg Prod.snd he).symm⟩, _, _, ⟨qq, cc, uff ff n.toNatClampNeg (a0, a1, a2, a3, a4, a5, a6, a7, a8, a9, a10, a11, a12, a13), vp_updL fl n.toNatClampNeg a9, 0, rfl, rfl, hvn, fun k9 => mfin hvf hnj k9⟩, by rw [ht]; exact hP, va_K.moved hW.alike hK, hD⟩, hS.F ht⟩) hS.2.2 d_M_flag_18
def g_M_suspended (u : MN) : Int32 × MN := let a0 := u.1; let a1 := u.2.1; let a2 := u.2.2.1; let a3 := u.2.2.2.1; let a4 := u.2.2.2.2.1; let a5 := u.2.2.2.2.2.1; let a6 := u.2.2.2.2.2.2.1; let a7 := u.2.2.2.2.2.2.2.1; let a8 := u.2.2.2.2.2.2.2.2.1; let a9 := u.2.2.2.2.2.2.2.2.2.1; let a10 := u.2.2.2.2.2.2.2.2.2.2.1; let a11 := u.2.2.2.2.2.2.2.2.2.2.2.1; let a12 := u.2.2.2.2.2.2.2.2.2.2.2.2.1; let a13 := u.2.2.2.2.2.2.2.2.2.2.2.2.2; if a2 = 0 then (a4, (a0, a1, a2, a3, a4, a5, a6, a7, a8, a9, a10, a11, a12, a13)) else ((-3), (a0, a1, a2, a3, a4, a5, a6, a7, a8, a9, a10, a11, a12, a13))
def F_M_suspended (v : MS) (n : Int32) : Int32 × MS := match ix v.1 n with
  | none => (-1, v)
  | some j => ((g_M_suspended (v.2.2 (j + 1))).1, ((v.1, v.2.1, va_up v.2.2 (j + 1) (g_M_suspended (v.2.2 (j + 1))).2) : MS))
set_option maxHeartbeats 4000000 in
set_option maxRecDepth 100000 in
theorem c_M_suspended (l : Launch) (D : va_G) (h0 sz : Nat) (v : MS) (w0 : va_W) (tm : List (ClassId × FieldType)) (hI : IM h0 v w0 tm) (hD0 : va_D (fun _ => True) w0) (n : Int32) : Met l y_M_suspended (cw_M_suspended :: BIG) (rmk 5 0 0) (va_Pc [.ref h0, .int n] (fun U => U.heap.size = sz ∧ va_P D cls_ w0 U.heap ∧ va_K D cls_ tm U ∧ NK U)) (va_Qi (fun (r : Int32) (v2 : MS) => r = (F_M_suspended v n).1 ∧ v2 = (F_M_suspended v n).2) (atM D h0 (va_A w0 sz)) (va_A w0 sz)) 0 0 (va_A w0 sz) := by
  refine Met.ofW (cc := b_M_suspended) (maxL := 2) (ret := (some .int)) (by decide) rfl ?_
  intro p e s m args below meth c s₁ B hml hv
  obtain ⟨rfl, hsz, hP, hK, hN⟩ := hv
  have hx := B.exec
  have hb := B.bytes
  have hr := B.returns
  have htB : ∀ w ∈ BIG, w.before _ s = true := fun w h => atoms_spec (ws := cw_M_suspended :: BIG) B.pre w (List.mem_cons_of_mem _ h)
  have hown : s.vm.findClass R_M = some m.cls := findClass_of_methodNamed B.named
  have hlocks := B.notSynchronized
  have hD : va_D (va_A w0 sz) w0 := hD0.self
  have hS : va_S (va_A w0 sz) s.heap s.heap [] := va_S.rf
  obtain ⟨qq, cc, ff, fl, c0, hw0, rfl, hvn, hvf⟩ := hI
  have hP : va_P D cls_ (wMg h0 qq cc ff fl c0 (nI v.1) v.2.1) s.heap := by rw [← hw0]; exact hP
  have hD : va_D (va_A w0 sz) (wMg h0 qq cc ff fl c0 (nI v.1) v.2.1) := by rw [← hw0]; exact hD
  have hl := lv_entry ([.ref h0, .int n]) (n := 2) (Nat.le_of_ble_eq_true rfl)
  rw [lg_entry_eq]
  generalize (lg_sl ([.ref h0, .int n]) ++ List.replicate (2 - (lg_sl ([.ref h0, .int n])).length) Slot.unset).toArray = ls at hl ⊢
  have hl : lv_has ls 2 [(0, .ref h0), (1, .int n)] := hl
  refine lv_aload_n hx hb d_M_suspended_0 rfl (lv_at hl 0 rfl) ?_
  refine lv_iload_n hx hb d_M_suspended_1 rfl (lv_at hl 1 rfl) ?_
  have hAh : va_A w0 sz h0 := hD.2 0 _ rfl
  refine va_calli (va_runV (As := [.int n]) (rest := []) ⟨hx, hb, hml, hown, htB⟩ (c_M_none l D h0 qq c0 (nI v.1) v.2.1 n) (cwV 1 htB g_M_75 rfl rfl rfl (by decide +kernel) ⟨Nat.le_of_ble_eq_true rfl, Nat.le_of_ble_eq_true rfl⟩) (preV (pone hP (k := 0) rfl) (hK.sub (tys' := []) [] rfl) hN (va_recv hK hP (ci := 2) (q0 := 0) rfl rfl)) rfl rfl hl.1 rfl (lv_room (Nat.le_of_ble_eq_true rfl)) d_M_suspended_2 ⟨Nat.le_of_ble_eq_true rfl, Nat.le_of_ble_eq_true rfl⟩) hS (fun q _ h => by rw [h]; exact hAh) (fun q h => by rw [h]; exact hAh) (fun r0 z9 t H1 locs ht hvm hw hB hz1 hk1 hS => ?_)
  rw [ht] at hB
  obtain ⟨hP, hD⟩ := pcall (k := 0) hP hD rfl hk1 hB
  have hP : va_P D cls_ (wMg h0 qq cc ff fl 0 (nI v.1) v.2.1) H1 := hP
  have hD : va_D (va_A w0 sz) (wMg h0 qq cc ff fl 0 (nI v.1) v.2.1) := hD
  rcases hj : ix v.1 n with _ | j
  · have hw : r0 = 1 := hw.trans (mn_none hj)
    subst hw
    have hF : F_M_suspended v n = (-1, v) := by unfold F_M_suspended; rw [hj]
    refine lv_if_eq (tgt := 10) hx hb d_M_suspended_5 (by decide) (fun c9 => absurd c9 (by decide)) (fun _ => ?_)
    refine lv_iconst (v := (-1)) hx hb d_M_suspended_8 (by decide) ?_
    exact W.iret hx hb hr (fun t ht hW => ⟨⟨-1, v, rfl, ⟨(congrArg Prod.fst hF).symm, (congrArg Prod.snd hF).symm⟩, _, _, ⟨qq, cc, ff, fl, 0, rfl, rfl, hvn, hvf⟩, by rw [ht]; exact hP, va_K.moved hW.alike hK, hD⟩, hS.F ht⟩) hS.2.2 d_M_suspended_9
  · have hw : r0 = 0 := hw.trans (mn_some hj)
    subst hw
    obtain ⟨hjl, hnk⟩ := ix_some hvn hj
    have hnj : n.toNatClampNeg = j + 1 := by rw [hnk]; exact nI_clamp (by omega)
    have hin : vp_in n 101 := by rw [hnk]; exact vp_in_nI (by omega) (by decide)
    have hu0 := hvf (j + 1)
    obtain ⟨z, hu⟩ : ∃ z, v.2.2 (j + 1) = z := ⟨_, rfl⟩
    rw [hu] at hu0
    have hP : va_P D cls_ (wM h0 qq cc ff fl n.toNatClampNeg 0 (nI v.1) v.2.1 z) H1 := by rw [hu0, ← hnj, wM_self]; exact hP
    have hD : va_D (va_A w0 sz) (wM h0 qq cc ff fl n.toNatClampNeg 0 (nI v.1) v.2.1 z) := by rw [hu0, ← hnj, wM_self]; exact hD
    obtain ⟨a0, a1, a2, a3, a4, a5, a6, a7, a8, a9, a10, a11, a12, a13⟩ := z
    have hF : F_M_suspended v n = ((g_M_suspended (a0, a1, a2, a3, a4, a5, a6, a7, a8, a9, a10, a11, a12, a13)).1, ((v.1, v.2.1, va_up v.2.2 (j + 1) (g_M_suspended (a0, a1, a2, a3, a4, a5, a6, a7, a8, a9, a10, a11, a12, a13)).2) : MS)) := by unfold F_M_suspended; rw [hj]; show ((g_M_suspended (v.2.2 (j + 1))).1, ((v.1, v.2.1, va_up v.2.2 (j + 1) (g_M_suspended (v.2.2 (j + 1))).2) : MS)) = _; rw [hu]
    have hc : g_M_suspended (a0, a1, a2, a3, a4, a5, a6, a7, a8, a9, a10, a11, a12, a13) = g_M_suspended (a0, a1, a2, a3, a4, a5, a6, a7, a8, a9, a10, a11, a12, a13) := rfl
    refine lv_if_eq (tgt := 10) hx hb d_M_suspended_5 (by decide) (fun _ => ?_) (fun c9 => absurd (by decide) c9)
    refine lv_aload_n hx hb d_M_suspended_10 rfl (lv_at hl 0 rfl) ?_
    refine va_get (D := D) (ci := 2) (v := .ref (qq 2)) (C := R_M) (T := F_M) (N := 17) hx hb htB uw_M hown hK hP 0 rfl rfl 4 (by decide) (htB _ fl_M_16) (fun _ h9 => h9) rfl d_M_suspended_11 ?_
    refine lv_iload_n hx hb d_M_suspended_14 rfl (lv_at hl 1 rfl) ?_
    refine va_zald hx hb hK hP 3 2 rfl rfl hin d_M_suspended_15 ?_
    refine tpi a2 pk_us ?_
    refine lv_if_eq (tgt := 24) hx hb d_M_suspended_16 (by decide) (fun c_1 => ?_) (fun c_1 => ?_)
    · refine lv_aload_n hx hb d_M_suspended_24 rfl (lv_at hl 0 rfl) ?_
      refine va_get (D := D) (ci := 2) (v := .ref (qq 4)) (C := R_M) (T := F_M) (N := 17) hx hb htB uw_M hown hK hP 0 rfl rfl 6 (by decide) (htB _ fl_M_23) (fun _ h9 => h9) rfl d_M_suspended_25 ?_
      refine lv_iload_n hx hb d_M_suspended_28 rfl (lv_at hl 1 rfl) ?_
      refine va_iald hx hb hK hP 5 4 rfl rfl hin d_M_suspended_29 ?_
      refine tpi a4 pk_us ?_
      have he : g_M_suspended (a0, a1, a2, a3, a4, a5, a6, a7, a8, a9, a10, a11, a12, a13) = (a4, (a0, a1, a2, a3, a4, a5, a6, a7, a8, a9, a10, a11, a12, a13)) := hc.trans (if_pos c_1)
      have he := hF.trans (congrArg (fun z : Int32 × MN => (z.1, ((v.1, v.2.1, va_up v.2.2 (j + 1) z.2) : MS))) he)
      exact W.iret hx hb hr (fun t ht hW => ⟨⟨a4, (v.1, v.2.1, va_up v.2.2 (j + 1) (a0, a1, a2, a3, a4, a5, a6, a7, a8, a9, a10, a11, a12, a13)), rfl, ⟨(congrArg Prod.fst he).symm, (congrArg Prod.snd he).symm⟩, _, _, ⟨qq, cc, uff ff n.toNatClampNeg (a0, a1, a2, a3, a4, a5, a6, a7, a8, a9, a10, a11, a12, a13), vp_updL fl n.toNatClampNeg a9, 0, rfl, rfl, hvn, fun k9 => mfin hvf hnj k9⟩, by rw [ht]; exact hP, va_K.moved hW.alike hK, hD⟩, hS.F ht⟩) hS.2.2 d_M_suspended_30
    · refine lv_bipush (v := (-3)) hx hb d_M_suspended_19 (by decide) ?_
      refine lv_goto (tgt := 30) hx hb d_M_suspended_21 (by decide) ?_
      have he : g_M_suspended (a0, a1, a2, a3, a4, a5, a6, a7, a8, a9, a10, a11, a12, a13) = ((-3), (a0, a1, a2, a3, a4, a5, a6, a7, a8, a9, a10, a11, a12, a13)) := hc.trans (if_neg c_1)
      have he := hF.trans (congrArg (fun z : Int32 × MN => (z.1, ((v.1, v.2.1, va_up v.2.2 (j + 1) z.2) : MS))) he)
      exact W.iret hx hb hr (fun t ht hW => ⟨⟨(-3), (v.1, v.2.1, va_up v.2.2 (j + 1) (a0, a1, a2, a3, a4, a5, a6, a7, a8, a9, a10, a11, a12, a13)), rfl, ⟨(congrArg Prod.fst he).symm, (congrArg Prod.snd he).symm⟩, _, _, ⟨qq, cc, uff ff n.toNatClampNeg (a0, a1, a2, a3, a4, a5, a6, a7, a8, a9, a10, a11, a12, a13), vp_updL fl n.toNatClampNeg a9, 0, rfl, rfl, hvn, fun k9 => mfin hvf hnj k9⟩, by rw [ht]; exact hP, va_K.moved hW.alike hK, hD⟩, hS.F ht⟩) hS.2.2 d_M_suspended_30
def g_M_shot (u : MN) (w : Int32) : Int32 × MN := let a0 := u.1; let a1 := u.2.1; let a2 := u.2.2.1; let a3 := u.2.2.2.1; let a4 := u.2.2.2.2.1; let a5 := u.2.2.2.2.2.1; let a7 := u.2.2.2.2.2.2.2.1; let a8 := u.2.2.2.2.2.2.2.2.1; let a9 := u.2.2.2.2.2.2.2.2.2.1; let a10 := u.2.2.2.2.2.2.2.2.2.2.1; let a11 := u.2.2.2.2.2.2.2.2.2.2.2.1; let a12 := u.2.2.2.2.2.2.2.2.2.2.2.2.1; let a13 := u.2.2.2.2.2.2.2.2.2.2.2.2.2; (a7, (a0, a1, a2, a3, a4, a5, w, a7, a8, a9, a10, a11, a12, a13))
def F_M_shot (v : MS) (n : Int32) (w : Int32) : Int32 × MS := match ix v.1 n with
  | none => (-1, v)
  | some j => ((g_M_shot (v.2.2 (j + 1)) w).1, ((v.1, v.2.1, va_up v.2.2 (j + 1) (g_M_shot (v.2.2 (j + 1)) w).2) : MS))
set_option maxHeartbeats 4000000 in
set_option maxRecDepth 100000 in
theorem c_M_shot (l : Launch) (D : va_G) (h0 sz : Nat) (v : MS) (w0 : va_W) (tm : List (ClassId × FieldType)) (hI : IM h0 v w0 tm) (hD0 : va_D (fun _ => True) w0) (n : Int32) (w : Int32) (hb_w : w = 0 ∨ w = 1) : Met l y_M_shot (cw_M_shot :: BIG) (rmk 5 0 0) (va_Pc [.ref h0, .int n, .int w] (fun U => U.heap.size = sz ∧ va_P D cls_ w0 U.heap ∧ va_K D cls_ tm U ∧ NK U)) (va_Qi (fun (r : Int32) (v2 : MS) => r = (F_M_shot v n w).1 ∧ v2 = (F_M_shot v n w).2) (atM D h0 (va_A w0 sz)) (va_A w0 sz)) 0 0 (va_A w0 sz) := by
  refine Met.ofW (cc := b_M_shot) (maxL := 3) (ret := (some .int)) (by decide) rfl ?_
  intro p e s m args below meth c s₁ B hml hv
  obtain ⟨rfl, hsz, hP, hK, hN⟩ := hv
  have hx := B.exec
  have hb := B.bytes
  have hr := B.returns
  have htB : ∀ w ∈ BIG, w.before _ s = true := fun w h => atoms_spec (ws := cw_M_shot :: BIG) B.pre w (List.mem_cons_of_mem _ h)
  have hown : s.vm.findClass R_M = some m.cls := findClass_of_methodNamed B.named
  have hlocks := B.notSynchronized
  have hD : va_D (va_A w0 sz) w0 := hD0.self
  have hS : va_S (va_A w0 sz) s.heap s.heap [] := va_S.rf
  obtain ⟨qq, cc, ff, fl, c0, hw0, rfl, hvn, hvf⟩ := hI
  have hP : va_P D cls_ (wMg h0 qq cc ff fl c0 (nI v.1) v.2.1) s.heap := by rw [← hw0]; exact hP
  have hD : va_D (va_A w0 sz) (wMg h0 qq cc ff fl c0 (nI v.1) v.2.1) := by rw [← hw0]; exact hD
  have hl := lv_entry ([.ref h0, .int n, .int w]) (n := 3) (Nat.le_of_ble_eq_true rfl)
  rw [lg_entry_eq]
  generalize (lg_sl ([.ref h0, .int n, .int w]) ++ List.replicate (3 - (lg_sl ([.ref h0, .int n, .int w])).length) Slot.unset).toArray = ls at hl ⊢
  have hl : lv_has ls 3 [(0, .ref h0), (1, .int n), (2, .int w)] := hl
  refine lv_aload_n hx hb d_M_shot_0 rfl (lv_at hl 0 rfl) ?_
  refine lv_iload_n hx hb d_M_shot_1 rfl (lv_at hl 1 rfl) ?_
  have hAh : va_A w0 sz h0 := hD.2 0 _ rfl
  refine va_calli (va_runV (As := [.int n]) (rest := []) ⟨hx, hb, hml, hown, htB⟩ (c_M_none l D h0 qq c0 (nI v.1) v.2.1 n) (cwV 1 htB g_M_75 rfl rfl rfl (by decide +kernel) ⟨Nat.le_of_ble_eq_true rfl, Nat.le_of_ble_eq_true rfl⟩) (preV (pone hP (k := 0) rfl) (hK.sub (tys' := []) [] rfl) hN (va_recv hK hP (ci := 2) (q0 := 0) rfl rfl)) rfl rfl hl.1 rfl (lv_room (Nat.le_of_ble_eq_true rfl)) d_M_shot_2 ⟨Nat.le_of_ble_eq_true rfl, Nat.le_of_ble_eq_true rfl⟩) hS (fun q _ h => by rw [h]; exact hAh) (fun q h => by rw [h]; exact hAh) (fun r0 z9 t H1 locs ht hvm hw hB hz1 hk1 hS => ?_)
  rw [ht] at hB
  obtain ⟨hP, hD⟩ := pcall (k := 0) hP hD rfl hk1 hB
  have hP : va_P D cls_ (wMg h0 qq cc ff fl 0 (nI v.1) v.2.1) H1 := hP
  have hD : va_D (va_A w0 sz) (wMg h0 qq cc ff fl 0 (nI v.1) v.2.1) := hD
  rcases hj : ix v.1 n with _ | j
  · have hw : r0 = 1 := hw.trans (mn_none hj)
    subst hw
    have hF : F_M_shot v n w = (-1, v) := by unfold F_M_shot; rw [hj]
    refine lv_if_eq (tgt := 10) hx hb d_M_shot_5 (by decide) (fun c9 => absurd c9 (by decide)) (fun _ => ?_)
    refine lv_iconst (v := (-1)) hx hb d_M_shot_8 (by decide) ?_
    exact W.iret hx hb hr (fun t ht hW => ⟨⟨-1, v, rfl, ⟨(congrArg Prod.fst hF).symm, (congrArg Prod.snd hF).symm⟩, _, _, ⟨qq, cc, ff, fl, 0, rfl, rfl, hvn, hvf⟩, by rw [ht]; exact hP, va_K.moved hW.alike hK, hD⟩, hS.F ht⟩) hS.2.2 d_M_shot_9
  · have hw : r0 = 0 := hw.trans (mn_some hj)
    subst hw
    obtain ⟨hjl, hnk⟩ := ix_some hvn hj
    have hnj : n.toNatClampNeg = j + 1 := by rw [hnk]; exact nI_clamp (by omega)
    have hin : vp_in n 101 := by rw [hnk]; exact vp_in_nI (by omega) (by decide)
    have hu0 := hvf (j + 1)
    obtain ⟨z, hu⟩ : ∃ z, v.2.2 (j + 1) = z := ⟨_, rfl⟩
    rw [hu] at hu0
    have hP : va_P D cls_ (wM h0 qq cc ff fl n.toNatClampNeg 0 (nI v.1) v.2.1 z) H1 := by rw [hu0, ← hnj, wM_self]; exact hP
    have hD : va_D (va_A w0 sz) (wM h0 qq cc ff fl n.toNatClampNeg 0 (nI v.1) v.2.1 z) := by rw [hu0, ← hnj, wM_self]; exact hD
    obtain ⟨a0, a1, a2, a3, a4, a5, a6, a7, a8, a9, a10, a11, a12, a13⟩ := z
    have hF : F_M_shot v n w = ((g_M_shot (a0, a1, a2, a3, a4, a5, a6, a7, a8, a9, a10, a11, a12, a13) w).1, ((v.1, v.2.1, va_up v.2.2 (j + 1) (g_M_shot (a0, a1, a2, a3, a4, a5, a6, a7, a8, a9, a10, a11, a12, a13) w).2) : MS)) := by unfold F_M_shot; rw [hj]; show ((g_M_shot (v.2.2 (j + 1)) w).1, ((v.1, v.2.1, va_up v.2.2 (j + 1) (g_M_shot (v.2.2 (j + 1)) w).2) : MS)) = _; rw [hu]
    have hc : g_M_shot (a0, a1, a2, a3, a4, a5, a6, a7, a8, a9, a10, a11, a12, a13) w = g_M_shot (a0, a1, a2, a3, a4, a5, a6, a7, a8, a9, a10, a11, a12, a13) w := rfl
    refine lv_if_eq (tgt := 10) hx hb d_M_shot_5 (by decide) (fun _ => ?_) (fun c9 => absurd (by decide) c9)
    refine lv_aload_n hx hb d_M_shot_10 rfl (lv_at hl 0 rfl) ?_
    refine va_get (D := D) (ci := 2) (v := .ref (qq 6)) (C := R_M) (T := F_M) (N := 17) hx hb htB uw_M hown hK hP 0 rfl rfl 8 (by decide) (htB _ fl_M_29) (fun _ h9 => h9) rfl d_M_shot_11 ?_
    refine lv_iload_n hx hb d_M_shot_14 rfl (lv_at hl 1 rfl) ?_
    refine lv_iload_n hx hb d_M_shot_15 rfl (lv_at hl 2 rfl) ?_
    refine va_zast hx hb hK hP hD hS 7 6 rfl rfl hin d_M_shot_16 (fun H locs hP hD hS => ?_)
    rw [vnb hb_w] at hP hD
    have hP : va_P D cls_ (wM h0 qq cc ff fl n.toNatClampNeg 0 (nI v.1) v.2.1 (a0, a1, a2, a3, a4, a5, w, a7, a8, a9, a10, a11, a12, a13)) H := by have h9 := hP; rw [ws_6] at h9; exact h9
    have hD : va_D (va_A w0 sz) (wM h0 qq cc ff fl n.toNatClampNeg 0 (nI v.1) v.2.1 (a0, a1, a2, a3, a4, a5, w, a7, a8, a9, a10, a11, a12, a13)) := by have h9 := hD; rw [ws_6] at h9; exact h9
    refine lv_aload_n hx hb d_M_shot_17 rfl (lv_at hl 0 rfl) ?_
    refine va_get (D := D) (ci := 2) (v := .ref (qq 7)) (C := R_M) (T := F_M) (N := 17) hx hb htB uw_M hown hK hP 0 rfl rfl 9 (by decide) (htB _ fl_M_32) (fun _ h9 => h9) rfl d_M_shot_18 ?_
    refine lv_iload_n hx hb d_M_shot_21 rfl (lv_at hl 1 rfl) ?_
    refine va_iald hx hb hK hP 8 7 rfl rfl hin d_M_shot_22 ?_
    refine tpi a7 pk_us ?_
    have he : g_M_shot (a0, a1, a2, a3, a4, a5, a6, a7, a8, a9, a10, a11, a12, a13) w = (a7, (a0, a1, a2, a3, a4, a5, w, a7, a8, a9, a10, a11, a12, a13)) := hc.trans (rfl)
    have he := hF.trans (congrArg (fun z : Int32 × MN => (z.1, ((v.1, v.2.1, va_up v.2.2 (j + 1) z.2) : MS))) he)
    exact W.iret hx hb hr (fun t ht hW => ⟨⟨a7, (v.1, v.2.1, va_up v.2.2 (j + 1) (a0, a1, a2, a3, a4, a5, w, a7, a8, a9, a10, a11, a12, a13)), rfl, ⟨(congrArg Prod.fst he).symm, (congrArg Prod.snd he).symm⟩, _, _, ⟨qq, cc, uff ff n.toNatClampNeg (a0, a1, a2, a3, a4, a5, w, a7, a8, a9, a10, a11, a12, a13), vp_updL fl n.toNatClampNeg a9, 0, rfl, rfl, hvn, fun k9 => mfin hvf hnj k9⟩, by rw [ht]; exact hP, va_K.moved hW.alike hK, hD⟩, hS.F ht⟩) hS.2.2 d_M_shot_23
def g_M_listen (u : MN) (w : Int32) : Int32 × MN := let a0 := u.1; let a1 := u.2.1; let a2 := u.2.2.1; let a3 := u.2.2.2.1; let a4 := u.2.2.2.2.1; let a5 := u.2.2.2.2.2.1; let a6 := u.2.2.2.2.2.2.1; let a7 := u.2.2.2.2.2.2.2.1; let a8 := u.2.2.2.2.2.2.2.2.1; let a9 := u.2.2.2.2.2.2.2.2.2.1; let a10 := u.2.2.2.2.2.2.2.2.2.2.1; let a11 := u.2.2.2.2.2.2.2.2.2.2.2.1; let a12 := u.2.2.2.2.2.2.2.2.2.2.2.2.1; let a13 := u.2.2.2.2.2.2.2.2.2.2.2.2.2; if a2 = 0 then (if a8 = w then (0, (a0, a1, a2, 0, a4, a5, a6, a7, w, a9, a10, a11, a12, a13)) else (1, (a0, a1, a2, 0, a4, a5, a6, a7, w, a9, a10, a11, a12, a13))) else ((-3), (a0, a1, a2, a3, a4, a5, a6, a7, a8, a9, a10, a11, a12, a13))
def F_M_listen (v : MS) (n : Int32) (w : Int32) : Int32 × MS := match ix v.1 n with
  | none => (-1, v)
  | some j => ((g_M_listen (v.2.2 (j + 1)) w).1, ((v.1, v.2.1, va_up v.2.2 (j + 1) (g_M_listen (v.2.2 (j + 1)) w).2) : MS))
set_option maxHeartbeats 4000000 in
set_option maxRecDepth 100000 in
theorem c_M_listen (l : Launch) (D : va_G) (h0 sz : Nat) (v : MS) (w0 : va_W) (tm : List (ClassId × FieldType)) (hI : IM h0 v w0 tm) (hD0 : va_D (fun _ => True) w0) (n : Int32) (w : Int32) (hb_w : w = 0 ∨ w = 1) : Met l y_M_listen (cw_M_listen :: BIG) (rmk 5 0 0) (va_Pc [.ref h0, .int n, .int w] (fun U => U.heap.size = sz ∧ va_P D cls_ w0 U.heap ∧ va_K D cls_ tm U ∧ NK U)) (va_Qi (fun (r : Int32) (v2 : MS) => r = (F_M_listen v n w).1 ∧ v2 = (F_M_listen v n w).2) (atM D h0 (va_A w0 sz)) (va_A w0 sz)) 0 0 (va_A w0 sz) := by
  refine Met.ofW (cc := b_M_listen) (maxL := 4) (ret := (some .int)) (by decide) rfl ?_
  intro p e s m args below meth c s₁ B hml hv
  obtain ⟨rfl, hsz, hP, hK, hN⟩ := hv
  have hx := B.exec
  have hb := B.bytes
  have hr := B.returns
  have htB : ∀ w ∈ BIG, w.before _ s = true := fun w h => atoms_spec (ws := cw_M_listen :: BIG) B.pre w (List.mem_cons_of_mem _ h)
  have hown : s.vm.findClass R_M = some m.cls := findClass_of_methodNamed B.named
  have hlocks := B.notSynchronized
  have hD : va_D (va_A w0 sz) w0 := hD0.self
  have hS : va_S (va_A w0 sz) s.heap s.heap [] := va_S.rf
  obtain ⟨qq, cc, ff, fl, c0, hw0, rfl, hvn, hvf⟩ := hI
  have hP : va_P D cls_ (wMg h0 qq cc ff fl c0 (nI v.1) v.2.1) s.heap := by rw [← hw0]; exact hP
  have hD : va_D (va_A w0 sz) (wMg h0 qq cc ff fl c0 (nI v.1) v.2.1) := by rw [← hw0]; exact hD
  have hl := lv_entry ([.ref h0, .int n, .int w]) (n := 4) (Nat.le_of_ble_eq_true rfl)
  rw [lg_entry_eq]
  generalize (lg_sl ([.ref h0, .int n, .int w]) ++ List.replicate (4 - (lg_sl ([.ref h0, .int n, .int w])).length) Slot.unset).toArray = ls at hl ⊢
  have hl : lv_has ls 4 [(0, .ref h0), (1, .int n), (2, .int w)] := hl
  refine lv_aload_n hx hb d_M_listen_0 rfl (lv_at hl 0 rfl) ?_
  refine lv_iload_n hx hb d_M_listen_1 rfl (lv_at hl 1 rfl) ?_
  have hAh : va_A w0 sz h0 := hD.2 0 _ rfl
  refine va_calli (va_runV (As := [.int n]) (rest := []) ⟨hx, hb, hml, hown, htB⟩ (c_M_none l D h0 qq c0 (nI v.1) v.2.1 n) (cwV 1 htB g_M_75 rfl rfl rfl (by decide +kernel) ⟨Nat.le_of_ble_eq_true rfl, Nat.le_of_ble_eq_true rfl⟩) (preV (pone hP (k := 0) rfl) (hK.sub (tys' := []) [] rfl) hN (va_recv hK hP (ci := 2) (q0 := 0) rfl rfl)) rfl rfl hl.1 rfl (lv_room (Nat.le_of_ble_eq_true rfl)) d_M_listen_2 ⟨Nat.le_of_ble_eq_true rfl, Nat.le_of_ble_eq_true rfl⟩) hS (fun q _ h => by rw [h]; exact hAh) (fun q h => by rw [h]; exact hAh) (fun r0 z9 t H1 locs ht hvm hw hB hz1 hk1 hS => ?_)
  rw [ht] at hB
  obtain ⟨hP, hD⟩ := pcall (k := 0) hP hD rfl hk1 hB
  have hP : va_P D cls_ (wMg h0 qq cc ff fl 0 (nI v.1) v.2.1) H1 := hP
  have hD : va_D (va_A w0 sz) (wMg h0 qq cc ff fl 0 (nI v.1) v.2.1) := hD
  rcases hj : ix v.1 n with _ | j
  · have hw : r0 = 1 := hw.trans (mn_none hj)
    subst hw
    have hF : F_M_listen v n w = (-1, v) := by unfold F_M_listen; rw [hj]
    refine lv_if_eq (tgt := 10) hx hb d_M_listen_5 (by decide) (fun c9 => absurd c9 (by decide)) (fun _ => ?_)
    refine lv_iconst (v := (-1)) hx hb d_M_listen_8 (by decide) ?_
    exact W.iret hx hb hr (fun t ht hW => ⟨⟨-1, v, rfl, ⟨(congrArg Prod.fst hF).symm, (congrArg Prod.snd hF).symm⟩, _, _, ⟨qq, cc, ff, fl, 0, rfl, rfl, hvn, hvf⟩, by rw [ht]; exact hP, va_K.moved hW.alike hK, hD⟩, hS.F ht⟩) hS.2.2 d_M_listen_9
  · have hw : r0 = 0 := hw.trans (mn_some hj)
    subst hw
    obtain ⟨hjl, hnk⟩ := ix_some hvn hj
    have hnj : n.toNatClampNeg = j + 1 := by rw [hnk]; exact nI_clamp (by omega)
    have hin : vp_in n 101 := by rw [hnk]; exact vp_in_nI (by omega) (by decide)
    have hu0 := hvf (j + 1)
    obtain ⟨z, hu⟩ : ∃ z, v.2.2 (j + 1) = z := ⟨_, rfl⟩
    rw [hu] at hu0
    have hP : va_P D cls_ (wM h0 qq cc ff fl n.toNatClampNeg 0 (nI v.1) v.2.1 z) H1 := by rw [hu0, ← hnj, wM_self]; exact hP
    have hD : va_D (va_A w0 sz) (wM h0 qq cc ff fl n.toNatClampNeg 0 (nI v.1) v.2.1 z) := by rw [hu0, ← hnj, wM_self]; exact hD
    obtain ⟨a0, a1, a2, a3, a4, a5, a6, a7, a8, a9, a10, a11, a12, a13⟩ := z
    have hF : F_M_listen v n w = ((g_M_listen (a0, a1, a2, a3, a4, a5, a6, a7, a8, a9, a10, a11, a12, a13) w).1, ((v.1, v.2.1, va_up v.2.2 (j + 1) (g_M_listen (a0, a1, a2, a3, a4, a5, a6, a7, a8, a9, a10, a11, a12, a13) w).2) : MS)) := by unfold F_M_listen; rw [hj]; show ((g_M_listen (v.2.2 (j + 1)) w).1, ((v.1, v.2.1, va_up v.2.2 (j + 1) (g_M_listen (v.2.2 (j + 1)) w).2) : MS)) = _; rw [hu]
    have hc : g_M_listen (a0, a1, a2, a3, a4, a5, a6, a7, a8, a9, a10, a11, a12, a13) w = g_M_listen (a0, a1, a2, a3, a4, a5, a6, a7, a8, a9, a10, a11, a12, a13) w := rfl
    refine lv_if_eq (tgt := 10) hx hb d_M_listen_5 (by decide) (fun _ => ?_) (fun c9 => absurd (by decide) c9)
    refine lv_aload_n hx hb d_M_listen_10 rfl (lv_at hl 0 rfl) ?_
    refine va_get (D := D) (ci := 2) (v := .ref (qq 2)) (C := R_M) (T := F_M) (N := 17) hx hb htB uw_M hown hK hP 0 rfl rfl 4 (by decide) (htB _ fl_M_16) (fun _ h9 => h9) rfl d_M_listen_11 ?_
    refine lv_iload_n hx hb d_M_listen_14 rfl (lv_at hl 1 rfl) ?_
    refine va_zald hx hb hK hP 3 2 rfl rfl hin d_M_listen_15 ?_
    refine tpi a2 pk_us ?_
    refine lv_if_eq (tgt := 22) hx hb d_M_listen_16 (by decide) (fun c_1 => ?_) (fun c_1 => ?_)
    · refine lv_aload_n hx hb d_M_listen_22 rfl (lv_at hl 0 rfl) ?_
      refine va_get (D := D) (ci := 2) (v := .ref (qq 8)) (C := R_M) (T := F_M) (N := 17) hx hb htB uw_M hown hK hP 0 rfl rfl 10 (by decide) (htB _ fl_M_35) (fun _ h9 => h9) rfl d_M_listen_23 ?_
      refine lv_iload_n hx hb d_M_listen_26 rfl (lv_at hl 1 rfl) ?_
      refine va_zald hx hb hK hP 9 8 rfl rfl hin d_M_listen_27 ?_
      refine tpi a8 pk_us ?_
      refine lv_iload_n hx hb d_M_listen_28 rfl (lv_at hl 2 rfl) ?_
      refine lv_icmp_ne (tgt := 36) hx hb d_M_listen_29 (by decide) (fun c_2 => ?_) (fun c_2 => ?_)
      · refine lv_iconst (v := 1) hx hb d_M_listen_36 (by decide) ?_
        refine lv_istore_n (lv' := [(3, .int 1), (0, .ref h0), (1, .int n), (2, .int w)]) hx hb d_M_listen_37 rfl hl (by decide) rfl (fun ls hl => ?_)
        refine lv_aload_n hx hb d_M_listen_38 rfl (lv_at hl 1 rfl) ?_
        refine va_get (D := D) (ci := 2) (v := .ref (qq 8)) (C := R_M) (T := F_M) (N := 17) hx hb htB uw_M hown hK hP 0 rfl rfl 10 (by decide) (htB _ fl_M_35) (fun _ h9 => h9) rfl d_M_listen_39 ?_
        refine lv_iload_n hx hb d_M_listen_42 rfl (lv_at hl 2 rfl) ?_
        refine lv_iload_n hx hb d_M_listen_43 rfl (lv_at hl 3 rfl) ?_
        refine va_zast hx hb hK hP hD hS 9 8 rfl rfl hin d_M_listen_44 (fun H locs hP hD hS => ?_)
        rw [vnb hb_w] at hP hD
        have hP : va_P D cls_ (wM h0 qq cc ff fl n.toNatClampNeg 0 (nI v.1) v.2.1 (a0, a1, a2, a3, a4, a5, a6, a7, w, a9, a10, a11, a12, a13)) H := by have h9 := hP; rw [ws_8] at h9; exact h9
        have hD : va_D (va_A w0 sz) (wM h0 qq cc ff fl n.toNatClampNeg 0 (nI v.1) v.2.1 (a0, a1, a2, a3, a4, a5, a6, a7, w, a9, a10, a11, a12, a13)) := by have h9 := hD; rw [ws_8] at h9; exact h9
        refine lv_aload_n hx hb d_M_listen_45 rfl (lv_at hl 1 rfl) ?_
        refine va_get (D := D) (ci := 2) (v := .ref (qq 3)) (C := R_M) (T := F_M) (N := 17) hx hb htB uw_M hown hK hP 0 rfl rfl 5 (by decide) (htB _ fl_M_20) (fun _ h9 => h9) rfl d_M_listen_46 ?_
        refine lv_iload_n hx hb d_M_listen_49 rfl (lv_at hl 2 rfl) ?_
        refine lv_iconst (v := 0) hx hb d_M_listen_50 (by decide) ?_
        refine va_iast hx hb hK hP hD hS 4 3 rfl rfl hin d_M_listen_51 (fun H locs hP hD hS => ?_)
        have hP : va_P D cls_ (wM h0 qq cc ff fl n.toNatClampNeg 0 (nI v.1) v.2.1 (a0, a1, a2, 0, a4, a5, a6, a7, w, a9, a10, a11, a12, a13)) H := by have h9 := hP; rw [ws_3] at h9; exact h9
        have hD : va_D (va_A w0 sz) (wM h0 qq cc ff fl n.toNatClampNeg 0 (nI v.1) v.2.1 (a0, a1, a2, 0, a4, a5, a6, a7, w, a9, a10, a11, a12, a13)) := by have h9 := hD; rw [ws_3] at h9; exact h9
        refine lv_iload_n hx hb d_M_listen_52 rfl (lv_at hl 0 rfl) ?_
        have he : g_M_listen (a0, a1, a2, a3, a4, a5, a6, a7, a8, a9, a10, a11, a12, a13) w = (1, (a0, a1, a2, 0, a4, a5, a6, a7, w, a9, a10, a11, a12, a13)) := hc.trans ((if_pos c_1).trans (if_neg c_2))
        have he := hF.trans (congrArg (fun z : Int32 × MN => (z.1, ((v.1, v.2.1, va_up v.2.2 (j + 1) z.2) : MS))) he)
        exact W.iret hx hb hr (fun t ht hW => ⟨⟨1, (v.1, v.2.1, va_up v.2.2 (j + 1) (a0, a1, a2, 0, a4, a5, a6, a7, w, a9, a10, a11, a12, a13)), rfl, ⟨(congrArg Prod.fst he).symm, (congrArg Prod.snd he).symm⟩, _, _, ⟨qq, cc, uff ff n.toNatClampNeg (a0, a1, a2, 0, a4, a5, a6, a7, w, a9, a10, a11, a12, a13), vp_updL fl n.toNatClampNeg a9, 0, rfl, rfl, hvn, fun k9 => mfin hvf hnj k9⟩, by rw [ht]; exact hP, va_K.moved hW.alike hK, hD⟩, hS.F ht⟩) hS.2.2 d_M_listen_53
      · refine lv_iconst (v := 0) hx hb d_M_listen_32 (by decide) ?_
        refine lv_goto (tgt := 37) hx hb d_M_listen_33 (by decide) ?_
        refine lv_istore_n (lv' := [(3, .int 0), (0, .ref h0), (1, .int n), (2, .int w)]) hx hb d_M_listen_37 rfl hl (by decide) rfl (fun ls hl => ?_)
        refine lv_aload_n hx hb d_M_listen_38 rfl (lv_at hl 1 rfl) ?_
        refine va_get (D := D) (ci := 2) (v := .ref (qq 8)) (C := R_M) (T := F_M) (N := 17) hx hb htB uw_M hown hK hP 0 rfl rfl 10 (by decide) (htB _ fl_M_35) (fun _ h9 => h9) rfl d_M_listen_39 ?_
        refine lv_iload_n hx hb d_M_listen_42 rfl (lv_at hl 2 rfl) ?_
        refine lv_iload_n hx hb d_M_listen_43 rfl (lv_at hl 3 rfl) ?_
        refine va_zast hx hb hK hP hD hS 9 8 rfl rfl hin d_M_listen_44 (fun H locs hP hD hS => ?_)
        rw [vnb hb_w] at hP hD
        have hP : va_P D cls_ (wM h0 qq cc ff fl n.toNatClampNeg 0 (nI v.1) v.2.1 (a0, a1, a2, a3, a4, a5, a6, a7, w, a9, a10, a11, a12, a13)) H := by have h9 := hP; rw [ws_8] at h9; exact h9
        have hD : va_D (va_A w0 sz) (wM h0 qq cc ff fl n.toNatClampNeg 0 (nI v.1) v.2.1 (a0, a1, a2, a3, a4, a5, a6, a7, w, a9, a10, a11, a12, a13)) := by have h9 := hD; rw [ws_8] at h9; exact h9
        refine lv_aload_n hx hb d_M_listen_45 rfl (lv_at hl 1 rfl) ?_
        refine va_get (D := D) (ci := 2) (v := .ref (qq 3)) (C := R_M) (T := F_M) (N := 17) hx hb htB uw_M hown hK hP 0 rfl rfl 5 (by decide) (htB _ fl_M_20) (fun _ h9 => h9) rfl d_M_listen_46 ?_
        refine lv_iload_n hx hb d_M_listen_49 rfl (lv_at hl 2 rfl) ?_
        refine lv_iconst (v := 0) hx hb d_M_listen_50 (by decide) ?_
        refine va_iast hx hb hK hP hD hS 4 3 rfl rfl hin d_M_listen_51 (fun H locs hP hD hS => ?_)
        have hP : va_P D cls_ (wM h0 qq cc ff fl n.toNatClampNeg 0 (nI v.1) v.2.1 (a0, a1, a2, 0, a4, a5, a6, a7, w, a9, a10, a11, a12, a13)) H := by have h9 := hP; rw [ws_3] at h9; exact h9
        have hD : va_D (va_A w0 sz) (wM h0 qq cc ff fl n.toNatClampNeg 0 (nI v.1) v.2.1 (a0, a1, a2, 0, a4, a5, a6, a7, w, a9, a10, a11, a12, a13)) := by have h9 := hD; rw [ws_3] at h9; exact h9
        refine lv_iload_n hx hb d_M_listen_52 rfl (lv_at hl 0 rfl) ?_
        have he : g_M_listen (a0, a1, a2, a3, a4, a5, a6, a7, a8, a9, a10, a11, a12, a13) w = (0, (a0, a1, a2, 0, a4, a5, a6, a7, w, a9, a10, a11, a12, a13)) := hc.trans ((if_pos c_1).trans (if_pos c_2))
        have he := hF.trans (congrArg (fun z : Int32 × MN => (z.1, ((v.1, v.2.1, va_up v.2.2 (j + 1) z.2) : MS))) he)
        exact W.iret hx hb hr (fun t ht hW => ⟨⟨0, (v.1, v.2.1, va_up v.2.2 (j + 1) (a0, a1, a2, 0, a4, a5, a6, a7, w, a9, a10, a11, a12, a13)), rfl, ⟨(congrArg Prod.fst he).symm, (congrArg Prod.snd he).symm⟩, _, _, ⟨qq, cc, uff ff n.toNatClampNeg (a0, a1, a2, 0, a4, a5, a6, a7, w, a9, a10, a11, a12, a13), vp_updL fl n.toNatClampNeg a9, 0, rfl, rfl, hvn, fun k9 => mfin hvf hnj k9⟩, by rw [ht]; exact hP, va_K.moved hW.alike hK, hD⟩, hS.F ht⟩) hS.2.2 d_M_listen_53
    · refine lv_bipush (v := (-3)) hx hb d_M_listen_19 (by decide) ?_
      have he : g_M_listen (a0, a1, a2, a3, a4, a5, a6, a7, a8, a9, a10, a11, a12, a13) w = ((-3), (a0, a1, a2, a3, a4, a5, a6, a7, a8, a9, a10, a11, a12, a13)) := hc.trans (if_neg c_1)
      have he := hF.trans (congrArg (fun z : Int32 × MN => (z.1, ((v.1, v.2.1, va_up v.2.2 (j + 1) z.2) : MS))) he)
      exact W.iret hx hb hr (fun t ht hW => ⟨⟨(-3), (v.1, v.2.1, va_up v.2.2 (j + 1) (a0, a1, a2, a3, a4, a5, a6, a7, a8, a9, a10, a11, a12, a13)), rfl, ⟨(congrArg Prod.fst he).symm, (congrArg Prod.snd he).symm⟩, _, _, ⟨qq, cc, uff ff n.toNatClampNeg (a0, a1, a2, a3, a4, a5, a6, a7, a8, a9, a10, a11, a12, a13), vp_updL fl n.toNatClampNeg a9, 0, rfl, rfl, hvn, fun k9 => mfin hvf hnj k9⟩, by rw [ht]; exact hP, va_K.moved hW.alike hK, hD⟩, hS.F ht⟩) hS.2.2 d_M_listen_21

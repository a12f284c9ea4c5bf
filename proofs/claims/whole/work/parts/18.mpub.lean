def g_M_event_k5 (u : MN) (k : Int32) (w : Int32) : Int32 × MN := let b5_0 := u.1; let b5_1 := u.2.1; let b5_2 := u.2.2.1; let b5_3 := u.2.2.2.1; let b5_4 := u.2.2.2.2.1; let b5_5 := u.2.2.2.2.2.1; let b5_6 := u.2.2.2.2.2.2.1; let b5_7 := u.2.2.2.2.2.2.2.1; let b5_8 := u.2.2.2.2.2.2.2.2.1; let b5_9 := u.2.2.2.2.2.2.2.2.2.1; let b5_10 := u.2.2.2.2.2.2.2.2.2.2.1; let b5_11 := u.2.2.2.2.2.2.2.2.2.2.2.1; let b5_12 := u.2.2.2.2.2.2.2.2.2.2.2.2.1; let b5_13 := u.2.2.2.2.2.2.2.2.2.2.2.2.2; (f_M_is (b5_0, b5_1, b5_2, b5_3, b5_4, b5_5, b5_6, b5_7, b5_8, b5_9, b5_10, b5_11, b5_12, b5_13), (b5_0, b5_1, b5_2, b5_3, b5_4, b5_5, b5_6, b5_7, b5_8, b5_9, b5_10, b5_11, b5_12, b5_13))
def g_M_event_k8 (u : MN) (k : Int32) (w : Int32) : Int32 × MN := let b8_0 := u.1; let b8_1 := u.2.1; let b8_2 := u.2.2.1; let b8_3 := u.2.2.2.1; let b8_4 := u.2.2.2.2.1; let b8_5 := u.2.2.2.2.2.1; let b8_6 := u.2.2.2.2.2.2.1; let b8_7 := u.2.2.2.2.2.2.2.1; let b8_8 := u.2.2.2.2.2.2.2.2.1; let b8_9 := u.2.2.2.2.2.2.2.2.2.1; let b8_10 := u.2.2.2.2.2.2.2.2.2.2.1; let b8_11 := u.2.2.2.2.2.2.2.2.2.2.2.1; let b8_12 := u.2.2.2.2.2.2.2.2.2.2.2.2.1; let b8_13 := u.2.2.2.2.2.2.2.2.2.2.2.2.2; (f_M_is (b8_0, b8_1, b8_2, b8_3, b8_4, b8_5, b8_6, b8_7, b8_8, b8_9, b8_10, b8_11, b8_12, b8_13), (b8_0, b8_1, b8_2, b8_3, b8_4, b8_5, b8_6, b8_7, b8_8, b8_9, b8_10, b8_11, b8_12, b8_13))
def g_M_event (u : MN) (k : Int32) (w : Int32) : Int32 × MN := let a0 := u.1; let a1 := u.2.1; let a2 := u.2.2.1; let a3 := u.2.2.2.1; let a4 := u.2.2.2.2.1; let a5 := u.2.2.2.2.2.1; let a6 := u.2.2.2.2.2.2.1; let a7 := u.2.2.2.2.2.2.2.1; let a8 := u.2.2.2.2.2.2.2.2.1; let a9 := u.2.2.2.2.2.2.2.2.2.1; let a10 := u.2.2.2.2.2.2.2.2.2.2.1; let a11 := u.2.2.2.2.2.2.2.2.2.2.2.1; let a12 := u.2.2.2.2.2.2.2.2.2.2.2.2.1; let a13 := u.2.2.2.2.2.2.2.2.2.2.2.2.2; if k < 0 then ((-2), (a0, a1, a2, a3, a4, a5, a6, a7, a8, a9, a10, a11, a12, a13)) else (if k ≤ 10 then (if a2 = 0 then (if a8 = 0 then (g_M_event_k5 (f_M_happens (a0, a1, a2, a3, a4, a5, a6, a7, a8, a9, a10, a11, a12, a13) k w) k w) else (if w = 0 then (g_M_event_k8 (f_M_happens (a0, a1, a2, a3, a4, a5, a6, a7, a8, a9, a10, a11, a12, a13) k w) k w) else ((-3), (a0, a1, a2, a3, a4, a5, a6, a7, a8, a9, a10, a11, a12, a13)))) else ((-3), (a0, a1, a2, a3, a4, a5, a6, a7, a8, a9, a10, a11, a12, a13))) else ((-2), (a0, a1, a2, a3, a4, a5, a6, a7, a8, a9, a10, a11, a12, a13)))
def F_M_event (v : MS) (n : Int32) (k : Int32) (w : Int32) : Int32 × MS := match ix v.1 n with
  | none => (-1, v)
  | some j => ((g_M_event (v.2.2 (j + 1)) k w).1, ((v.1, v.2.1, va_up v.2.2 (j + 1) (g_M_event (v.2.2 (j + 1)) k w).2) : MS))
set_option maxHeartbeats 4000000 in
set_option maxRecDepth 100000 in
theorem c_M_event (l : Launch) (D : va_G) (h0 sz : Nat) (v : MS) (w0 : va_W) (tm : List (ClassId × FieldType)) (hI : IM h0 v w0 tm) (hD0 : va_D (fun _ => True) w0) (n : Int32) (k : Int32) (w : Int32) (hb_w : w = 0 ∨ w = 1) : Met l y_M_event (cw_M_event :: BIG) (rmk 5 0 0) (va_Pc [.ref h0, .int n, .int k, .int w] (fun U => U.heap.size = sz ∧ va_P D cls_ w0 U.heap ∧ va_K D cls_ tm U ∧ NK U)) (va_Qi (fun (r : Int32) (v2 : MS) => r = (F_M_event v n k w).1 ∧ v2 = (F_M_event v n k w).2) (atM D h0 (va_A w0 sz)) (va_A w0 sz)) 0 0 (va_A w0 sz) := by
  refine Met.ofW (cc := b_M_event) (maxL := 4) (ret := (some .int)) (by decide) rfl ?_
  intro p e s m args below meth c s₁ B hml hv
  obtain ⟨rfl, hsz, hP, hK, hN⟩ := hv
  have hx := B.exec
  have hb := B.bytes
  have hr := B.returns
  have htB : ∀ w ∈ BIG, w.before _ s = true := fun w h => atoms_spec (ws := cw_M_event :: BIG) B.pre w (List.mem_cons_of_mem _ h)
  have hown : s.vm.findClass R_M = some m.cls := findClass_of_methodNamed B.named
  have hlocks := B.notSynchronized
  have hD : va_D (va_A w0 sz) w0 := hD0.self
  have hS : va_S (va_A w0 sz) s.heap s.heap [] := va_S.rf
  obtain ⟨qq, cc, ff, fl, c0, hw0, rfl, hvn, hvf⟩ := hI
  have hP : va_P D cls_ (wMg h0 qq cc ff fl c0 (nI v.1) v.2.1) s.heap := by rw [← hw0]; exact hP
  have hD : va_D (va_A w0 sz) (wMg h0 qq cc ff fl c0 (nI v.1) v.2.1) := by rw [← hw0]; exact hD
  have hl := lv_entry ([.ref h0, .int n, .int k, .int w]) (n := 4) (Nat.le_of_ble_eq_true rfl)
  rw [lg_entry_eq]
  generalize (lg_sl ([.ref h0, .int n, .int k, .int w]) ++ List.replicate (4 - (lg_sl ([.ref h0, .int n, .int k, .int w])).length) Slot.unset).toArray = ls at hl ⊢
  have hl : lv_has ls 4 [(0, .ref h0), (1, .int n), (2, .int k), (3, .int w)] := hl
  refine lv_aload_n hx hb d_M_event_0 rfl (lv_at hl 0 rfl) ?_
  refine lv_iload_n hx hb d_M_event_1 rfl (lv_at hl 1 rfl) ?_
  have hAh : va_A w0 sz h0 := hD.2 0 _ rfl
  refine va_calli (va_runV (As := [.int n]) (rest := []) ⟨hx, hb, hml, hown, htB⟩ (c_M_none l D h0 qq c0 (nI v.1) v.2.1 n) (cwV 1 htB g_M_75 rfl rfl rfl (by decide +kernel) ⟨Nat.le_of_ble_eq_true rfl, Nat.le_of_ble_eq_true rfl⟩) (preV (pone hP (k := 0) rfl) (hK.sub (tys' := []) [] rfl) hN (va_recv hK hP (ci := 2) (q0 := 0) rfl rfl)) rfl rfl hl.1 rfl (lv_room (Nat.le_of_ble_eq_true rfl)) d_M_event_2 ⟨Nat.le_of_ble_eq_true rfl, Nat.le_of_ble_eq_true rfl⟩) hS (fun q _ h => by rw [h]; exact hAh) (fun q h => by rw [h]; exact hAh) (fun r0 z9 t H1 locs ht hvm hw hB hz1 hk1 hS => ?_)
  rw [ht] at hB
  obtain ⟨hP, hD⟩ := pcall (k := 0) hP hD rfl hk1 hB
  have hP : va_P D cls_ (wMg h0 qq cc ff fl 0 (nI v.1) v.2.1) H1 := hP
  have hD : va_D (va_A w0 sz) (wMg h0 qq cc ff fl 0 (nI v.1) v.2.1) := hD
  rcases hj : ix v.1 n with _ | j
  · have hw : r0 = 1 := hw.trans (mn_none hj)
    subst hw
    have hF : F_M_event v n k w = (-1, v) := by unfold F_M_event; rw [hj]
    refine lv_if_eq (tgt := 10) hx hb d_M_event_5 (by decide) (fun c9 => absurd c9 (by decide)) (fun _ => ?_)
    refine lv_iconst (v := (-1)) hx hb d_M_event_8 (by decide) ?_
    exact W.iret hx hb hr (fun t ht hW => ⟨⟨-1, v, rfl, ⟨(congrArg Prod.fst hF).symm, (congrArg Prod.snd hF).symm⟩, _, _, ⟨qq, cc, ff, fl, 0, rfl, rfl, hvn, hvf⟩, by rw [ht]; exact hP, va_K.moved hW.alike hK, hD⟩, hS.F ht⟩) hS.2.2 d_M_event_9
  · have hw : r0 = 0 := hw.trans (mn_some hj)
    subst hw
    obtain ⟨hjl, hnk⟩ := ix_some hvn hj
    have hnj : n.toNatClampNeg = j + 1 := by rw [hnk]; exact nI_clamp (by omega)
    have hin : vp_in n 101 := by rw [hnk]; exact vp_in_nI (by omega) (by decide)
    have hu0 := hvf (j + 1)
    obtain ⟨z, hu⟩ : ∃ z, v.2.2 (j + 1) = z := ⟨_, rfl⟩
    rw [hu] at hu0
    have hP : va_P D cls_ (wM h0 qq cc ff fl n.toNatClampNeg 0 (nI v.1) v.2.1 z) H1 := by rw [hu0, ← hnj, wM_self]; exact hP
    have hD : va_D (va_A w0 sz) (wM h0 qq cc ff fl n.toNatClampNeg 0 (nI v.1) v.2.1 z) := by rw [hu0, ← hnj, wM_self]; exact hD
    obtain ⟨a0, a1, a2, a3, a4, a5, a6, a7, a8, a9, a10, a11, a12, a13⟩ := z
    have hF : F_M_event v n k w = ((g_M_event (a0, a1, a2, a3, a4, a5, a6, a7, a8, a9, a10, a11, a12, a13) k w).1, ((v.1, v.2.1, va_up v.2.2 (j + 1) (g_M_event (a0, a1, a2, a3, a4, a5, a6, a7, a8, a9, a10, a11, a12, a13) k w).2) : MS)) := by unfold F_M_event; rw [hj]; show ((g_M_event (v.2.2 (j + 1)) k w).1, ((v.1, v.2.1, va_up v.2.2 (j + 1) (g_M_event (v.2.2 (j + 1)) k w).2) : MS)) = _; rw [hu]
    have hc : g_M_event (a0, a1, a2, a3, a4, a5, a6, a7, a8, a9, a10, a11, a12, a13) k w = g_M_event (a0, a1, a2, a3, a4, a5, a6, a7, a8, a9, a10, a11, a12, a13) k w := rfl
    refine lv_if_eq (tgt := 10) hx hb d_M_event_5 (by decide) (fun _ => ?_) (fun c9 => absurd (by decide) c9)
    refine lv_iload_n hx hb d_M_event_10 rfl (lv_at hl 2 rfl) ?_
    refine lv_if_lt (tgt := 20) hx hb d_M_event_11 (by decide) (fun c_1 => ?_) (fun c_1 => ?_)
    · refine lv_bipush (v := (-2)) hx hb d_M_event_20 (by decide) ?_
      have he : g_M_event (a0, a1, a2, a3, a4, a5, a6, a7, a8, a9, a10, a11, a12, a13) k w = ((-2), (a0, a1, a2, a3, a4, a5, a6, a7, a8, a9, a10, a11, a12, a13)) := hc.trans (if_pos c_1)
      have he := hF.trans (congrArg (fun z : Int32 × MN => (z.1, ((v.1, v.2.1, va_up v.2.2 (j + 1) z.2) : MS))) he)
      exact W.iret hx hb hr (fun t ht hW => ⟨⟨(-2), (v.1, v.2.1, va_up v.2.2 (j + 1) (a0, a1, a2, a3, a4, a5, a6, a7, a8, a9, a10, a11, a12, a13)), rfl, ⟨(congrArg Prod.fst he).symm, (congrArg Prod.snd he).symm⟩, _, _, ⟨qq, cc, uff ff n.toNatClampNeg (a0, a1, a2, a3, a4, a5, a6, a7, a8, a9, a10, a11, a12, a13), vp_updL fl n.toNatClampNeg a9, 0, rfl, rfl, hvn, fun k9 => mfin hvf hnj k9⟩, by rw [ht]; exact hP, va_K.moved hW.alike hK, hD⟩, hS.F ht⟩) hS.2.2 d_M_event_22
    · refine lv_iload_n hx hb d_M_event_14 rfl (lv_at hl 2 rfl) ?_
      refine lv_bipush (v := 10) hx hb d_M_event_15 (by decide) ?_
      refine lv_icmp_le (tgt := 23) hx hb d_M_event_17 (by decide) (fun c_2 => ?_) (fun c_2 => ?_)
      · refine lv_aload_n hx hb d_M_event_23 rfl (lv_at hl 0 rfl) ?_
        refine va_get (D := D) (ci := 2) (v := .ref (qq 2)) (C := R_M) (T := F_M) (N := 17) hx hb htB uw_M hown hK hP 0 rfl rfl 4 (by decide) (htB _ fl_M_16) (fun _ h9 => h9) rfl d_M_event_24 ?_
        refine lv_iload_n hx hb d_M_event_27 rfl (lv_at hl 1 rfl) ?_
        refine va_zald hx hb hK hP 3 2 rfl rfl hin d_M_event_28 ?_
        refine tpi a2 pk_us ?_
        refine lv_if_ne (tgt := 45) hx hb d_M_event_29 (by decide) (fun c_3 => ?_) (fun c_3 => ?_)
        · refine lv_bipush (v := (-3)) hx hb d_M_event_45 (by decide) ?_
          have he : g_M_event (a0, a1, a2, a3, a4, a5, a6, a7, a8, a9, a10, a11, a12, a13) k w = ((-3), (a0, a1, a2, a3, a4, a5, a6, a7, a8, a9, a10, a11, a12, a13)) := hc.trans ((if_neg c_1).trans ((if_pos c_2).trans (if_neg c_3)))
          have he := hF.trans (congrArg (fun z : Int32 × MN => (z.1, ((v.1, v.2.1, va_up v.2.2 (j + 1) z.2) : MS))) he)
          exact W.iret hx hb hr (fun t ht hW => ⟨⟨(-3), (v.1, v.2.1, va_up v.2.2 (j + 1) (a0, a1, a2, a3, a4, a5, a6, a7, a8, a9, a10, a11, a12, a13)), rfl, ⟨(congrArg Prod.fst he).symm, (congrArg Prod.snd he).symm⟩, _, _, ⟨qq, cc, uff ff n.toNatClampNeg (a0, a1, a2, a3, a4, a5, a6, a7, a8, a9, a10, a11, a12, a13), vp_updL fl n.toNatClampNeg a9, 0, rfl, rfl, hvn, fun k9 => mfin hvf hnj k9⟩, by rw [ht]; exact hP, va_K.moved hW.alike hK, hD⟩, hS.F ht⟩) hS.2.2 d_M_event_47
        · refine lv_aload_n hx hb d_M_event_32 rfl (lv_at hl 0 rfl) ?_
          refine va_get (D := D) (ci := 2) (v := .ref (qq 8)) (C := R_M) (T := F_M) (N := 17) hx hb htB uw_M hown hK hP 0 rfl rfl 10 (by decide) (htB _ fl_M_35) (fun _ h9 => h9) rfl d_M_event_33 ?_
          refine lv_iload_n hx hb d_M_event_36 rfl (lv_at hl 1 rfl) ?_
          refine va_zald hx hb hK hP 9 8 rfl rfl hin d_M_event_37 ?_
          refine tpi a8 pk_us ?_
          refine lv_if_eq (tgt := 48) hx hb d_M_event_38 (by decide) (fun c_4 => ?_) (fun c_4 => ?_)
          · refine lv_aload_n hx hb d_M_event_48 rfl (lv_at hl 0 rfl) ?_
            refine lv_iload_n hx hb d_M_event_49 rfl (lv_at hl 1 rfl) ?_
            refine lv_iload_n hx hb d_M_event_50 rfl (lv_at hl 2 rfl) ?_
            refine lv_iload_n hx hb d_M_event_51 rfl (lv_at hl 3 rfl) ?_
            refine va_callv (va_runV (As := [.int n, .int k, .int w]) (rest := []) ⟨hx, hb, hml, hown, htB⟩ (c_M_happens l D h0 qq cc ff fl 0 (nI v.1) v.2.1 n hin (a0, a1, a2, a3, a4, a5, a6, a7, a8, a9, a10, a11, a12, a13) k w hb_w (va_A w0 sz) hD) (cwV 3 htB g_M_78 rfl rfl rfl (by decide +kernel) ⟨Nat.le_of_ble_eq_true rfl, Nat.le_of_ble_eq_true rfl⟩) (preV hP hK hN (va_recv hK hP (ci := 2) (q0 := 0) rfl rfl)) rfl rfl hl.1 rfl (lv_room (Nat.le_of_ble_eq_true rfl)) d_M_event_52 ⟨Nat.le_of_ble_eq_true rfl, Nat.le_of_ble_eq_true rfl⟩) hS (fun _ _ h => h) (fun _ h => h) (fun u9 t H locs ht hvm hw hP hz1 hk1 hS => ?_)
            rw [ht] at hP
            obtain ⟨b5_0, b5_1, b5_2, b5_3, b5_4, b5_5, b5_6, b5_7, b5_8, b5_9, b5_10, b5_11, b5_12, b5_13⟩ := u9
            have hP : va_P D cls_ (wM h0 qq cc ff fl n.toNatClampNeg 0 (nI v.1) v.2.1 (b5_0, b5_1, b5_2, b5_3, b5_4, b5_5, b5_6, b5_7, b5_8, b5_9, b5_10, b5_11, b5_12, b5_13)) _ := hP
            have hD : va_D (va_A w0 sz) (wM h0 qq cc ff fl n.toNatClampNeg 0 (nI v.1) v.2.1 (b5_0, b5_1, b5_2, b5_3, b5_4, b5_5, b5_6, b5_7, b5_8, b5_9, b5_10, b5_11, b5_12, b5_13)) := wM_D hD
            have hc : g_M_event (a0, a1, a2, a3, a4, a5, a6, a7, a8, a9, a10, a11, a12, a13) k w = g_M_event_k5 (b5_0, b5_1, b5_2, b5_3, b5_4, b5_5, b5_6, b5_7, b5_8, b5_9, b5_10, b5_11, b5_12, b5_13) k w := (hc.trans ((if_neg c_1).trans ((if_pos c_2).trans ((if_pos c_3).trans (if_pos c_4))))).trans (congrArg (fun z => g_M_event_k5 z k w) hw.symm)
            refine lv_aload_n hx hb d_M_event_55 rfl (lv_at hl 0 rfl) ?_
            refine lv_iload_n hx hb d_M_event_56 rfl (lv_at hl 1 rfl) ?_
            refine vp_callSi (va_Run.run (va_runV (As := [.int n]) (rest := []) ⟨hx, hb, hml, hown, htB⟩ (c_M_is l D h0 qq cc ff fl 0 (nI v.1) v.2.1 n hin (b5_0, b5_1, b5_2, b5_3, b5_4, b5_5, b5_6, b5_7, b5_8, b5_9, b5_10, b5_11, b5_12, b5_13)) (cwV 1 htB g_M_63 rfl rfl rfl (by decide +kernel) ⟨Nat.le_of_ble_eq_true rfl, Nat.le_of_ble_eq_true rfl⟩) (preV hP hK hN (va_recv hK hP (ci := 2) (q0 := 0) rfl rfl)) rfl rfl hl.1 rfl (lv_room (Nat.le_of_ble_eq_true rfl)) d_M_event_57 ⟨Nat.le_of_ble_eq_true rfl, Nat.le_of_ble_eq_true rfl⟩)) (fun r_6 hr_6 => ?_)
            subst hr_6
            have he : g_M_event (a0, a1, a2, a3, a4, a5, a6, a7, a8, a9, a10, a11, a12, a13) k w = (f_M_is (b5_0, b5_1, b5_2, b5_3, b5_4, b5_5, b5_6, b5_7, b5_8, b5_9, b5_10, b5_11, b5_12, b5_13), (b5_0, b5_1, b5_2, b5_3, b5_4, b5_5, b5_6, b5_7, b5_8, b5_9, b5_10, b5_11, b5_12, b5_13)) := hc.trans (rfl)
            have he := hF.trans (congrArg (fun z : Int32 × MN => (z.1, ((v.1, v.2.1, va_up v.2.2 (j + 1) z.2) : MS))) he)
            exact W.iret hx hb hr (fun t ht hW => ⟨⟨f_M_is (b5_0, b5_1, b5_2, b5_3, b5_4, b5_5, b5_6, b5_7, b5_8, b5_9, b5_10, b5_11, b5_12, b5_13), (v.1, v.2.1, va_up v.2.2 (j + 1) (b5_0, b5_1, b5_2, b5_3, b5_4, b5_5, b5_6, b5_7, b5_8, b5_9, b5_10, b5_11, b5_12, b5_13)), rfl, ⟨(congrArg Prod.fst he).symm, (congrArg Prod.snd he).symm⟩, _, _, ⟨qq, cc, uff ff n.toNatClampNeg (b5_0, b5_1, b5_2, b5_3, b5_4, b5_5, b5_6, b5_7, b5_8, b5_9, b5_10, b5_11, b5_12, b5_13), vp_updL fl n.toNatClampNeg b5_9, 0, rfl, rfl, hvn, fun k9 => mfin hvf hnj k9⟩, by rw [ht]; exact hP, va_K.moved hW.alike hK, hD⟩, hS.F ht⟩) hS.2.2 d_M_event_60
          · refine lv_iload_n hx hb d_M_event_41 rfl (lv_at hl 3 rfl) ?_
            refine lv_if_eq (tgt := 48) hx hb d_M_event_42 (by decide) (fun c_7 => ?_) (fun c_7 => ?_)
            · refine lv_aload_n hx hb d_M_event_48 rfl (lv_at hl 0 rfl) ?_
              refine lv_iload_n hx hb d_M_event_49 rfl (lv_at hl 1 rfl) ?_
              refine lv_iload_n hx hb d_M_event_50 rfl (lv_at hl 2 rfl) ?_
              refine lv_iload_n hx hb d_M_event_51 rfl (lv_at hl 3 rfl) ?_
              refine va_callv (va_runV (As := [.int n, .int k, .int w]) (rest := []) ⟨hx, hb, hml, hown, htB⟩ (c_M_happens l D h0 qq cc ff fl 0 (nI v.1) v.2.1 n hin (a0, a1, a2, a3, a4, a5, a6, a7, a8, a9, a10, a11, a12, a13) k w hb_w (va_A w0 sz) hD) (cwV 3 htB g_M_78 rfl rfl rfl (by decide +kernel) ⟨Nat.le_of_ble_eq_true rfl, Nat.le_of_ble_eq_true rfl⟩) (preV hP hK hN (va_recv hK hP (ci := 2) (q0 := 0) rfl rfl)) rfl rfl hl.1 rfl (lv_room (Nat.le_of_ble_eq_true rfl)) d_M_event_52 ⟨Nat.le_of_ble_eq_true rfl, Nat.le_of_ble_eq_true rfl⟩) hS (fun _ _ h => h) (fun _ h => h) (fun u9 t H locs ht hvm hw hP hz1 hk1 hS => ?_)
              rw [ht] at hP
              obtain ⟨b8_0, b8_1, b8_2, b8_3, b8_4, b8_5, b8_6, b8_7, b8_8, b8_9, b8_10, b8_11, b8_12, b8_13⟩ := u9
              have hP : va_P D cls_ (wM h0 qq cc ff fl n.toNatClampNeg 0 (nI v.1) v.2.1 (b8_0, b8_1, b8_2, b8_3, b8_4, b8_5, b8_6, b8_7, b8_8, b8_9, b8_10, b8_11, b8_12, b8_13)) _ := hP
              have hD : va_D (va_A w0 sz) (wM h0 qq cc ff fl n.toNatClampNeg 0 (nI v.1) v.2.1 (b8_0, b8_1, b8_2, b8_3, b8_4, b8_5, b8_6, b8_7, b8_8, b8_9, b8_10, b8_11, b8_12, b8_13)) := wM_D hD
              have hc : g_M_event (a0, a1, a2, a3, a4, a5, a6, a7, a8, a9, a10, a11, a12, a13) k w = g_M_event_k8 (b8_0, b8_1, b8_2, b8_3, b8_4, b8_5, b8_6, b8_7, b8_8, b8_9, b8_10, b8_11, b8_12, b8_13) k w := (hc.trans ((if_neg c_1).trans ((if_pos c_2).trans ((if_pos c_3).trans ((if_neg c_4).trans (if_pos c_7)))))).trans (congrArg (fun z => g_M_event_k8 z k w) hw.symm)
              refine lv_aload_n hx hb d_M_event_55 rfl (lv_at hl 0 rfl) ?_
              refine lv_iload_n hx hb d_M_event_56 rfl (lv_at hl 1 rfl) ?_
              refine vp_callSi (va_Run.run (va_runV (As := [.int n]) (rest := []) ⟨hx, hb, hml, hown, htB⟩ (c_M_is l D h0 qq cc ff fl 0 (nI v.1) v.2.1 n hin (b8_0, b8_1, b8_2, b8_3, b8_4, b8_5, b8_6, b8_7, b8_8, b8_9, b8_10, b8_11, b8_12, b8_13)) (cwV 1 htB g_M_63 rfl rfl rfl (by decide +kernel) ⟨Nat.le_of_ble_eq_true rfl, Nat.le_of_ble_eq_true rfl⟩) (preV hP hK hN (va_recv hK hP (ci := 2) (q0 := 0) rfl rfl)) rfl rfl hl.1 rfl (lv_room (Nat.le_of_ble_eq_true rfl)) d_M_event_57 ⟨Nat.le_of_ble_eq_true rfl, Nat.le_of_ble_eq_true rfl⟩)) (fun r_9 hr_9 => ?_)
              subst hr_9
              have he : g_M_event (a0, a1, a2, a3, a4, a5, a6, a7, a8, a9, a10, a11, a12, a13) k w = (f_M_is (b8_0, b8_1, b8_2, b8_3, b8_4, b8_5, b8_6, b8_7, b8_8, b8_9, b8_10, b8_11, b8_12, b8_13), (b8_0, b8_1, b8_2, b8_3, b8_4, b8_5, b8_6, b8_7, b8_8, b8_9, b8_10, b8_11, b8_12, b8_13)) := hc.trans (rfl)
              have he := hF.trans (congrArg (fun z : Int32 × MN => (z.1, ((v.1, v.2.1, va_up v.2.2 (j + 1) z.2) : MS))) he)
              exact W.iret hx hb hr (fun t ht hW => ⟨⟨f_M_is (b8_0, b8_1, b8_2, b8_3, b8_4, b8_5, b8_6, b8_7, b8_8, b8_9, b8_10, b8_11, b8_12, b8_13), (v.1, v.2.1, va_up v.2.2 (j + 1) (b8_0, b8_1, b8_2, b8_3, b8_4, b8_5, b8_6, b8_7, b8_8, b8_9, b8_10, b8_11, b8_12, b8_13)), rfl, ⟨(congrArg Prod.fst he).symm, (congrArg Prod.snd he).symm⟩, _, _, ⟨qq, cc, uff ff n.toNatClampNeg (b8_0, b8_1, b8_2, b8_3, b8_4, b8_5, b8_6, b8_7, b8_8, b8_9, b8_10, b8_11, b8_12, b8_13), vp_updL fl n.toNatClampNeg b8_9, 0, rfl, rfl, hvn, fun k9 => mfin hvf hnj k9⟩, by rw [ht]; exact hP, va_K.moved hW.alike hK, hD⟩, hS.F ht⟩) hS.2.2 d_M_event_60
            · refine lv_bipush (v := (-3)) hx hb d_M_event_45 (by decide) ?_
              have he : g_M_event (a0, a1, a2, a3, a4, a5, a6, a7, a8, a9, a10, a11, a12, a13) k w = ((-3), (a0, a1, a2, a3, a4, a5, a6, a7, a8, a9, a10, a11, a12, a13)) := hc.trans ((if_neg c_1).trans ((if_pos c_2).trans ((if_pos c_3).trans ((if_neg c_4).trans (if_neg c_7)))))
              have he := hF.trans (congrArg (fun z : Int32 × MN => (z.1, ((v.1, v.2.1, va_up v.2.2 (j + 1) z.2) : MS))) he)
              exact W.iret hx hb hr (fun t ht hW => ⟨⟨(-3), (v.1, v.2.1, va_up v.2.2 (j + 1) (a0, a1, a2, a3, a4, a5, a6, a7, a8, a9, a10, a11, a12, a13)), rfl, ⟨(congrArg Prod.fst he).symm, (congrArg Prod.snd he).symm⟩, _, _, ⟨qq, cc, uff ff n.toNatClampNeg (a0, a1, a2, a3, a4, a5, a6, a7, a8, a9, a10, a11, a12, a13), vp_updL fl n.toNatClampNeg a9, 0, rfl, rfl, hvn, fun k9 => mfin hvf hnj k9⟩, by rw [ht]; exact hP, va_K.moved hW.alike hK, hD⟩, hS.F ht⟩) hS.2.2 d_M_event_47
      · refine lv_bipush (v := (-2)) hx hb d_M_event_20 (by decide) ?_
        have he : g_M_event (a0, a1, a2, a3, a4, a5, a6, a7, a8, a9, a10, a11, a12, a13) k w = ((-2), (a0, a1, a2, a3, a4, a5, a6, a7, a8, a9, a10, a11, a12, a13)) := hc.trans ((if_neg c_1).trans (if_neg c_2))
        have he := hF.trans (congrArg (fun z : Int32 × MN => (z.1, ((v.1, v.2.1, va_up v.2.2 (j + 1) z.2) : MS))) he)
        exact W.iret hx hb hr (fun t ht hW => ⟨⟨(-2), (v.1, v.2.1, va_up v.2.2 (j + 1) (a0, a1, a2, a3, a4, a5, a6, a7, a8, a9, a10, a11, a12, a13)), rfl, ⟨(congrArg Prod.fst he).symm, (congrArg Prod.snd he).symm⟩, _, _, ⟨qq, cc, uff ff n.toNatClampNeg (a0, a1, a2, a3, a4, a5, a6, a7, a8, a9, a10, a11, a12, a13), vp_updL fl n.toNatClampNeg a9, 0, rfl, rfl, hvn, fun k9 => mfin hvf hnj k9⟩, by rw [ht]; exact hP, va_K.moved hW.alike hK, hD⟩, hS.F ht⟩) hS.2.2 d_M_event_22
def g_M_recover (u : MN) (k : Int32) : Int32 × MN := let a0 := u.1; let a1 := u.2.1; let a2 := u.2.2.1; let a3 := u.2.2.2.1; let a4 := u.2.2.2.2.1; let a5 := u.2.2.2.2.2.1; let a6 := u.2.2.2.2.2.2.1; let a7 := u.2.2.2.2.2.2.2.1; let a8 := u.2.2.2.2.2.2.2.2.1; let a9 := u.2.2.2.2.2.2.2.2.2.1; let a10 := u.2.2.2.2.2.2.2.2.2.2.1; let a11 := u.2.2.2.2.2.2.2.2.2.2.2.1; let a12 := u.2.2.2.2.2.2.2.2.2.2.2.2.1; let a13 := u.2.2.2.2.2.2.2.2.2.2.2.2.2; if 1 ≤ k then (if a2 = 0 then ((-3), (a0, a1, a2, a3, a4, a5, a6, a7, a8, a9, a10, a11, a12, a13)) else (if a10 = 0 then ((-3), (a0, a1, a2, a3, a4, a5, a6, a7, a8, a9, a10, a11, a12, a13)) else (if k ≤ (128 - a11) then (if (a11 + k) = 128 then (f_M_is (0, 0, 0, 0, 0, a5, a6, a7, a8, a9, a10, a11 + k, a12, a13), (0, 0, 0, 0, 0, a5, a6, a7, a8, a9, a10, a11 + k, a12, a13)) else (f_M_is (a0, a1, a2, a3, a4, a5, a6, a7, a8, a9, a10, a11 + k, a12, a13), (a0, a1, a2, a3, a4, a5, a6, a7, a8, a9, a10, a11 + k, a12, a13))) else (f_M_is (0, 0, 0, 0, 0, a5, a6, a7, a8, a9, a10, 128, a12, a13), (0, 0, 0, 0, 0, a5, a6, a7, a8, a9, a10, 128, a12, a13))))) else ((-2), (a0, a1, a2, a3, a4, a5, a6, a7, a8, a9, a10, a11, a12, a13))
def F_M_recover (v : MS) (n : Int32) (k : Int32) : Int32 × MS := match ix v.1 n with
  | none => (-1, v)
  | some j => ((g_M_recover (v.2.2 (j + 1)) k).1, ((v.1, v.2.1, va_up v.2.2 (j + 1) (g_M_recover (v.2.2 (j + 1)) k).2) : MS))
set_option maxHeartbeats 4000000 in
set_option maxRecDepth 100000 in
theorem c_M_recover (l : Launch) (D : va_G) (h0 sz : Nat) (v : MS) (w0 : va_W) (tm : List (ClassId × FieldType)) (hI : IM h0 v w0 tm) (hD0 : va_D (fun _ => True) w0) (n : Int32) (k : Int32) : Met l y_M_recover (cw_M_recover :: BIG) (rmk 5 0 0) (va_Pc [.ref h0, .int n, .int k] (fun U => U.heap.size = sz ∧ va_P D cls_ w0 U.heap ∧ va_K D cls_ tm U ∧ NK U)) (va_Qi (fun (r : Int32) (v2 : MS) => r = (F_M_recover v n k).1 ∧ v2 = (F_M_recover v n k).2) (atM D h0 (va_A w0 sz)) (va_A w0 sz)) 0 0 (va_A w0 sz) := by
  refine Met.ofW (cc := b_M_recover) (maxL := 3) (ret := (some .int)) (by decide) rfl ?_
  intro p e s m args below meth c s₁ B hml hv
  obtain ⟨rfl, hsz, hP, hK, hN⟩ := hv
  have hx := B.exec
  have hb := B.bytes
  have hr := B.returns
  have htB : ∀ w ∈ BIG, w.before _ s = true := fun w h => atoms_spec (ws := cw_M_recover :: BIG) B.pre w (List.mem_cons_of_mem _ h)
  have hown : s.vm.findClass R_M = some m.cls := findClass_of_methodNamed B.named
  have hlocks := B.notSynchronized
  have hD : va_D (va_A w0 sz) w0 := hD0.self
  have hS : va_S (va_A w0 sz) s.heap s.heap [] := va_S.rf
  obtain ⟨qq, cc, ff, fl, c0, hw0, rfl, hvn, hvf⟩ := hI
  have hP : va_P D cls_ (wMg h0 qq cc ff fl c0 (nI v.1) v.2.1) s.heap := by rw [← hw0]; exact hP
  have hD : va_D (va_A w0 sz) (wMg h0 qq cc ff fl c0 (nI v.1) v.2.1) := by rw [← hw0]; exact hD
  have hl := lv_entry ([.ref h0, .int n, .int k]) (n := 3) (Nat.le_of_ble_eq_true rfl)
  rw [lg_entry_eq]
  generalize (lg_sl ([.ref h0, .int n, .int k]) ++ List.replicate (3 - (lg_sl ([.ref h0, .int n, .int k])).length) Slot.unset).toArray = ls at hl ⊢
  have hl : lv_has ls 3 [(0, .ref h0), (1, .int n), (2, .int k)] := hl
  refine lv_aload_n hx hb d_M_recover_0 rfl (lv_at hl 0 rfl) ?_
  refine lv_iload_n hx hb d_M_recover_1 rfl (lv_at hl 1 rfl) ?_
  have hAh : va_A w0 sz h0 := hD.2 0 _ rfl
  refine va_calli (va_runV (As := [.int n]) (rest := []) ⟨hx, hb, hml, hown, htB⟩ (c_M_none l D h0 qq c0 (nI v.1) v.2.1 n) (cwV 1 htB g_M_75 rfl rfl rfl (by decide +kernel) ⟨Nat.le_of_ble_eq_true rfl, Nat.le_of_ble_eq_true rfl⟩) (preV (pone hP (k := 0) rfl) (hK.sub (tys' := []) [] rfl) hN (va_recv hK hP (ci := 2) (q0 := 0) rfl rfl)) rfl rfl hl.1 rfl (lv_room (Nat.le_of_ble_eq_true rfl)) d_M_recover_2 ⟨Nat.le_of_ble_eq_true rfl, Nat.le_of_ble_eq_true rfl⟩) hS (fun q _ h => by rw [h]; exact hAh) (fun q h => by rw [h]; exact hAh) (fun r0 z9 t H1 locs ht hvm hw hB hz1 hk1 hS => ?_)
  rw [ht] at hB
  obtain ⟨hP, hD⟩ := pcall (k := 0) hP hD rfl hk1 hB
  have hP : va_P D cls_ (wMg h0 qq cc ff fl 0 (nI v.1) v.2.1) H1 := hP
  have hD : va_D (va_A w0 sz) (wMg h0 qq cc ff fl 0 (nI v.1) v.2.1) := hD
  rcases hj : ix v.1 n with _ | j
  · have hw : r0 = 1 := hw.trans (mn_none hj)
    subst hw
    have hF : F_M_recover v n k = (-1, v) := by unfold F_M_recover; rw [hj]
    refine lv_if_eq (tgt := 10) hx hb d_M_recover_5 (by decide) (fun c9 => absurd c9 (by decide)) (fun _ => ?_)
    refine lv_iconst (v := (-1)) hx hb d_M_recover_8 (by decide) ?_
    exact W.iret hx hb hr (fun t ht hW => ⟨⟨-1, v, rfl, ⟨(congrArg Prod.fst hF).symm, (congrArg Prod.snd hF).symm⟩, _, _, ⟨qq, cc, ff, fl, 0, rfl, rfl, hvn, hvf⟩, by rw [ht]; exact hP, va_K.moved hW.alike hK, hD⟩, hS.F ht⟩) hS.2.2 d_M_recover_9
  · have hw : r0 = 0 := hw.trans (mn_some hj)
    subst hw
    obtain ⟨hjl, hnk⟩ := ix_some hvn hj
    have hnj : n.toNatClampNeg = j + 1 := by rw [hnk]; exact nI_clamp (by omega)
    have hin : vp_in n 101 := by rw [hnk]; exact vp_in_nI (by omega) (by decide)
    have hu0 := hvf (j + 1)
    obtain ⟨z, hu⟩ : ∃ z, v.2.2 (j + 1) = z := ⟨_, rfl⟩
    rw [hu] at hu0
    have hP : va_P D cls_ (wM h0 qq cc ff fl n.toNatClampNeg 0 (nI v.1) v.2.1 z) H1 := by rw [hu0, ← hnj, wM_self]; exact hP
    have hD : va_D (va_A w0 sz) (wM h0 qq cc ff fl n.toNatClampNeg 0 (nI v.1) v.2.1 z) := by rw [hu0, ← hnj, wM_self]; exact hD
    obtain ⟨a0, a1, a2, a3, a4, a5, a6, a7, a8, a9, a10, a11, a12, a13⟩ := z
    have hF : F_M_recover v n k = ((g_M_recover (a0, a1, a2, a3, a4, a5, a6, a7, a8, a9, a10, a11, a12, a13) k).1, ((v.1, v.2.1, va_up v.2.2 (j + 1) (g_M_recover (a0, a1, a2, a3, a4, a5, a6, a7, a8, a9, a10, a11, a12, a13) k).2) : MS)) := by unfold F_M_recover; rw [hj]; show ((g_M_recover (v.2.2 (j + 1)) k).1, ((v.1, v.2.1, va_up v.2.2 (j + 1) (g_M_recover (v.2.2 (j + 1)) k).2) : MS)) = _; rw [hu]
    have hc : g_M_recover (a0, a1, a2, a3, a4, a5, a6, a7, a8, a9, a10, a11, a12, a13) k = g_M_recover (a0, a1, a2, a3, a4, a5, a6, a7, a8, a9, a10, a11, a12, a13) k := rfl
    refine lv_if_eq (tgt := 10) hx hb d_M_recover_5 (by decide) (fun _ => ?_) (fun c9 => absurd (by decide) c9)
    refine lv_iload_n hx hb d_M_recover_10 rfl (lv_at hl 2 rfl) ?_
    refine lv_iconst (v := 1) hx hb d_M_recover_11 (by decide) ?_
    refine lv_icmp_ge (tgt := 18) hx hb d_M_recover_12 (by decide) (fun c_1 => ?_) (fun c_1 => ?_)
    · refine lv_aload_n hx hb d_M_recover_18 rfl (lv_at hl 0 rfl) ?_
      refine va_get (D := D) (ci := 2) (v := .ref (qq 2)) (C := R_M) (T := F_M) (N := 17) hx hb htB uw_M hown hK hP 0 rfl rfl 4 (by decide) (htB _ fl_M_16) (fun _ h9 => h9) rfl d_M_recover_19 ?_
      refine lv_iload_n hx hb d_M_recover_22 rfl (lv_at hl 1 rfl) ?_
      refine va_zald hx hb hK hP 3 2 rfl rfl hin d_M_recover_23 ?_
      refine tpi a2 pk_us ?_
      refine lv_if_eq (tgt := 36) hx hb d_M_recover_24 (by decide) (fun c_2 => ?_) (fun c_2 => ?_)
      · refine lv_bipush (v := (-3)) hx hb d_M_recover_36 (by decide) ?_
        have he : g_M_recover (a0, a1, a2, a3, a4, a5, a6, a7, a8, a9, a10, a11, a12, a13) k = ((-3), (a0, a1, a2, a3, a4, a5, a6, a7, a8, a9, a10, a11, a12, a13)) := hc.trans ((if_pos c_1).trans (if_pos c_2))
        have he := hF.trans (congrArg (fun z : Int32 × MN => (z.1, ((v.1, v.2.1, va_up v.2.2 (j + 1) z.2) : MS))) he)
        exact W.iret hx hb hr (fun t ht hW => ⟨⟨(-3), (v.1, v.2.1, va_up v.2.2 (j + 1) (a0, a1, a2, a3, a4, a5, a6, a7, a8, a9, a10, a11, a12, a13)), rfl, ⟨(congrArg Prod.fst he).symm, (congrArg Prod.snd he).symm⟩, _, _, ⟨qq, cc, uff ff n.toNatClampNeg (a0, a1, a2, a3, a4, a5, a6, a7, a8, a9, a10, a11, a12, a13), vp_updL fl n.toNatClampNeg a9, 0, rfl, rfl, hvn, fun k9 => mfin hvf hnj k9⟩, by rw [ht]; exact hP, va_K.moved hW.alike hK, hD⟩, hS.F ht⟩) hS.2.2 d_M_recover_38
      · refine lv_aload_n hx hb d_M_recover_27 rfl (lv_at hl 0 rfl) ?_
        refine va_get (D := D) (ci := 2) (v := .ref (qq 10)) (C := R_M) (T := F_M) (N := 17) hx hb htB uw_M hown hK hP 0 rfl rfl 12 (by decide) (htB _ fl_M_42) (fun _ h9 => h9) rfl d_M_recover_28 ?_
        refine lv_iload_n hx hb d_M_recover_31 rfl (lv_at hl 1 rfl) ?_
        refine va_zald hx hb hK hP 11 10 rfl rfl hin d_M_recover_32 ?_
        refine tpi a10 pk_us ?_
        refine lv_if_ne (tgt := 39) hx hb d_M_recover_33 (by decide) (fun c_3 => ?_) (fun c_3 => ?_)
        · refine lv_aload_n hx hb d_M_recover_39 rfl (lv_at hl 0 rfl) ?_
          refine va_get (D := D) (ci := 2) (v := .ref (qq 11)) (C := R_M) (T := F_M) (N := 17) hx hb htB uw_M hown hK hP 0 rfl rfl 13 (by decide) (htB _ fl_M_45) (fun _ h9 => h9) rfl d_M_recover_40 ?_
          refine lv_iload_n hx hb d_M_recover_43 rfl (lv_at hl 1 rfl) ?_
          refine lv_iload_n hx hb d_M_recover_44 rfl (lv_at hl 2 rfl) ?_
          refine lv_sipush (v := 128) hx hb d_M_recover_45 (by decide) ?_
          refine lv_aload_n hx hb d_M_recover_48 rfl (lv_at hl 0 rfl) ?_
          refine va_get (D := D) (ci := 2) (v := .ref (qq 11)) (C := R_M) (T := F_M) (N := 17) hx hb htB uw_M hown hK hP 0 rfl rfl 13 (by decide) (htB _ fl_M_45) (fun _ h9 => h9) rfl d_M_recover_49 ?_
          refine lv_iload_n hx hb d_M_recover_52 rfl (lv_at hl 1 rfl) ?_
          refine va_iald hx hb hK hP 12 11 rfl rfl hin d_M_recover_53 ?_
          refine tpi a11 pk_us ?_
          refine lv_isub hx hb d_M_recover_54 ?_
          refine lv_icmp_le (tgt := 64) hx hb d_M_recover_55 (by decide) (fun c_4 => ?_) (fun c_4 => ?_)
          · refine lv_aload_n hx hb d_M_recover_64 rfl (lv_at hl 0 rfl) ?_
            refine va_get (D := D) (ci := 2) (v := .ref (qq 11)) (C := R_M) (T := F_M) (N := 17) hx hb htB uw_M hown hK hP 0 rfl rfl 13 (by decide) (htB _ fl_M_45) (fun _ h9 => h9) rfl d_M_recover_65 ?_
            refine lv_iload_n hx hb d_M_recover_68 rfl (lv_at hl 1 rfl) ?_
            refine va_iald hx hb hK hP 12 11 rfl rfl hin d_M_recover_69 ?_
            refine tpi a11 pk_us ?_
            refine lv_iload_n hx hb d_M_recover_70 rfl (lv_at hl 2 rfl) ?_
            refine lv_iadd hx hb d_M_recover_71 ?_
            refine va_iast hx hb hK hP hD hS 12 11 rfl rfl hin d_M_recover_72 (fun H locs hP hD hS => ?_)
            have hP : va_P D cls_ (wM h0 qq cc ff fl n.toNatClampNeg 0 (nI v.1) v.2.1 (a0, a1, a2, a3, a4, a5, a6, a7, a8, a9, a10, a11 + k, a12, a13)) H := by have h9 := hP; rw [ws_11] at h9; exact h9
            have hD : va_D (va_A w0 sz) (wM h0 qq cc ff fl n.toNatClampNeg 0 (nI v.1) v.2.1 (a0, a1, a2, a3, a4, a5, a6, a7, a8, a9, a10, a11 + k, a12, a13)) := by have h9 := hD; rw [ws_11] at h9; exact h9
            refine lv_aload_n hx hb d_M_recover_73 rfl (lv_at hl 0 rfl) ?_
            refine va_get (D := D) (ci := 2) (v := .ref (qq 11)) (C := R_M) (T := F_M) (N := 17) hx hb htB uw_M hown hK hP 0 rfl rfl 13 (by decide) (htB _ fl_M_45) (fun _ h9 => h9) rfl d_M_recover_74 ?_
            refine lv_iload_n hx hb d_M_recover_77 rfl (lv_at hl 1 rfl) ?_
            refine va_iald hx hb hK hP 12 11 rfl rfl hin d_M_recover_78 ?_
            refine tpi (a11 + k) pk_us ?_
            refine lv_sipush (v := 128) hx hb d_M_recover_79 (by decide) ?_
            refine lv_icmp_ne (tgt := 120) hx hb d_M_recover_82 (by decide) (fun c_5 => ?_) (fun c_5 => ?_)
            · refine lv_aload_n hx hb d_M_recover_120 rfl (lv_at hl 0 rfl) ?_
              refine lv_iload_n hx hb d_M_recover_121 rfl (lv_at hl 1 rfl) ?_
              refine vp_callSi (va_Run.run (va_runV (As := [.int n]) (rest := []) ⟨hx, hb, hml, hown, htB⟩ (c_M_is l D h0 qq cc ff fl 0 (nI v.1) v.2.1 n hin (a0, a1, a2, a3, a4, a5, a6, a7, a8, a9, a10, a11 + k, a12, a13)) (cwV 1 htB g_M_63 rfl rfl rfl (by decide +kernel) ⟨Nat.le_of_ble_eq_true rfl, Nat.le_of_ble_eq_true rfl⟩) (preV hP hK hN (va_recv hK hP (ci := 2) (q0 := 0) rfl rfl)) rfl rfl hl.1 rfl (lv_room (Nat.le_of_ble_eq_true rfl)) d_M_recover_122 ⟨Nat.le_of_ble_eq_true rfl, Nat.le_of_ble_eq_true rfl⟩)) (fun r_6 hr_6 => ?_)
              subst hr_6
              have he : g_M_recover (a0, a1, a2, a3, a4, a5, a6, a7, a8, a9, a10, a11, a12, a13) k = (f_M_is (a0, a1, a2, a3, a4, a5, a6, a7, a8, a9, a10, a11 + k, a12, a13), (a0, a1, a2, a3, a4, a5, a6, a7, a8, a9, a10, a11 + k, a12, a13)) := hc.trans ((if_pos c_1).trans ((if_neg c_2).trans ((if_neg c_3).trans ((if_pos c_4).trans (if_neg c_5)))))
              have he := hF.trans (congrArg (fun z : Int32 × MN => (z.1, ((v.1, v.2.1, va_up v.2.2 (j + 1) z.2) : MS))) he)
              exact W.iret hx hb hr (fun t ht hW => ⟨⟨f_M_is (a0, a1, a2, a3, a4, a5, a6, a7, a8, a9, a10, a11 + k, a12, a13), (v.1, v.2.1, va_up v.2.2 (j + 1) (a0, a1, a2, a3, a4, a5, a6, a7, a8, a9, a10, a11 + k, a12, a13)), rfl, ⟨(congrArg Prod.fst he).symm, (congrArg Prod.snd he).symm⟩, _, _, ⟨qq, cc, uff ff n.toNatClampNeg (a0, a1, a2, a3, a4, a5, a6, a7, a8, a9, a10, a11 + k, a12, a13), vp_updL fl n.toNatClampNeg a9, 0, rfl, rfl, hvn, fun k9 => mfin hvf hnj k9⟩, by rw [ht]; exact hP, va_K.moved hW.alike hK, hD⟩, hS.F ht⟩) hS.2.2 d_M_recover_125
            · refine lv_aload_n hx hb d_M_recover_85 rfl (lv_at hl 0 rfl) ?_
              refine va_get (D := D) (ci := 2) (v := .ref (qq 2)) (C := R_M) (T := F_M) (N := 17) hx hb htB uw_M hown hK hP 0 rfl rfl 4 (by decide) (htB _ fl_M_16) (fun _ h9 => h9) rfl d_M_recover_86 ?_
              refine lv_iload_n hx hb d_M_recover_89 rfl (lv_at hl 1 rfl) ?_
              refine lv_iconst (v := 0) hx hb d_M_recover_90 (by decide) ?_
              refine va_zast hx hb hK hP hD hS 3 2 rfl rfl hin d_M_recover_91 (fun H locs hP hD hS => ?_)
              rw [vnb (Or.inl rfl)] at hP hD
              have hP : va_P D cls_ (wM h0 qq cc ff fl n.toNatClampNeg 0 (nI v.1) v.2.1 (a0, a1, 0, a3, a4, a5, a6, a7, a8, a9, a10, a11 + k, a12, a13)) H := by have h9 := hP; rw [ws_2] at h9; exact h9
              have hD : va_D (va_A w0 sz) (wM h0 qq cc ff fl n.toNatClampNeg 0 (nI v.1) v.2.1 (a0, a1, 0, a3, a4, a5, a6, a7, a8, a9, a10, a11 + k, a12, a13)) := by have h9 := hD; rw [ws_2] at h9; exact h9
              refine lv_aload_n hx hb d_M_recover_92 rfl (lv_at hl 0 rfl) ?_
              refine va_get (D := D) (ci := 2) (v := .ref (qq 0)) (C := R_M) (T := F_M) (N := 17) hx hb htB uw_M hown hK hP 0 rfl rfl 2 (by decide) (htB _ fl_M_7) (fun _ h9 => h9) rfl d_M_recover_93 ?_
              refine lv_iload_n hx hb d_M_recover_96 rfl (lv_at hl 1 rfl) ?_
              refine lv_iconst (v := 0) hx hb d_M_recover_97 (by decide) ?_
              refine va_iast hx hb hK hP hD hS 1 0 rfl rfl hin d_M_recover_98 (fun H locs hP hD hS => ?_)
              have hP : va_P D cls_ (wM h0 qq cc ff fl n.toNatClampNeg 0 (nI v.1) v.2.1 (0, a1, 0, a3, a4, a5, a6, a7, a8, a9, a10, a11 + k, a12, a13)) H := by have h9 := hP; rw [ws_0] at h9; exact h9
              have hD : va_D (va_A w0 sz) (wM h0 qq cc ff fl n.toNatClampNeg 0 (nI v.1) v.2.1 (0, a1, 0, a3, a4, a5, a6, a7, a8, a9, a10, a11 + k, a12, a13)) := by have h9 := hD; rw [ws_0] at h9; exact h9
              refine lv_aload_n hx hb d_M_recover_99 rfl (lv_at hl 0 rfl) ?_
              refine va_get (D := D) (ci := 2) (v := .ref (qq 1)) (C := R_M) (T := F_M) (N := 17) hx hb htB uw_M hown hK hP 0 rfl rfl 3 (by decide) (htB _ fl_M_13) (fun _ h9 => h9) rfl d_M_recover_100 ?_
              refine lv_iload_n hx hb d_M_recover_103 rfl (lv_at hl 1 rfl) ?_
              refine lv_iconst (v := 0) hx hb d_M_recover_104 (by decide) ?_
              refine va_iast hx hb hK hP hD hS 2 1 rfl rfl hin d_M_recover_105 (fun H locs hP hD hS => ?_)
              have hP : va_P D cls_ (wM h0 qq cc ff fl n.toNatClampNeg 0 (nI v.1) v.2.1 (0, 0, 0, a3, a4, a5, a6, a7, a8, a9, a10, a11 + k, a12, a13)) H := by have h9 := hP; rw [ws_1] at h9; exact h9
              have hD : va_D (va_A w0 sz) (wM h0 qq cc ff fl n.toNatClampNeg 0 (nI v.1) v.2.1 (0, 0, 0, a3, a4, a5, a6, a7, a8, a9, a10, a11 + k, a12, a13)) := by have h9 := hD; rw [ws_1] at h9; exact h9
              refine lv_aload_n hx hb d_M_recover_106 rfl (lv_at hl 0 rfl) ?_
              refine va_get (D := D) (ci := 2) (v := .ref (qq 3)) (C := R_M) (T := F_M) (N := 17) hx hb htB uw_M hown hK hP 0 rfl rfl 5 (by decide) (htB _ fl_M_20) (fun _ h9 => h9) rfl d_M_recover_107 ?_
              refine lv_iload_n hx hb d_M_recover_110 rfl (lv_at hl 1 rfl) ?_
              refine lv_iconst (v := 0) hx hb d_M_recover_111 (by decide) ?_
              refine va_iast hx hb hK hP hD hS 4 3 rfl rfl hin d_M_recover_112 (fun H locs hP hD hS => ?_)
              have hP : va_P D cls_ (wM h0 qq cc ff fl n.toNatClampNeg 0 (nI v.1) v.2.1 (0, 0, 0, 0, a4, a5, a6, a7, a8, a9, a10, a11 + k, a12, a13)) H := by have h9 := hP; rw [ws_3] at h9; exact h9
              have hD : va_D (va_A w0 sz) (wM h0 qq cc ff fl n.toNatClampNeg 0 (nI v.1) v.2.1 (0, 0, 0, 0, a4, a5, a6, a7, a8, a9, a10, a11 + k, a12, a13)) := by have h9 := hD; rw [ws_3] at h9; exact h9
              refine lv_aload_n hx hb d_M_recover_113 rfl (lv_at hl 0 rfl) ?_
              refine va_get (D := D) (ci := 2) (v := .ref (qq 4)) (C := R_M) (T := F_M) (N := 17) hx hb htB uw_M hown hK hP 0 rfl rfl 6 (by decide) (htB _ fl_M_23) (fun _ h9 => h9) rfl d_M_recover_114 ?_
              refine lv_iload_n hx hb d_M_recover_117 rfl (lv_at hl 1 rfl) ?_
              refine lv_iconst (v := 0) hx hb d_M_recover_118 (by decide) ?_
              refine va_iast hx hb hK hP hD hS 5 4 rfl rfl hin d_M_recover_119 (fun H locs hP hD hS => ?_)
              have hP : va_P D cls_ (wM h0 qq cc ff fl n.toNatClampNeg 0 (nI v.1) v.2.1 (0, 0, 0, 0, 0, a5, a6, a7, a8, a9, a10, a11 + k, a12, a13)) H := by have h9 := hP; rw [ws_4] at h9; exact h9
              have hD : va_D (va_A w0 sz) (wM h0 qq cc ff fl n.toNatClampNeg 0 (nI v.1) v.2.1 (0, 0, 0, 0, 0, a5, a6, a7, a8, a9, a10, a11 + k, a12, a13)) := by have h9 := hD; rw [ws_4] at h9; exact h9
              refine lv_aload_n hx hb d_M_recover_120 rfl (lv_at hl 0 rfl) ?_
              refine lv_iload_n hx hb d_M_recover_121 rfl (lv_at hl 1 rfl) ?_
              refine vp_callSi (va_Run.run (va_runV (As := [.int n]) (rest := []) ⟨hx, hb, hml, hown, htB⟩ (c_M_is l D h0 qq cc ff fl 0 (nI v.1) v.2.1 n hin (0, 0, 0, 0, 0, a5, a6, a7, a8, a9, a10, a11 + k, a12, a13)) (cwV 1 htB g_M_63 rfl rfl rfl (by decide +kernel) ⟨Nat.le_of_ble_eq_true rfl, Nat.le_of_ble_eq_true rfl⟩) (preV hP hK hN (va_recv hK hP (ci := 2) (q0 := 0) rfl rfl)) rfl rfl hl.1 rfl (lv_room (Nat.le_of_ble_eq_true rfl)) d_M_recover_122 ⟨Nat.le_of_ble_eq_true rfl, Nat.le_of_ble_eq_true rfl⟩)) (fun r_7 hr_7 => ?_)
              subst hr_7
              have he : g_M_recover (a0, a1, a2, a3, a4, a5, a6, a7, a8, a9, a10, a11, a12, a13) k = (f_M_is (0, 0, 0, 0, 0, a5, a6, a7, a8, a9, a10, a11 + k, a12, a13), (0, 0, 0, 0, 0, a5, a6, a7, a8, a9, a10, a11 + k, a12, a13)) := hc.trans ((if_pos c_1).trans ((if_neg c_2).trans ((if_neg c_3).trans ((if_pos c_4).trans (if_pos c_5)))))
              have he := hF.trans (congrArg (fun z : Int32 × MN => (z.1, ((v.1, v.2.1, va_up v.2.2 (j + 1) z.2) : MS))) he)
              exact W.iret hx hb hr (fun t ht hW => ⟨⟨f_M_is (0, 0, 0, 0, 0, a5, a6, a7, a8, a9, a10, a11 + k, a12, a13), (v.1, v.2.1, va_up v.2.2 (j + 1) (0, 0, 0, 0, 0, a5, a6, a7, a8, a9, a10, a11 + k, a12, a13)), rfl, ⟨(congrArg Prod.fst he).symm, (congrArg Prod.snd he).symm⟩, _, _, ⟨qq, cc, uff ff n.toNatClampNeg (0, 0, 0, 0, 0, a5, a6, a7, a8, a9, a10, a11 + k, a12, a13), vp_updL fl n.toNatClampNeg a9, 0, rfl, rfl, hvn, fun k9 => mfin hvf hnj k9⟩, by rw [ht]; exact hP, va_K.moved hW.alike hK, hD⟩, hS.F ht⟩) hS.2.2 d_M_recover_125
          · refine lv_sipush (v := 128) hx hb d_M_recover_58 (by decide) ?_
            refine lv_goto (tgt := 72) hx hb d_M_recover_61 (by decide) ?_
            refine va_iast hx hb hK hP hD hS 12 11 rfl rfl hin d_M_recover_72 (fun H locs hP hD hS => ?_)
            have hP : va_P D cls_ (wM h0 qq cc ff fl n.toNatClampNeg 0 (nI v.1) v.2.1 (a0, a1, a2, a3, a4, a5, a6, a7, a8, a9, a10, 128, a12, a13)) H := by have h9 := hP; rw [ws_11] at h9; exact h9
            have hD : va_D (va_A w0 sz) (wM h0 qq cc ff fl n.toNatClampNeg 0 (nI v.1) v.2.1 (a0, a1, a2, a3, a4, a5, a6, a7, a8, a9, a10, 128, a12, a13)) := by have h9 := hD; rw [ws_11] at h9; exact h9
            refine lv_aload_n hx hb d_M_recover_73 rfl (lv_at hl 0 rfl) ?_
            refine va_get (D := D) (ci := 2) (v := .ref (qq 11)) (C := R_M) (T := F_M) (N := 17) hx hb htB uw_M hown hK hP 0 rfl rfl 13 (by decide) (htB _ fl_M_45) (fun _ h9 => h9) rfl d_M_recover_74 ?_
            refine lv_iload_n hx hb d_M_recover_77 rfl (lv_at hl 1 rfl) ?_
            refine va_iald hx hb hK hP 12 11 rfl rfl hin d_M_recover_78 ?_
            refine tpi 128 pk_us ?_
            refine lv_sipush (v := 128) hx hb d_M_recover_79 (by decide) ?_
            refine lv_icmp_ne (tgt := 120) hx hb d_M_recover_82 (by decide) (fun c9 => absurd (by decide) c9) (fun _ => ?_)
            refine lv_aload_n hx hb d_M_recover_85 rfl (lv_at hl 0 rfl) ?_
            refine va_get (D := D) (ci := 2) (v := .ref (qq 2)) (C := R_M) (T := F_M) (N := 17) hx hb htB uw_M hown hK hP 0 rfl rfl 4 (by decide) (htB _ fl_M_16) (fun _ h9 => h9) rfl d_M_recover_86 ?_
            refine lv_iload_n hx hb d_M_recover_89 rfl (lv_at hl 1 rfl) ?_
            refine lv_iconst (v := 0) hx hb d_M_recover_90 (by decide) ?_
            refine va_zast hx hb hK hP hD hS 3 2 rfl rfl hin d_M_recover_91 (fun H locs hP hD hS => ?_)
            rw [vnb (Or.inl rfl)] at hP hD
            have hP : va_P D cls_ (wM h0 qq cc ff fl n.toNatClampNeg 0 (nI v.1) v.2.1 (a0, a1, 0, a3, a4, a5, a6, a7, a8, a9, a10, 128, a12, a13)) H := by have h9 := hP; rw [ws_2] at h9; exact h9
            have hD : va_D (va_A w0 sz) (wM h0 qq cc ff fl n.toNatClampNeg 0 (nI v.1) v.2.1 (a0, a1, 0, a3, a4, a5, a6, a7, a8, a9, a10, 128, a12, a13)) := by have h9 := hD; rw [ws_2] at h9; exact h9
            refine lv_aload_n hx hb d_M_recover_92 rfl (lv_at hl 0 rfl) ?_
            refine va_get (D := D) (ci := 2) (v := .ref (qq 0)) (C := R_M) (T := F_M) (N := 17) hx hb htB uw_M hown hK hP 0 rfl rfl 2 (by decide) (htB _ fl_M_7) (fun _ h9 => h9) rfl d_M_recover_93 ?_
            refine lv_iload_n hx hb d_M_recover_96 rfl (lv_at hl 1 rfl) ?_
            refine lv_iconst (v := 0) hx hb d_M_recover_97 (by decide) ?_
            refine va_iast hx hb hK hP hD hS 1 0 rfl rfl hin d_M_recover_98 (fun H locs hP hD hS => ?_)
            have hP : va_P D cls_ (wM h0 qq cc ff fl n.toNatClampNeg 0 (nI v.1) v.2.1 (0, a1, 0, a3, a4, a5, a6, a7, a8, a9, a10, 128, a12, a13)) H := by have h9 := hP; rw [ws_0] at h9; exact h9
            have hD : va_D (va_A w0 sz) (wM h0 qq cc ff fl n.toNatClampNeg 0 (nI v.1) v.2.1 (0, a1, 0, a3, a4, a5, a6, a7, a8, a9, a10, 128, a12, a13)) := by have h9 := hD; rw [ws_0] at h9; exact h9
            refine lv_aload_n hx hb d_M_recover_99 rfl (lv_at hl 0 rfl) ?_
            refine va_get (D := D) (ci := 2) (v := .ref (qq 1)) (C := R_M) (T := F_M) (N := 17) hx hb htB uw_M hown hK hP 0 rfl rfl 3 (by decide) (htB _ fl_M_13) (fun _ h9 => h9) rfl d_M_recover_100 ?_
            refine lv_iload_n hx hb d_M_recover_103 rfl (lv_at hl 1 rfl) ?_
            refine lv_iconst (v := 0) hx hb d_M_recover_104 (by decide) ?_
            refine va_iast hx hb hK hP hD hS 2 1 rfl rfl hin d_M_recover_105 (fun H locs hP hD hS => ?_)
            have hP : va_P D cls_ (wM h0 qq cc ff fl n.toNatClampNeg 0 (nI v.1) v.2.1 (0, 0, 0, a3, a4, a5, a6, a7, a8, a9, a10, 128, a12, a13)) H := by have h9 := hP; rw [ws_1] at h9; exact h9
            have hD : va_D (va_A w0 sz) (wM h0 qq cc ff fl n.toNatClampNeg 0 (nI v.1) v.2.1 (0, 0, 0, a3, a4, a5, a6, a7, a8, a9, a10, 128, a12, a13)) := by have h9 := hD; rw [ws_1] at h9; exact h9
            refine lv_aload_n hx hb d_M_recover_106 rfl (lv_at hl 0 rfl) ?_
            refine va_get (D := D) (ci := 2) (v := .ref (qq 3)) (C := R_M) (T := F_M) (N := 17) hx hb htB uw_M hown hK hP 0 rfl rfl 5 (by decide) (htB _ fl_M_20) (fun _ h9 => h9) rfl d_M_recover_107 ?_
            refine lv_iload_n hx hb d_M_recover_110 rfl (lv_at hl 1 rfl) ?_
            refine lv_iconst (v := 0) hx hb d_M_recover_111 (by decide) ?_
            refine va_iast hx hb hK hP hD hS 4 3 rfl rfl hin d_M_recover_112 (fun H locs hP hD hS => ?_)
            have hP : va_P D cls_ (wM h0 qq cc ff fl n.toNatClampNeg 0 (nI v.1) v.2.1 (0, 0, 0, 0, a4, a5, a6, a7, a8, a9, a10, 128, a12, a13)) H := by have h9 := hP; rw [ws_3] at h9; exact h9
            have hD : va_D (va_A w0 sz) (wM h0 qq cc ff fl n.toNatClampNeg 0 (nI v.1) v.2.1 (0, 0, 0, 0, a4, a5, a6, a7, a8, a9, a10, 128, a12, a13)) := by have h9 := hD; rw [ws_3] at h9; exact h9
            refine lv_aload_n hx hb d_M_recover_113 rfl (lv_at hl 0 rfl) ?_
            refine va_get (D := D) (ci := 2) (v := .ref (qq 4)) (C := R_M) (T := F_M) (N := 17) hx hb htB uw_M hown hK hP 0 rfl rfl 6 (by decide) (htB _ fl_M_23) (fun _ h9 => h9) rfl d_M_recover_114 ?_
            refine lv_iload_n hx hb d_M_recover_117 rfl (lv_at hl 1 rfl) ?_
            refine lv_iconst (v := 0) hx hb d_M_recover_118 (by decide) ?_
            refine va_iast hx hb hK hP hD hS 5 4 rfl rfl hin d_M_recover_119 (fun H locs hP hD hS => ?_)
            have hP : va_P D cls_ (wM h0 qq cc ff fl n.toNatClampNeg 0 (nI v.1) v.2.1 (0, 0, 0, 0, 0, a5, a6, a7, a8, a9, a10, 128, a12, a13)) H := by have h9 := hP; rw [ws_4] at h9; exact h9
            have hD : va_D (va_A w0 sz) (wM h0 qq cc ff fl n.toNatClampNeg 0 (nI v.1) v.2.1 (0, 0, 0, 0, 0, a5, a6, a7, a8, a9, a10, 128, a12, a13)) := by have h9 := hD; rw [ws_4] at h9; exact h9
            refine lv_aload_n hx hb d_M_recover_120 rfl (lv_at hl 0 rfl) ?_
            refine lv_iload_n hx hb d_M_recover_121 rfl (lv_at hl 1 rfl) ?_
            refine vp_callSi (va_Run.run (va_runV (As := [.int n]) (rest := []) ⟨hx, hb, hml, hown, htB⟩ (c_M_is l D h0 qq cc ff fl 0 (nI v.1) v.2.1 n hin (0, 0, 0, 0, 0, a5, a6, a7, a8, a9, a10, 128, a12, a13)) (cwV 1 htB g_M_63 rfl rfl rfl (by decide +kernel) ⟨Nat.le_of_ble_eq_true rfl, Nat.le_of_ble_eq_true rfl⟩) (preV hP hK hN (va_recv hK hP (ci := 2) (q0 := 0) rfl rfl)) rfl rfl hl.1 rfl (lv_room (Nat.le_of_ble_eq_true rfl)) d_M_recover_122 ⟨Nat.le_of_ble_eq_true rfl, Nat.le_of_ble_eq_true rfl⟩)) (fun r_8 hr_8 => ?_)
            subst hr_8
            have he : g_M_recover (a0, a1, a2, a3, a4, a5, a6, a7, a8, a9, a10, a11, a12, a13) k = (f_M_is (0, 0, 0, 0, 0, a5, a6, a7, a8, a9, a10, 128, a12, a13), (0, 0, 0, 0, 0, a5, a6, a7, a8, a9, a10, 128, a12, a13)) := hc.trans ((if_pos c_1).trans ((if_neg c_2).trans ((if_neg c_3).trans (if_neg c_4))))
            have he := hF.trans (congrArg (fun z : Int32 × MN => (z.1, ((v.1, v.2.1, va_up v.2.2 (j + 1) z.2) : MS))) he)
            exact W.iret hx hb hr (fun t ht hW => ⟨⟨f_M_is (0, 0, 0, 0, 0, a5, a6, a7, a8, a9, a10, 128, a12, a13), (v.1, v.2.1, va_up v.2.2 (j + 1) (0, 0, 0, 0, 0, a5, a6, a7, a8, a9, a10, 128, a12, a13)), rfl, ⟨(congrArg Prod.fst he).symm, (congrArg Prod.snd he).symm⟩, _, _, ⟨qq, cc, uff ff n.toNatClampNeg (0, 0, 0, 0, 0, a5, a6, a7, a8, a9, a10, 128, a12, a13), vp_updL fl n.toNatClampNeg a9, 0, rfl, rfl, hvn, fun k9 => mfin hvf hnj k9⟩, by rw [ht]; exact hP, va_K.moved hW.alike hK, hD⟩, hS.F ht⟩) hS.2.2 d_M_recover_125
        · refine lv_bipush (v := (-3)) hx hb d_M_recover_36 (by decide) ?_
          have he : g_M_recover (a0, a1, a2, a3, a4, a5, a6, a7, a8, a9, a10, a11, a12, a13) k = ((-3), (a0, a1, a2, a3, a4, a5, a6, a7, a8, a9, a10, a11, a12, a13)) := hc.trans ((if_pos c_1).trans ((if_neg c_2).trans (if_pos c_3)))
          have he := hF.trans (congrArg (fun z : Int32 × MN => (z.1, ((v.1, v.2.1, va_up v.2.2 (j + 1) z.2) : MS))) he)
          exact W.iret hx hb hr (fun t ht hW => ⟨⟨(-3), (v.1, v.2.1, va_up v.2.2 (j + 1) (a0, a1, a2, a3, a4, a5, a6, a7, a8, a9, a10, a11, a12, a13)), rfl, ⟨(congrArg Prod.fst he).symm, (congrArg Prod.snd he).symm⟩, _, _, ⟨qq, cc, uff ff n.toNatClampNeg (a0, a1, a2, a3, a4, a5, a6, a7, a8, a9, a10, a11, a12, a13), vp_updL fl n.toNatClampNeg a9, 0, rfl, rfl, hvn, fun k9 => mfin hvf hnj k9⟩, by rw [ht]; exact hP, va_K.moved hW.alike hK, hD⟩, hS.F ht⟩) hS.2.2 d_M_recover_38
    · refine lv_bipush (v := (-2)) hx hb d_M_recover_15 (by decide) ?_
      have he : g_M_recover (a0, a1, a2, a3, a4, a5, a6, a7, a8, a9, a10, a11, a12, a13) k = ((-2), (a0, a1, a2, a3, a4, a5, a6, a7, a8, a9, a10, a11, a12, a13)) := hc.trans (if_neg c_1)
      have he := hF.trans (congrArg (fun z : Int32 × MN => (z.1, ((v.1, v.2.1, va_up v.2.2 (j + 1) z.2) : MS))) he)
      exact W.iret hx hb hr (fun t ht hW => ⟨⟨(-2), (v.1, v.2.1, va_up v.2.2 (j + 1) (a0, a1, a2, a3, a4, a5, a6, a7, a8, a9, a10, a11, a12, a13)), rfl, ⟨(congrArg Prod.fst he).symm, (congrArg Prod.snd he).symm⟩, _, _, ⟨qq, cc, uff ff n.toNatClampNeg (a0, a1, a2, a3, a4, a5, a6, a7, a8, a9, a10, a11, a12, a13), vp_updL fl n.toNatClampNeg a9, 0, rfl, rfl, hvn, fun k9 => mfin hvf hnj k9⟩, by rw [ht]; exact hP, va_K.moved hW.alike hK, hD⟩, hS.F ht⟩) hS.2.2 d_M_recover_17

def g_X_manager_k2 (u : Int32 × NS) (tt : Int64) : Int32 × Int64 × NS := let r_3 := u.1; let b2_0 := u.2.1; let b2_1 := u.2.2.1; let b2_2 := u.2.2.2.1; let b2_3 := u.2.2.2.2.1; let b2_4 := u.2.2.2.2.2.1; let b2_5 := u.2.2.2.2.2.2.1; let b2_6 := u.2.2.2.2.2.2.2.1; let b2_7 := u.2.2.2.2.2.2.2.2.1; let b2_8 := u.2.2.2.2.2.2.2.2.2.1; let b2_9 := u.2.2.2.2.2.2.2.2.2.2.1; let b2_10 := u.2.2.2.2.2.2.2.2.2.2.2.1; let b2_11 := u.2.2.2.2.2.2.2.2.2.2.2.2.1; let b2_12 := u.2.2.2.2.2.2.2.2.2.2.2.2.2.1; let b2_13 := u.2.2.2.2.2.2.2.2.2.2.2.2.2.2.1; let b2_14 := u.2.2.2.2.2.2.2.2.2.2.2.2.2.2.2; if r_3 = 0 then (0, tt, (b2_0, b2_1, b2_2, b2_3, b2_4, b2_5, b2_6, b2_7, b2_8, b2_9, b2_10, b2_11, b2_12, b2_13, b2_14)) else (1, tt, (b2_0, b2_1, b2_2, b2_3, b2_4, b2_5, b2_6, b2_7, b2_8, b2_9, b2_10, b2_11, b2_12, b2_13, b2_14))
def g_X_manager (t0 : Int64) (u : NS) (tt : Int64) : Int32 × Int64 × NS := let a0 := u.1; let a1 := u.2.1; let a2 := u.2.2.1; let a3 := u.2.2.2.1; let a4 := u.2.2.2.2.1; let a5 := u.2.2.2.2.2.1; let a6 := u.2.2.2.2.2.2.1; let a7 := u.2.2.2.2.2.2.2.1; let a8 := u.2.2.2.2.2.2.2.2.1; let a9 := u.2.2.2.2.2.2.2.2.2.1; let a10 := u.2.2.2.2.2.2.2.2.2.2.1; let a11 := u.2.2.2.2.2.2.2.2.2.2.2.1; let a12 := u.2.2.2.2.2.2.2.2.2.2.2.2.1; let a13 := u.2.2.2.2.2.2.2.2.2.2.2.2.2.1; let a14 := u.2.2.2.2.2.2.2.2.2.2.2.2.2.2; if 0 ≤ (lg_cmp tt t0) then (g_X_manager_k2 (f_N_mayComeBack (a0, a1, a2, a3, a4, a5, a6, a7, a8, a9, a10, a11, a12, a13, a14) tt) tt) else ((-2), t0, (a0, a1, a2, a3, a4, a5, a6, a7, a8, a9, a10, a11, a12, a13, a14))
def F_X_manager (u : XS) (n : Int32) (tt : Int64) : Int32 × XS := match ix u.1 n with
  | none => (-1, u)
  | some j => ((g_X_manager u.2.1 (u.2.2 j) tt).1, ((u.1, (g_X_manager u.2.1 (u.2.2 j) tt).2.1, va_up u.2.2 j (g_X_manager u.2.1 (u.2.2 j) tt).2.2) : XS))
set_option maxHeartbeats 4000000 in
set_option maxRecDepth 100000 in
theorem c_X_manager (l : Launch) (D : va_G) (h0 sz : Nat) (u : XS) (w0 : va_W) (cA : ClassId) (hI : IX h0 u w0 cA) (hD0 : va_D (fun _ => True) w0) (n : Int32) (tt : Int64) (hz : ∀ j, j < u.1 → ((u.2.2 j).2.2.2.2.2.2.2.2.2.2.2.2.2.1 = 0 ∨ (u.2.2 j).2.2.2.2.2.2.2.2.2.2.2.2.2.1 = 1)) : Met l y_X_manager (cw_X_manager :: BIG) ((rmk 5 0 0)) (va_Pc [.ref h0, .int n, .long tt] (fun U => U.heap.size = sz ∧ va_P D cls_ w0 U.heap ∧ va_K D cls_ [(cA, .object R_N)] U ∧ NK U)) (va_Qi (fun (r : Int32) (u2 : XS) => r = (F_X_manager u n tt).1 ∧ u2 = (F_X_manager u n tt).2) (atX D h0 (va_A w0 sz)) (va_A w0 sz)) 0 0 (va_A w0 sz) := by
  obtain ⟨arr, f, ad, hI⟩ := hI
  refine Met.ofW (cc := b_X_manager) (maxL := 5) (ret := (some .int)) (by decide) rfl ?_
  intro p e s m args below meth c s₁ B hml hv
  obtain ⟨rfl, hsz, hP, hK, hN⟩ := hv
  have hx := B.exec
  have hb := B.bytes
  have hr := B.returns
  have htB : ∀ w ∈ BIG, w.before _ s = true := fun w h => atoms_spec (ws := cw_X_manager :: BIG) B.pre w (List.mem_cons_of_mem _ h)
  have hown : s.vm.findClass R_X = some m.cls := findClass_of_methodNamed B.named
  have hlocks := B.notSynchronized
  have hD : va_D (va_A w0 sz) w0 := hD0.self
  have hS : va_S (va_A w0 sz) s.heap s.heap [] := va_S.rf
  obtain ⟨kx, hkx⟩ := hI.2.1
  obtain ⟨wx, hwx⟩ : ∃ w, w = w0 := ⟨_, rfl⟩
  have hP : va_P D cls_ wx s.heap := by rw [hwx]; exact hP
  have hI : IXp h0 u wx cA arr f ad := by rw [hwx]; exact hI
  have hD : va_D (va_A w0 sz) wx := by rw [hwx]; exact hD
  have hkx : wx[kx]? = some (h0, .inr (1, [.ref arr, .int (nI u.1), .long u.2.1])) := by rw [hwx]; exact hkx
  have hl := lv_entry ([.ref h0, .int n, .long tt]) (n := 5) (Nat.le_of_ble_eq_true rfl)
  rw [lg_entry_eq]
  generalize (lg_sl ([.ref h0, .int n, .long tt]) ++ List.replicate (5 - (lg_sl ([.ref h0, .int n, .long tt])).length) Slot.unset).toArray = ls at hl ⊢
  have hl : lv_has ls 5 [(0, .ref h0), (1, .int n), (2, .long tt)] := hl
  refine lv_aload_n hx hb d_X_manager_0 rfl (lv_at hl 0 rfl) ?_
  refine lv_iload_n hx hb d_X_manager_1 rfl (lv_at hl 1 rfl) ?_
  refine va_csq (va_Run.run (va_runV (As := [.int n]) (rest := []) ⟨hx, hb, hml, hown, htB⟩ (c_X_find l D h0 u wx cA arr f ad hI n) (cwV 1 htB g_X_24 rfl rfl rfl (by decide +kernel) ⟨Nat.le_of_ble_eq_true rfl, Nat.le_of_ble_eq_true rfl⟩) (preV hP hK hN (va_recv hK hP (ci := 1) (q0 := kx) rfl hkx)) rfl rfl hl.1 rfl (lv_room (Nat.le_of_ble_eq_true rfl)) d_X_manager_2 ⟨Nat.le_of_ble_eq_true rfl, Nat.le_of_ble_eq_true rfl⟩)) (fun r hrr => ?_)
  rcases hj : ix u.1 n with _ | j
  · rw [hj] at hrr
    have hrr : r = none := hrr
    subst hrr
    refine lv_astoreN (lv' := [(4, .null), (0, .ref h0), (1, .int n), (2, .long tt)]) hx hb d_X_manager_5 hl (by decide) rfl (fun ls hl => ?_)
    refine lv_aloadN hx hb d_X_manager_7 (lv_at hl 0 rfl) ?_
    refine lv_ifnonnullN hx hb d_X_manager_9 ?_
    refine lv_iconst (v := (-1)) hx hb d_X_manager_12 (by decide) ?_
    have hF : F_X_manager u n tt = (-1, u) := by unfold F_X_manager; rw [hj]
    exact W.iret hx hb hr (fun t ht hW => ⟨⟨-1, u, rfl, ⟨(congrArg Prod.fst hF).symm, (congrArg Prod.snd hF).symm⟩, wx, cA, ⟨arr, f, ad, hI⟩, by rw [ht]; exact hP, va_K.moved hW.alike hK, hD⟩, hS.F ht⟩) hS.2.2 d_X_manager_13
  · rw [hj] at hrr
    have hrr : r = some (ad j) := hrr
    subst hrr
    obtain ⟨hjl, -⟩ := ix_some hI.1 hj
    obtain ⟨-, kn, hn⟩ := hI.2.2.2.1 j hjl
    have hnx : kn ≠ kx := fun q => by rw [q, hkx] at hn; have := congrArg Prod.snd (Option.some.inj hn); simp at this
    have hzj := hz j hjl
    obtain ⟨z, hu⟩ : ∃ z, u.2.2 j = z := ⟨_, rfl⟩
    rw [hu] at hzj
    rw [hu] at hn
    obtain ⟨a0, a1, a2, a3, a4, a5, a6, a7, a8, a9, a10, a11, a12, a13, a14⟩ := z
    have hb_a13 := hzj
    have hb_a13 : a13 = 0 ∨ a13 = 1 := hb_a13
    have hF : F_X_manager u n tt = ((g_X_manager u.2.1 (a0, a1, a2, a3, a4, a5, a6, a7, a8, a9, a10, a11, a12, a13, a14) tt).1, ((u.1, (g_X_manager u.2.1 (a0, a1, a2, a3, a4, a5, a6, a7, a8, a9, a10, a11, a12, a13, a14) tt).2.1, va_up u.2.2 j (g_X_manager u.2.1 (a0, a1, a2, a3, a4, a5, a6, a7, a8, a9, a10, a11, a12, a13, a14) tt).2.2) : XS)) := by unfold F_X_manager; rw [hj]; show ((g_X_manager u.2.1 (u.2.2 j) tt).1, ((u.1, (g_X_manager u.2.1 (u.2.2 j) tt).2.1, va_up u.2.2 j (g_X_manager u.2.1 (u.2.2 j) tt).2.2) : XS)) = _; rw [hu]
    refine lv_astore (lv' := [(4, .ref (ad j)), (0, .ref h0), (1, .int n), (2, .long tt)]) hx hb d_X_manager_5 hl (by decide) rfl (fun ls hl => ?_)
    refine lv_aload hx hb d_X_manager_7 (lv_at hl 0 rfl) ?_
    refine lv_ifnonnull (tgt := 14) hx hb d_X_manager_9 (by decide) ?_
    have hn : wx[kn]? = some ((ad j), .inr (0, [.int a0, .int a1, .int a2, .int a3, .int a4, .int a5, .int a6, .int a7, .int a8, .int a9, .int a10, .int a11, .long a12, .int a13, .int a14])) := hn
    have hc : g_X_manager u.2.1 (a0, a1, a2, a3, a4, a5, a6, a7, a8, a9, a10, a11, a12, a13, a14) tt = g_X_manager u.2.1 (a0, a1, a2, a3, a4, a5, a6, a7, a8, a9, a10, a11, a12, a13, a14) tt := rfl
    refine lv_lload_n hx hb d_X_manager_14 rfl (lv_at hl 3 rfl) ?_
    refine lv_aload_n hx hb d_X_manager_15 rfl (lv_at hl 1 rfl) ?_
    refine va_get (D := D) (ci := 1) (v := .long u.2.1) (C := R_X) (T := F_X) (N := 3) hx hb htB uw_X hown hK hP kx hkx rfl 2 (by decide) (htB _ fl_X_19) (fun _ h9 => h9) rfl d_X_manager_16 ?_
    refine W.lcmp hx hb d_X_manager_19 ?_
    refine lv_if_ge (tgt := 26) hx hb d_X_manager_20 (by decide) (fun c_1 => ?_) (fun c_1 => ?_)
    · refine lv_aload_n hx hb d_X_manager_26 rfl (lv_at hl 1 rfl) ?_
      refine lv_lload_n hx hb d_X_manager_27 rfl (lv_at hl 3 rfl) ?_
      refine va_put (D := D) (ci := 1) (v := .long tt) (ty := .long) (C := R_X) (T := F_X) (N := 3) hx hb htB uw_X t_X t_X_ok n_X hown hK hP hD hS kx hkx rfl 2 (by decide) (htB _ fl_X_19) (fun _ h9 => h9) rfl (t_X_ok 2 (by decide)) rfl rfl (Nat.le_of_ble_eq_true rfl) d_X_manager_28 (fun H locs hP hD hS => ?_)
      have hI := hI.time hkx tt
      have hn : (wx.set kx (h0, .inr (1, [.ref arr, .int (nI u.1), .long tt])))[kn]? = some ((ad j), .inr (0, [.int a0, .int a1, .int a2, .int a3, .int a4, .int a5, .int a6, .int a7, .int a8, .int a9, .int a10, .int a11, .long a12, .int a13, .int a14])) := sn hnx hn
      have hP : va_P D cls_ (wx.set kx (h0, .inr (1, [.ref arr, .int (nI u.1), .long tt]))) _ := hP
      have hD : va_D (va_A w0 sz) (wx.set kx (h0, .inr (1, [.ref arr, .int (nI u.1), .long tt]))) := hD
      generalize wx.set kx (h0, .inr (1, [.ref arr, .int (nI u.1), .long tt])) = wx at hI hn hP hD
      have hP := psame hP hn
      have hD := dsame hD hn
      refine lv_aload hx hb d_X_manager_31 (lv_at hl 0 rfl) ?_
      refine lv_lload_n hx hb d_X_manager_33 rfl (lv_at hl 3 rfl) ?_
      refine va_calli (va_runV (As := [.long tt]) (rest := []) ⟨hx, hb, hml, hown, htB⟩ (c_N_mayComeBack l D (ad j) (a0, a1, a2, a3, a4, a5, a6, a7, a8, a9, a10, a11, a12, a13, a14) tt hb_a13) (cwV 1 htB g_X_63 rfl rfl rfl (by decide +kernel) ⟨Nat.le_of_ble_eq_true rfl, Nat.le_of_ble_eq_true rfl⟩) (preV (pone hP (sg hn)) (hK.sub (tys' := []) [] rfl) hN (va_recv hK hP (ci := 0) (q0 := kn) rfl (sg hn))) rfl rfl hl.1 rfl (lv_room (Nat.le_of_ble_eq_true rfl)) d_X_manager_34 ⟨Nat.le_of_ble_eq_true rfl, Nat.le_of_ble_eq_true rfl⟩) hS (fun q _ h => by rw [h]; exact hD.2 kn _ (sg hn)) (fun q h => by rw [h]; exact hD.2 kn _ (sg hn)) (fun r_3 u9 t H1 locs ht hvm hw hB hz1 hk1 hS => ?_)
      rw [ht] at hB
      obtain ⟨b2_0, b2_1, b2_2, b2_3, b2_4, b2_5, b2_6, b2_7, b2_8, b2_9, b2_10, b2_11, b2_12, b2_13, b2_14⟩ := u9
      obtain ⟨hP, hD⟩ := pcall (e2 := .inr (0, [.int b2_0, .int b2_1, .int b2_2, .int b2_3, .int b2_4, .int b2_5, .int b2_6, .int b2_7, .int b2_8, .int b2_9, .int b2_10, .int b2_11, .long b2_12, .int b2_13, .int b2_14])) hP hD (sg hn) hk1 hB
      rw [List.set_set] at hP hD
      have hw : (r_3, (b2_0, b2_1, b2_2, b2_3, b2_4, b2_5, b2_6, b2_7, b2_8, b2_9, b2_10, b2_11, b2_12, b2_13, b2_14)) = f_N_mayComeBack (a0, a1, a2, a3, a4, a5, a6, a7, a8, a9, a10, a11, a12, a13, a14) tt := Prod.ext hw.1 hw.2
      have hc : g_X_manager u.2.1 (a0, a1, a2, a3, a4, a5, a6, a7, a8, a9, a10, a11, a12, a13, a14) tt = g_X_manager_k2 (r_3, (b2_0, b2_1, b2_2, b2_3, b2_4, b2_5, b2_6, b2_7, b2_8, b2_9, b2_10, b2_11, b2_12, b2_13, b2_14)) tt := (hc.trans (if_pos c_1)).trans (congrArg (fun z => g_X_manager_k2 z tt) hw.symm)
      refine lv_if_eq (tgt := 44) hx hb d_X_manager_37 (by decide) (fun c_4 => ?_) (fun c_4 => ?_)
      · refine lv_iconst (v := 0) hx hb d_X_manager_44 (by decide) ?_
        have he : g_X_manager u.2.1 (a0, a1, a2, a3, a4, a5, a6, a7, a8, a9, a10, a11, a12, a13, a14) tt = (0, tt, (b2_0, b2_1, b2_2, b2_3, b2_4, b2_5, b2_6, b2_7, b2_8, b2_9, b2_10, b2_11, b2_12, b2_13, b2_14)) := hc.trans (if_pos c_4)
        have he := hF.trans (congrArg (fun z : Int32 × Int64 × NS => (z.1, ((u.1, z.2.1, va_up u.2.2 j z.2.2) : XS))) he)
        exact W.iret hx hb hr (fun t ht hW => ⟨⟨0, (u.1, tt, va_up u.2.2 j (b2_0, b2_1, b2_2, b2_3, b2_4, b2_5, b2_6, b2_7, b2_8, b2_9, b2_10, b2_11, b2_12, b2_13, b2_14)), rfl, ⟨(congrArg Prod.fst he).symm, (congrArg Prod.snd he).symm⟩, wx.set kn (ad j, .inr (0, n_fs (b2_0, b2_1, b2_2, b2_3, b2_4, b2_5, b2_6, b2_7, b2_8, b2_9, b2_10, b2_11, b2_12, b2_13, b2_14))), cA, ⟨arr, f, ad, hI.node hjl hn (b2_0, b2_1, b2_2, b2_3, b2_4, b2_5, b2_6, b2_7, b2_8, b2_9, b2_10, b2_11, b2_12, b2_13, b2_14)⟩, by rw [ht]; exact hP, va_K.moved hW.alike hK, hD⟩, hS.F ht⟩) hS.2.2 d_X_manager_45
      · refine lv_iconst (v := 1) hx hb d_X_manager_40 (by decide) ?_
        refine lv_goto (tgt := 45) hx hb d_X_manager_41 (by decide) ?_
        have he : g_X_manager u.2.1 (a0, a1, a2, a3, a4, a5, a6, a7, a8, a9, a10, a11, a12, a13, a14) tt = (1, tt, (b2_0, b2_1, b2_2, b2_3, b2_4, b2_5, b2_6, b2_7, b2_8, b2_9, b2_10, b2_11, b2_12, b2_13, b2_14)) := hc.trans (if_neg c_4)
        have he := hF.trans (congrArg (fun z : Int32 × Int64 × NS => (z.1, ((u.1, z.2.1, va_up u.2.2 j z.2.2) : XS))) he)
        exact W.iret hx hb hr (fun t ht hW => ⟨⟨1, (u.1, tt, va_up u.2.2 j (b2_0, b2_1, b2_2, b2_3, b2_4, b2_5, b2_6, b2_7, b2_8, b2_9, b2_10, b2_11, b2_12, b2_13, b2_14)), rfl, ⟨(congrArg Prod.fst he).symm, (congrArg Prod.snd he).symm⟩, wx.set kn (ad j, .inr (0, n_fs (b2_0, b2_1, b2_2, b2_3, b2_4, b2_5, b2_6, b2_7, b2_8, b2_9, b2_10, b2_11, b2_12, b2_13, b2_14))), cA, ⟨arr, f, ad, hI.node hjl hn (b2_0, b2_1, b2_2, b2_3, b2_4, b2_5, b2_6, b2_7, b2_8, b2_9, b2_10, b2_11, b2_12, b2_13, b2_14)⟩, by rw [ht]; exact hP, va_K.moved hW.alike hK, hD⟩, hS.F ht⟩) hS.2.2 d_X_manager_45
    · refine lv_bipush (v := (-2)) hx hb d_X_manager_23 (by decide) ?_
      have hP := psame hP hn
      have hD := dsame hD hn
      have he : g_X_manager u.2.1 (a0, a1, a2, a3, a4, a5, a6, a7, a8, a9, a10, a11, a12, a13, a14) tt = ((-2), u.2.1, (a0, a1, a2, a3, a4, a5, a6, a7, a8, a9, a10, a11, a12, a13, a14)) := hc.trans (if_neg c_1)
      have he := hF.trans (congrArg (fun z : Int32 × Int64 × NS => (z.1, ((u.1, z.2.1, va_up u.2.2 j z.2.2) : XS))) he)
      exact W.iret hx hb hr (fun t ht hW => ⟨⟨(-2), (u.1, u.2.1, va_up u.2.2 j (a0, a1, a2, a3, a4, a5, a6, a7, a8, a9, a10, a11, a12, a13, a14)), rfl, ⟨(congrArg Prod.fst he).symm, (congrArg Prod.snd he).symm⟩, wx.set kn (ad j, .inr (0, n_fs (a0, a1, a2, a3, a4, a5, a6, a7, a8, a9, a10, a11, a12, a13, a14))), cA, ⟨arr, f, ad, hI.node hjl hn (a0, a1, a2, a3, a4, a5, a6, a7, a8, a9, a10, a11, a12, a13, a14)⟩, by rw [ht]; exact hP, va_K.moved hW.alike hK, hD⟩, hS.F ht⟩) hS.2.2 d_X_manager_25
def g_X_two_k8 (u : NS) (k : Int32) (q : Int32) : Int32 × NS := let b8_0 := u.1; let b8_1 := u.2.1; let b8_2 := u.2.2.1; let b8_3 := u.2.2.2.1; let b8_4 := u.2.2.2.2.1; let b8_5 := u.2.2.2.2.2.1; let b8_6 := u.2.2.2.2.2.2.1; let b8_7 := u.2.2.2.2.2.2.2.1; let b8_8 := u.2.2.2.2.2.2.2.2.1; let b8_9 := u.2.2.2.2.2.2.2.2.2.1; let b8_10 := u.2.2.2.2.2.2.2.2.2.2.1; let b8_11 := u.2.2.2.2.2.2.2.2.2.2.2.1; let b8_12 := u.2.2.2.2.2.2.2.2.2.2.2.2.1; let b8_13 := u.2.2.2.2.2.2.2.2.2.2.2.2.2.1; let b8_14 := u.2.2.2.2.2.2.2.2.2.2.2.2.2.2; (f_N_condition (b8_0, b8_1, b8_2, b8_3, b8_4, b8_5, b8_6, b8_7, b8_8, b8_9, b8_10, b8_11, b8_12, b8_13, b8_14), (b8_0, b8_1, b8_2, b8_3, b8_4, b8_5, b8_6, b8_7, b8_8, b8_9, b8_10, b8_11, b8_12, b8_13, b8_14))
def g_X_two (u : NS) (k : Int32) (q : Int32) : Int32 × NS := let a0 := u.1; let a1 := u.2.1; let a2 := u.2.2.1; let a3 := u.2.2.2.1; let a4 := u.2.2.2.2.1; let a5 := u.2.2.2.2.2.1; let a6 := u.2.2.2.2.2.2.1; let a7 := u.2.2.2.2.2.2.2.1; let a8 := u.2.2.2.2.2.2.2.2.1; let a9 := u.2.2.2.2.2.2.2.2.2.1; let a10 := u.2.2.2.2.2.2.2.2.2.2.1; let a11 := u.2.2.2.2.2.2.2.2.2.2.2.1; let a12 := u.2.2.2.2.2.2.2.2.2.2.2.2.1; let a13 := u.2.2.2.2.2.2.2.2.2.2.2.2.2.1; let a14 := u.2.2.2.2.2.2.2.2.2.2.2.2.2.2; if (f_X_isKind k) = 0 then ((-2), (a0, a1, a2, a3, a4, a5, a6, a7, a8, a9, a10, a11, a12, a13, a14)) else (if (f_X_isKind q) = 0 then ((-2), (a0, a1, a2, a3, a4, a5, a6, a7, a8, a9, a10, a11, a12, a13, a14)) else (if k = 0 then ((-2), (a0, a1, a2, a3, a4, a5, a6, a7, a8, a9, a10, a11, a12, a13, a14)) else (if q = 0 then ((-2), (a0, a1, a2, a3, a4, a5, a6, a7, a8, a9, a10, a11, a12, a13, a14)) else (if a2 = 0 then (g_X_two_k8 (f_N_undergoBoth (a0, a1, a2, a3, a4, a5, a6, a7, a8, a9, a10, a11, a12, a13, a14) (if q < k then q else k) (if k < q then q else k)) k q) else ((-3), (a0, a1, a2, a3, a4, a5, a6, a7, a8, a9, a10, a11, a12, a13, a14))))))
def F_X_two (u : XS) (n : Int32) (k : Int32) (q : Int32) : Int32 × XS := match ix u.1 n with
  | none => (-1, u)
  | some j => ((g_X_two (u.2.2 j) k q).1, ((u.1, u.2.1, va_up u.2.2 j (g_X_two (u.2.2 j) k q).2) : XS))
set_option maxHeartbeats 4000000 in
set_option maxRecDepth 100000 in
theorem c_X_two (l : Launch) (D : va_G) (h0 sz : Nat) (u : XS) (w0 : va_W) (cA : ClassId) (hI : IX h0 u w0 cA) (hD0 : va_D (fun _ => True) w0) (n : Int32) (k : Int32) (q : Int32) : Met l y_X_two (cw_X_two :: BIG) ((rmk 5 0 0)) (va_Pc [.ref h0, .int n, .int k, .int q] (fun U => U.heap.size = sz ∧ va_P D cls_ w0 U.heap ∧ va_K D cls_ [(cA, .object R_N)] U ∧ NK U)) (va_Qi (fun (r : Int32) (u2 : XS) => r = (F_X_two u n k q).1 ∧ u2 = (F_X_two u n k q).2) (atX D h0 (va_A w0 sz)) (va_A w0 sz)) 0 0 (va_A w0 sz) := by
  obtain ⟨arr, f, ad, hI⟩ := hI
  refine Met.ofW (cc := b_X_two) (maxL := 5) (ret := (some .int)) (by decide) rfl ?_
  intro p e s m args below meth c s₁ B hml hv
  obtain ⟨rfl, hsz, hP, hK, hN⟩ := hv
  have hx := B.exec
  have hb := B.bytes
  have hr := B.returns
  have htB : ∀ w ∈ BIG, w.before _ s = true := fun w h => atoms_spec (ws := cw_X_two :: BIG) B.pre w (List.mem_cons_of_mem _ h)
  have hown : s.vm.findClass R_X = some m.cls := findClass_of_methodNamed B.named
  have hlocks := B.notSynchronized
  have hD : va_D (va_A w0 sz) w0 := hD0.self
  have hS : va_S (va_A w0 sz) s.heap s.heap [] := va_S.rf
  obtain ⟨kx, hkx⟩ := hI.2.1
  obtain ⟨wx, hwx⟩ : ∃ w, w = w0 := ⟨_, rfl⟩
  have hP : va_P D cls_ wx s.heap := by rw [hwx]; exact hP
  have hI : IXp h0 u wx cA arr f ad := by rw [hwx]; exact hI
  have hD : va_D (va_A w0 sz) wx := by rw [hwx]; exact hD
  have hkx : wx[kx]? = some (h0, .inr (1, [.ref arr, .int (nI u.1), .long u.2.1])) := by rw [hwx]; exact hkx
  have hl := lv_entry ([.ref h0, .int n, .int k, .int q]) (n := 5) (Nat.le_of_ble_eq_true rfl)
  rw [lg_entry_eq]
  generalize (lg_sl ([.ref h0, .int n, .int k, .int q]) ++ List.replicate (5 - (lg_sl ([.ref h0, .int n, .int k, .int q])).length) Slot.unset).toArray = ls at hl ⊢
  have hl : lv_has ls 5 [(0, .ref h0), (1, .int n), (2, .int k), (3, .int q)] := hl
  refine lv_aload_n hx hb d_X_two_0 rfl (lv_at hl 0 rfl) ?_
  refine lv_iload_n hx hb d_X_two_1 rfl (lv_at hl 1 rfl) ?_
  refine va_csq (va_Run.run (va_runV (As := [.int n]) (rest := []) ⟨hx, hb, hml, hown, htB⟩ (c_X_find l D h0 u wx cA arr f ad hI n) (cwV 1 htB g_X_24 rfl rfl rfl (by decide +kernel) ⟨Nat.le_of_ble_eq_true rfl, Nat.le_of_ble_eq_true rfl⟩) (preV hP hK hN (va_recv hK hP (ci := 1) (q0 := kx) rfl hkx)) rfl rfl hl.1 rfl (lv_room (Nat.le_of_ble_eq_true rfl)) d_X_two_2 ⟨Nat.le_of_ble_eq_true rfl, Nat.le_of_ble_eq_true rfl⟩)) (fun r hrr => ?_)
  rcases hj : ix u.1 n with _ | j
  · rw [hj] at hrr
    have hrr : r = none := hrr
    subst hrr
    refine lv_astoreN (lv' := [(4, .null), (0, .ref h0), (1, .int n), (2, .int k), (3, .int q)]) hx hb d_X_two_5 hl (by decide) rfl (fun ls hl => ?_)
    refine lv_aloadN hx hb d_X_two_7 (lv_at hl 0 rfl) ?_
    refine lv_ifnonnullN hx hb d_X_two_9 ?_
    refine lv_iconst (v := (-1)) hx hb d_X_two_12 (by decide) ?_
    have hF : F_X_two u n k q = (-1, u) := by unfold F_X_two; rw [hj]
    exact W.iret hx hb hr (fun t ht hW => ⟨⟨-1, u, rfl, ⟨(congrArg Prod.fst hF).symm, (congrArg Prod.snd hF).symm⟩, wx, cA, ⟨arr, f, ad, hI⟩, by rw [ht]; exact hP, va_K.moved hW.alike hK, hD⟩, hS.F ht⟩) hS.2.2 d_X_two_13
  · rw [hj] at hrr
    have hrr : r = some (ad j) := hrr
    subst hrr
    obtain ⟨hjl, -⟩ := ix_some hI.1 hj
    obtain ⟨-, kn, hn⟩ := hI.2.2.2.1 j hjl
    have hnx : kn ≠ kx := fun q => by rw [q, hkx] at hn; have := congrArg Prod.snd (Option.some.inj hn); simp at this
    obtain ⟨z, hu⟩ : ∃ z, u.2.2 j = z := ⟨_, rfl⟩
    rw [hu] at hn
    obtain ⟨a0, a1, a2, a3, a4, a5, a6, a7, a8, a9, a10, a11, a12, a13, a14⟩ := z
    have hF : F_X_two u n k q = ((g_X_two (a0, a1, a2, a3, a4, a5, a6, a7, a8, a9, a10, a11, a12, a13, a14) k q).1, ((u.1, u.2.1, va_up u.2.2 j (g_X_two (a0, a1, a2, a3, a4, a5, a6, a7, a8, a9, a10, a11, a12, a13, a14) k q).2) : XS)) := by unfold F_X_two; rw [hj]; show ((g_X_two (u.2.2 j) k q).1, ((u.1, u.2.1, va_up u.2.2 j (g_X_two (u.2.2 j) k q).2) : XS)) = _; rw [hu]
    refine lv_astore (lv' := [(4, .ref (ad j)), (0, .ref h0), (1, .int n), (2, .int k), (3, .int q)]) hx hb d_X_two_5 hl (by decide) rfl (fun ls hl => ?_)
    refine lv_aload hx hb d_X_two_7 (lv_at hl 0 rfl) ?_
    refine lv_ifnonnull (tgt := 14) hx hb d_X_two_9 (by decide) ?_
    have hn : wx[kn]? = some ((ad j), .inr (0, [.int a0, .int a1, .int a2, .int a3, .int a4, .int a5, .int a6, .int a7, .int a8, .int a9, .int a10, .int a11, .long a12, .int a13, .int a14])) := hn
    have hP := psame hP hn
    have hD := dsame hD hn
    have hc : g_X_two (a0, a1, a2, a3, a4, a5, a6, a7, a8, a9, a10, a11, a12, a13, a14) k q = g_X_two (a0, a1, a2, a3, a4, a5, a6, a7, a8, a9, a10, a11, a12, a13, a14) k q := rfl
    refine lv_iload_n hx hb d_X_two_14 rfl (lv_at hl 3 rfl) ?_
    refine vp_callSi (va_Run.run (va_runS (As := [.int k]) (rest := []) ⟨hx, hb, hml, hown, htB⟩ (c_X_isKind l k) (cwS 1 htB g_X_28 rfl rfl rfl (by decide +kernel) ⟨Nat.le_of_ble_eq_true rfl, Nat.le_of_ble_eq_true rfl⟩) (preN hN) rfl rfl hl.1 rfl (lv_room (Nat.le_of_ble_eq_true rfl)) d_X_two_15 ⟨Nat.le_of_ble_eq_true rfl, Nat.le_of_ble_eq_true rfl⟩)) (fun r_1 hr_1 => ?_)
    subst hr_1
    refine lv_if_eq (tgt := 36) hx hb d_X_two_18 (by decide) (fun c_2 => ?_) (fun c_2 => ?_)
    · refine lv_bipush (v := (-2)) hx hb d_X_two_36 (by decide) ?_
      have he : g_X_two (a0, a1, a2, a3, a4, a5, a6, a7, a8, a9, a10, a11, a12, a13, a14) k q = ((-2), (a0, a1, a2, a3, a4, a5, a6, a7, a8, a9, a10, a11, a12, a13, a14)) := hc.trans (if_pos c_2)
      have he := hF.trans (congrArg (fun z : Int32 × NS => (z.1, ((u.1, u.2.1, va_up u.2.2 j z.2) : XS))) he)
      exact W.iret hx hb hr (fun t ht hW => ⟨⟨(-2), (u.1, u.2.1, va_up u.2.2 j (a0, a1, a2, a3, a4, a5, a6, a7, a8, a9, a10, a11, a12, a13, a14)), rfl, ⟨(congrArg Prod.fst he).symm, (congrArg Prod.snd he).symm⟩, wx.set kn (ad j, .inr (0, n_fs (a0, a1, a2, a3, a4, a5, a6, a7, a8, a9, a10, a11, a12, a13, a14))), cA, ⟨arr, f, ad, hI.node hjl hn (a0, a1, a2, a3, a4, a5, a6, a7, a8, a9, a10, a11, a12, a13, a14)⟩, by rw [ht]; exact hP, va_K.moved hW.alike hK, hD⟩, hS.F ht⟩) hS.2.2 d_X_two_38
    · refine lv_iload_n hx hb d_X_two_21 rfl (lv_at hl 4 rfl) ?_
      refine vp_callSi (va_Run.run (va_runS (As := [.int q]) (rest := []) ⟨hx, hb, hml, hown, htB⟩ (c_X_isKind l q) (cwS 1 htB g_X_28 rfl rfl rfl (by decide +kernel) ⟨Nat.le_of_ble_eq_true rfl, Nat.le_of_ble_eq_true rfl⟩) (preN hN) rfl rfl hl.1 rfl (lv_room (Nat.le_of_ble_eq_true rfl)) d_X_two_22 ⟨Nat.le_of_ble_eq_true rfl, Nat.le_of_ble_eq_true rfl⟩)) (fun r_3 hr_3 => ?_)
      subst hr_3
      refine lv_if_eq (tgt := 36) hx hb d_X_two_25 (by decide) (fun c_4 => ?_) (fun c_4 => ?_)
      · refine lv_bipush (v := (-2)) hx hb d_X_two_36 (by decide) ?_
        have he : g_X_two (a0, a1, a2, a3, a4, a5, a6, a7, a8, a9, a10, a11, a12, a13, a14) k q = ((-2), (a0, a1, a2, a3, a4, a5, a6, a7, a8, a9, a10, a11, a12, a13, a14)) := hc.trans ((if_neg c_2).trans (if_pos c_4))
        have he := hF.trans (congrArg (fun z : Int32 × NS => (z.1, ((u.1, u.2.1, va_up u.2.2 j z.2) : XS))) he)
        exact W.iret hx hb hr (fun t ht hW => ⟨⟨(-2), (u.1, u.2.1, va_up u.2.2 j (a0, a1, a2, a3, a4, a5, a6, a7, a8, a9, a10, a11, a12, a13, a14)), rfl, ⟨(congrArg Prod.fst he).symm, (congrArg Prod.snd he).symm⟩, wx.set kn (ad j, .inr (0, n_fs (a0, a1, a2, a3, a4, a5, a6, a7, a8, a9, a10, a11, a12, a13, a14))), cA, ⟨arr, f, ad, hI.node hjl hn (a0, a1, a2, a3, a4, a5, a6, a7, a8, a9, a10, a11, a12, a13, a14)⟩, by rw [ht]; exact hP, va_K.moved hW.alike hK, hD⟩, hS.F ht⟩) hS.2.2 d_X_two_38
      · refine lv_iload_n hx hb d_X_two_28 rfl (lv_at hl 3 rfl) ?_
        refine lv_if_eq (tgt := 36) hx hb d_X_two_29 (by decide) (fun c_5 => ?_) (fun c_5 => ?_)
        · refine lv_bipush (v := (-2)) hx hb d_X_two_36 (by decide) ?_
          have he : g_X_two (a0, a1, a2, a3, a4, a5, a6, a7, a8, a9, a10, a11, a12, a13, a14) k q = ((-2), (a0, a1, a2, a3, a4, a5, a6, a7, a8, a9, a10, a11, a12, a13, a14)) := hc.trans ((if_neg c_2).trans ((if_neg c_4).trans (if_pos c_5)))
          have he := hF.trans (congrArg (fun z : Int32 × NS => (z.1, ((u.1, u.2.1, va_up u.2.2 j z.2) : XS))) he)
          exact W.iret hx hb hr (fun t ht hW => ⟨⟨(-2), (u.1, u.2.1, va_up u.2.2 j (a0, a1, a2, a3, a4, a5, a6, a7, a8, a9, a10, a11, a12, a13, a14)), rfl, ⟨(congrArg Prod.fst he).symm, (congrArg Prod.snd he).symm⟩, wx.set kn (ad j, .inr (0, n_fs (a0, a1, a2, a3, a4, a5, a6, a7, a8, a9, a10, a11, a12, a13, a14))), cA, ⟨arr, f, ad, hI.node hjl hn (a0, a1, a2, a3, a4, a5, a6, a7, a8, a9, a10, a11, a12, a13, a14)⟩, by rw [ht]; exact hP, va_K.moved hW.alike hK, hD⟩, hS.F ht⟩) hS.2.2 d_X_two_38
        · refine lv_iload_n hx hb d_X_two_32 rfl (lv_at hl 4 rfl) ?_
          refine lv_if_ne (tgt := 39) hx hb d_X_two_33 (by decide) (fun c_6 => ?_) (fun c_6 => ?_)
          · refine lv_aload hx hb d_X_two_39 (lv_at hl 0 rfl) ?_
            refine va_get (D := D) (ci := 0) (v := .int a2) (C := R_N) (T := F_N) (N := 15) hx hb htB uw_N hown hK hP kn (sg hn) rfl 2 (by decide) (htB _ fl_X_32) (fun _ h9 => h9) rfl d_X_two_41 ?_
            refine lv_if_eq (tgt := 50) hx hb d_X_two_44 (by decide) (fun c_7 => ?_) (fun c_7 => ?_)
            · refine lv_aload hx hb d_X_two_50 (lv_at hl 0 rfl) ?_
              refine lv_iload_n hx hb d_X_two_52 rfl (lv_at hl 3 rfl) ?_
              refine lv_iload_n hx hb d_X_two_53 rfl (lv_at hl 4 rfl) ?_
              refine va_mmin hx hb (hml.trans hl.1.symm) hown (htB _ ml_X_73) (htB _ st_math_min) (htB _ in_math) (htB _ co_math_min) (Nat.le_of_ble_eq_true rfl) (Nat.le_of_ble_eq_true rfl) (Nat.le_of_ble_eq_true rfl) (Nat.le_of_ble_eq_true rfl) d_X_two_54 ?_
              refine lv_iload_n hx hb d_X_two_57 rfl (lv_at hl 3 rfl) ?_
              refine lv_iload_n hx hb d_X_two_58 rfl (lv_at hl 4 rfl) ?_
              refine va_mmax hx hb (hml.trans hl.1.symm) hown (htB _ ml_X_79) (htB _ st_math_max) (htB _ in_math) (htB _ co_math_max) (Nat.le_of_ble_eq_true rfl) (Nat.le_of_ble_eq_true rfl) (Nat.le_of_ble_eq_true rfl) (Nat.le_of_ble_eq_true rfl) d_X_two_59 ?_
              refine va_callv (va_runV (As := [.int (if q < k then q else k), .int (if k < q then q else k)]) (rest := []) ⟨hx, hb, hml, hown, htB⟩ (c_N_undergoBoth l D (ad j) (a0, a1, a2, a3, a4, a5, a6, a7, a8, a9, a10, a11, a12, a13, a14) (if q < k then q else k) (if k < q then q else k)) (cwV 2 htB g_X_82 rfl rfl rfl (by decide +kernel) ⟨Nat.le_of_ble_eq_true rfl, Nat.le_of_ble_eq_true rfl⟩) (preV (pone hP (sg hn)) (hK.sub (tys' := []) [] rfl) hN (va_recv hK hP (ci := 0) (q0 := kn) rfl (sg hn))) rfl rfl hl.1 rfl (lv_room (Nat.le_of_ble_eq_true rfl)) d_X_two_62 ⟨Nat.le_of_ble_eq_true rfl, Nat.le_of_ble_eq_true rfl⟩) hS (fun q _ h => by rw [h]; exact hD.2 kn _ (sg hn)) (fun q h => by rw [h]; exact hD.2 kn _ (sg hn)) (fun u9 t H1 locs ht hvm hw hB hz1 hk1 hS => ?_)
              rw [ht] at hB
              obtain ⟨b8_0, b8_1, b8_2, b8_3, b8_4, b8_5, b8_6, b8_7, b8_8, b8_9, b8_10, b8_11, b8_12, b8_13, b8_14⟩ := u9
              obtain ⟨hP, hD⟩ := pcall (e2 := .inr (0, [.int b8_0, .int b8_1, .int b8_2, .int b8_3, .int b8_4, .int b8_5, .int b8_6, .int b8_7, .int b8_8, .int b8_9, .int b8_10, .int b8_11, .long b8_12, .int b8_13, .int b8_14])) hP hD (sg hn) hk1 hB
              rw [List.set_set] at hP hD
              have hc : g_X_two (a0, a1, a2, a3, a4, a5, a6, a7, a8, a9, a10, a11, a12, a13, a14) k q = g_X_two_k8 (b8_0, b8_1, b8_2, b8_3, b8_4, b8_5, b8_6, b8_7, b8_8, b8_9, b8_10, b8_11, b8_12, b8_13, b8_14) k q := (hc.trans ((if_neg c_2).trans ((if_neg c_4).trans ((if_neg c_5).trans ((if_neg c_6).trans (if_pos c_7)))))).trans (congrArg (fun z => g_X_two_k8 z k q) hw.symm)
              refine lv_aload hx hb d_X_two_65 (lv_at hl 0 rfl) ?_
              refine vp_callSi (va_Run.run (va_runV (As := []) (rest := []) ⟨hx, hb, hml, hown, htB⟩ (c_N_condition l D (ad j) (b8_0, b8_1, b8_2, b8_3, b8_4, b8_5, b8_6, b8_7, b8_8, b8_9, b8_10, b8_11, b8_12, b8_13, b8_14)) (cwV 0 htB g_X_43 rfl rfl rfl (by decide +kernel) ⟨Nat.le_of_ble_eq_true rfl, Nat.le_of_ble_eq_true rfl⟩) (preV (pone hP (sg hn)) (hK.sub (tys' := []) [] rfl) hN (va_recv hK hP (ci := 0) (q0 := kn) rfl (sg hn))) rfl rfl hl.1 rfl (lv_room (Nat.le_of_ble_eq_true rfl)) d_X_two_67 ⟨Nat.le_of_ble_eq_true rfl, Nat.le_of_ble_eq_true rfl⟩)) (fun r_9 hr_9 => ?_)
              subst hr_9
              have he : g_X_two (a0, a1, a2, a3, a4, a5, a6, a7, a8, a9, a10, a11, a12, a13, a14) k q = (f_N_condition (b8_0, b8_1, b8_2, b8_3, b8_4, b8_5, b8_6, b8_7, b8_8, b8_9, b8_10, b8_11, b8_12, b8_13, b8_14), (b8_0, b8_1, b8_2, b8_3, b8_4, b8_5, b8_6, b8_7, b8_8, b8_9, b8_10, b8_11, b8_12, b8_13, b8_14)) := hc.trans (rfl)
              have he := hF.trans (congrArg (fun z : Int32 × NS => (z.1, ((u.1, u.2.1, va_up u.2.2 j z.2) : XS))) he)
              exact W.iret hx hb hr (fun t ht hW => ⟨⟨f_N_condition (b8_0, b8_1, b8_2, b8_3, b8_4, b8_5, b8_6, b8_7, b8_8, b8_9, b8_10, b8_11, b8_12, b8_13, b8_14), (u.1, u.2.1, va_up u.2.2 j (b8_0, b8_1, b8_2, b8_3, b8_4, b8_5, b8_6, b8_7, b8_8, b8_9, b8_10, b8_11, b8_12, b8_13, b8_14)), rfl, ⟨(congrArg Prod.fst he).symm, (congrArg Prod.snd he).symm⟩, wx.set kn (ad j, .inr (0, n_fs (b8_0, b8_1, b8_2, b8_3, b8_4, b8_5, b8_6, b8_7, b8_8, b8_9, b8_10, b8_11, b8_12, b8_13, b8_14))), cA, ⟨arr, f, ad, hI.node hjl hn (b8_0, b8_1, b8_2, b8_3, b8_4, b8_5, b8_6, b8_7, b8_8, b8_9, b8_10, b8_11, b8_12, b8_13, b8_14)⟩, by rw [ht]; exact hP, va_K.moved hW.alike hK, hD⟩, hS.F ht⟩) hS.2.2 d_X_two_70
            · refine lv_bipush (v := (-3)) hx hb d_X_two_47 (by decide) ?_
              have he : g_X_two (a0, a1, a2, a3, a4, a5, a6, a7, a8, a9, a10, a11, a12, a13, a14) k q = ((-3), (a0, a1, a2, a3, a4, a5, a6, a7, a8, a9, a10, a11, a12, a13, a14)) := hc.trans ((if_neg c_2).trans ((if_neg c_4).trans ((if_neg c_5).trans ((if_neg c_6).trans (if_neg c_7)))))
              have he := hF.trans (congrArg (fun z : Int32 × NS => (z.1, ((u.1, u.2.1, va_up u.2.2 j z.2) : XS))) he)
              exact W.iret hx hb hr (fun t ht hW => ⟨⟨(-3), (u.1, u.2.1, va_up u.2.2 j (a0, a1, a2, a3, a4, a5, a6, a7, a8, a9, a10, a11, a12, a13, a14)), rfl, ⟨(congrArg Prod.fst he).symm, (congrArg Prod.snd he).symm⟩, wx.set kn (ad j, .inr (0, n_fs (a0, a1, a2, a3, a4, a5, a6, a7, a8, a9, a10, a11, a12, a13, a14))), cA, ⟨arr, f, ad, hI.node hjl hn (a0, a1, a2, a3, a4, a5, a6, a7, a8, a9, a10, a11, a12, a13, a14)⟩, by rw [ht]; exact hP, va_K.moved hW.alike hK, hD⟩, hS.F ht⟩) hS.2.2 d_X_two_49
          · refine lv_bipush (v := (-2)) hx hb d_X_two_36 (by decide) ?_
            have he : g_X_two (a0, a1, a2, a3, a4, a5, a6, a7, a8, a9, a10, a11, a12, a13, a14) k q = ((-2), (a0, a1, a2, a3, a4, a5, a6, a7, a8, a9, a10, a11, a12, a13, a14)) := hc.trans ((if_neg c_2).trans ((if_neg c_4).trans ((if_neg c_5).trans (if_pos c_6))))
            have he := hF.trans (congrArg (fun z : Int32 × NS => (z.1, ((u.1, u.2.1, va_up u.2.2 j z.2) : XS))) he)
            exact W.iret hx hb hr (fun t ht hW => ⟨⟨(-2), (u.1, u.2.1, va_up u.2.2 j (a0, a1, a2, a3, a4, a5, a6, a7, a8, a9, a10, a11, a12, a13, a14)), rfl, ⟨(congrArg Prod.fst he).symm, (congrArg Prod.snd he).symm⟩, wx.set kn (ad j, .inr (0, n_fs (a0, a1, a2, a3, a4, a5, a6, a7, a8, a9, a10, a11, a12, a13, a14))), cA, ⟨arr, f, ad, hI.node hjl hn (a0, a1, a2, a3, a4, a5, a6, a7, a8, a9, a10, a11, a12, a13, a14)⟩, by rw [ht]; exact hP, va_K.moved hW.alike hK, hD⟩, hS.F ht⟩) hS.2.2 d_X_two_38

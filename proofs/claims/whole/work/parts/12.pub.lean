def g_X_shot (u : NS) (w : Int32) : Int32 × NS := let a0 := u.1; let a1 := u.2.1; let a2 := u.2.2.1; let a3 := u.2.2.2.1; let a4 := u.2.2.2.2.1; let a6 := u.2.2.2.2.2.2.1; let a7 := u.2.2.2.2.2.2.2.1; let a8 := u.2.2.2.2.2.2.2.2.1; let a9 := u.2.2.2.2.2.2.2.2.2.1; let a10 := u.2.2.2.2.2.2.2.2.2.2.1; let a11 := u.2.2.2.2.2.2.2.2.2.2.2.1; let a12 := u.2.2.2.2.2.2.2.2.2.2.2.2.1; let a13 := u.2.2.2.2.2.2.2.2.2.2.2.2.2.1; let a14 := u.2.2.2.2.2.2.2.2.2.2.2.2.2.2; (a6, (a0, a1, a2, a3, a4, w, a6, a7, a8, a9, a10, a11, a12, a13, a14))
def F_X_shot (u : XS) (n : Int32) (w : Int32) : Int32 × XS := match ix u.1 n with
  | none => (-1, u)
  | some j => ((g_X_shot (u.2.2 j) w).1, ((u.1, u.2.1, va_up u.2.2 j (g_X_shot (u.2.2 j) w).2) : XS))
set_option maxHeartbeats 4000000 in
set_option maxRecDepth 100000 in
theorem c_X_shot (l : Launch) (D : va_G) (h0 sz : Nat) (u : XS) (w0 : va_W) (cA : ClassId) (hI : IX h0 u w0 cA) (hD0 : va_D (fun _ => True) w0) (n : Int32) (w : Int32) (hb_w : w = 0 ∨ w = 1) : Met l y_X_shot (cw_X_shot :: BIG) ((rmk 5 0 0)) (va_Pc [.ref h0, .int n, .int w] (fun U => U.heap.size = sz ∧ va_P D cls_ w0 U.heap ∧ va_K D cls_ [(cA, .object R_N)] U ∧ NK U)) (va_Qi (fun (r : Int32) (u2 : XS) => r = (F_X_shot u n w).1 ∧ u2 = (F_X_shot u n w).2) (atX D h0 (va_A w0 sz)) (va_A w0 sz)) 0 0 (va_A w0 sz) := by
  obtain ⟨arr, f, ad, hI⟩ := hI
  refine Met.ofW (cc := b_X_shot) (maxL := 4) (ret := (some .int)) (by decide) rfl ?_
  intro p e s m args below meth c s₁ B hml hv
  obtain ⟨rfl, hsz, hP, hK, hN⟩ := hv
  have hx := B.exec
  have hb := B.bytes
  have hr := B.returns
  have htB : ∀ w ∈ BIG, w.before _ s = true := fun w h => atoms_spec (ws := cw_X_shot :: BIG) B.pre w (List.mem_cons_of_mem _ h)
  have hown : s.vm.findClass R_X = some m.cls := findClass_of_methodNamed B.named
  have hlocks := B.notSynchronized
  have hD : va_D (va_A w0 sz) w0 := hD0.self
  have hS : va_S (va_A w0 sz) s.heap s.heap [] := va_S.rf
  obtain ⟨kx, hkx⟩ := hI.2.1
  obtain ⟨wx, hwx⟩ : ∃ w, w = w0 := ⟨_, rfl⟩
  have hP : va_P D cls_ wx s.heap := by rw [hwx]; exact hP
  have hI : IXp h0 u wx cA arr f ad := by rw [hwx]; exact hI
  have hD : va_D (va_A w0 sz) wx := by rw [hwx]; exact hD
  have hkx : wx[kx]? = some (h0, .inr (1, [.ref arr, .int (nI u.1), .long u.2.1])) := by rw [hwx]; exact hkx
  have hl := lv_entry ([.ref h0, .int n, .int w]) (n := 4) (Nat.le_of_ble_eq_true rfl)
  rw [lg_entry_eq]
  generalize (lg_sl ([.ref h0, .int n, .int w]) ++ List.replicate (4 - (lg_sl ([.ref h0, .int n, .int w])).length) Slot.unset).toArray = ls at hl ⊢
  have hl : lv_has ls 4 [(0, .ref h0), (1, .int n), (2, .int w)] := hl
  refine lv_aload_n hx hb d_X_shot_0 rfl (lv_at hl 0 rfl) ?_
  refine lv_iload_n hx hb d_X_shot_1 rfl (lv_at hl 1 rfl) ?_
  refine va_csq (va_Run.run (va_runV (As := [.int n]) (rest := []) ⟨hx, hb, hml, hown, htB⟩ (c_X_find l D h0 u wx cA arr f ad hI n) (cwV 1 htB g_X_24 rfl rfl rfl (by decide +kernel) ⟨Nat.le_of_ble_eq_true rfl, Nat.le_of_ble_eq_true rfl⟩) (preV hP hK hN (va_recv hK hP (ci := 1) (q0 := kx) rfl hkx)) rfl rfl hl.1 rfl (lv_room (Nat.le_of_ble_eq_true rfl)) d_X_shot_2 ⟨Nat.le_of_ble_eq_true rfl, Nat.le_of_ble_eq_true rfl⟩)) (fun r hrr => ?_)
  rcases hj : ix u.1 n with _ | j
  · rw [hj] at hrr
    have hrr : r = none := hrr
    subst hrr
    refine lv_astore_nN (lv' := [(3, .null), (0, .ref h0), (1, .int n), (2, .int w)]) hx hb d_X_shot_5 rfl hl (by decide) rfl (fun ls hl => ?_)
    refine lv_aload_nN hx hb d_X_shot_6 rfl (lv_at hl 0 rfl) ?_
    refine lv_ifnonnullN hx hb d_X_shot_7 ?_
    refine lv_iconst (v := (-1)) hx hb d_X_shot_10 (by decide) ?_
    have hF : F_X_shot u n w = (-1, u) := by unfold F_X_shot; rw [hj]
    exact W.iret hx hb hr (fun t ht hW => ⟨⟨-1, u, rfl, ⟨(congrArg Prod.fst hF).symm, (congrArg Prod.snd hF).symm⟩, wx, cA, ⟨arr, f, ad, hI⟩, by rw [ht]; exact hP, va_K.moved hW.alike hK, hD⟩, hS.F ht⟩) hS.2.2 d_X_shot_11
  · rw [hj] at hrr
    have hrr : r = some (ad j) := hrr
    subst hrr
    obtain ⟨hjl, -⟩ := ix_some hI.1 hj
    obtain ⟨-, kn, hn⟩ := hI.2.2.2.1 j hjl
    have hnx : kn ≠ kx := fun q => by rw [q, hkx] at hn; have := congrArg Prod.snd (Option.some.inj hn); simp at this
    obtain ⟨z, hu⟩ : ∃ z, u.2.2 j = z := ⟨_, rfl⟩
    rw [hu] at hn
    obtain ⟨a0, a1, a2, a3, a4, a5, a6, a7, a8, a9, a10, a11, a12, a13, a14⟩ := z
    have hF : F_X_shot u n w = ((g_X_shot (a0, a1, a2, a3, a4, a5, a6, a7, a8, a9, a10, a11, a12, a13, a14) w).1, ((u.1, u.2.1, va_up u.2.2 j (g_X_shot (a0, a1, a2, a3, a4, a5, a6, a7, a8, a9, a10, a11, a12, a13, a14) w).2) : XS)) := by unfold F_X_shot; rw [hj]; show ((g_X_shot (u.2.2 j) w).1, ((u.1, u.2.1, va_up u.2.2 j (g_X_shot (u.2.2 j) w).2) : XS)) = _; rw [hu]
    refine lv_astore_n (lv' := [(3, .ref (ad j)), (0, .ref h0), (1, .int n), (2, .int w)]) hx hb d_X_shot_5 rfl hl (by decide) rfl (fun ls hl => ?_)
    refine lv_aload_n hx hb d_X_shot_6 rfl (lv_at hl 0 rfl) ?_
    refine lv_ifnonnull (tgt := 12) hx hb d_X_shot_7 (by decide) ?_
    have hn : wx[kn]? = some ((ad j), .inr (0, [.int a0, .int a1, .int a2, .int a3, .int a4, .int a5, .int a6, .int a7, .int a8, .int a9, .int a10, .int a11, .long a12, .int a13, .int a14])) := hn
    have hP := psame hP hn
    have hD := dsame hD hn
    have hc : g_X_shot (a0, a1, a2, a3, a4, a5, a6, a7, a8, a9, a10, a11, a12, a13, a14) w = g_X_shot (a0, a1, a2, a3, a4, a5, a6, a7, a8, a9, a10, a11, a12, a13, a14) w := rfl
    refine lv_aload_n hx hb d_X_shot_12 rfl (lv_at hl 0 rfl) ?_
    refine lv_iload_n hx hb d_X_shot_13 rfl (lv_at hl 3 rfl) ?_
    refine va_put (D := D) (ci := 0) (v := .int w) (ty := .boolean) (C := R_N) (T := F_N) (N := 15) hx hb htB uw_N t_N t_N_ok n_N hown hK hP hD hS kn (sg hn) rfl 5 (by decide) (htB _ fl_X_67) (fun _ h9 => h9) rfl (t_N_ok 5 (by decide)) (nbp hb_w) (fbp hb_w) (Nat.le_of_ble_eq_true rfl) d_X_shot_14 (fun H locs hP hD hS => ?_)
    rw [List.set_set] at hP hD
    have hP : va_P D cls_ (wx.set kn ((ad j), .inr (0, [.int a0, .int a1, .int a2, .int a3, .int a4, .int w, .int a6, .int a7, .int a8, .int a9, .int a10, .int a11, .long a12, .int a13, .int a14]))) _ := hP
    have hD : va_D (va_A w0 sz) (wx.set kn ((ad j), .inr (0, [.int a0, .int a1, .int a2, .int a3, .int a4, .int w, .int a6, .int a7, .int a8, .int a9, .int a10, .int a11, .long a12, .int a13, .int a14]))) := hD
    refine lv_aload_n hx hb d_X_shot_17 rfl (lv_at hl 0 rfl) ?_
    refine va_get (D := D) (ci := 0) (v := .int a6) (C := R_N) (T := F_N) (N := 15) hx hb htB uw_N hown hK hP kn (sg hn) rfl 6 (by decide) (htB _ fl_X_70) (fun _ h9 => h9) rfl d_X_shot_18 ?_
    have he : g_X_shot (a0, a1, a2, a3, a4, a5, a6, a7, a8, a9, a10, a11, a12, a13, a14) w = (a6, (a0, a1, a2, a3, a4, w, a6, a7, a8, a9, a10, a11, a12, a13, a14)) := hc.trans (rfl)
    have he := hF.trans (congrArg (fun z : Int32 × NS => (z.1, ((u.1, u.2.1, va_up u.2.2 j z.2) : XS))) he)
    exact W.iret hx hb hr (fun t ht hW => ⟨⟨a6, (u.1, u.2.1, va_up u.2.2 j (a0, a1, a2, a3, a4, w, a6, a7, a8, a9, a10, a11, a12, a13, a14)), rfl, ⟨(congrArg Prod.fst he).symm, (congrArg Prod.snd he).symm⟩, wx.set kn (ad j, .inr (0, n_fs (a0, a1, a2, a3, a4, w, a6, a7, a8, a9, a10, a11, a12, a13, a14))), cA, ⟨arr, f, ad, hI.node hjl hn (a0, a1, a2, a3, a4, w, a6, a7, a8, a9, a10, a11, a12, a13, a14)⟩, by rw [ht]; exact hP, va_K.moved hW.alike hK, hD⟩, hS.F ht⟩) hS.2.2 d_X_shot_21
def g_X_listen (u : NS) (w : Int32) : Int32 × NS := let a0 := u.1; let a1 := u.2.1; let a2 := u.2.2.1; let a3 := u.2.2.2.1; let a4 := u.2.2.2.2.1; let a5 := u.2.2.2.2.2.1; let a6 := u.2.2.2.2.2.2.1; let a7 := u.2.2.2.2.2.2.2.1; let a8 := u.2.2.2.2.2.2.2.2.1; let a9 := u.2.2.2.2.2.2.2.2.2.1; let a10 := u.2.2.2.2.2.2.2.2.2.2.1; let a11 := u.2.2.2.2.2.2.2.2.2.2.2.1; let a12 := u.2.2.2.2.2.2.2.2.2.2.2.2.1; let a13 := u.2.2.2.2.2.2.2.2.2.2.2.2.2.1; let a14 := u.2.2.2.2.2.2.2.2.2.2.2.2.2.2; if a2 = 0 then (if a7 = w then (0, (a0, a1, a2, 0, a4, a5, a6, w, a8, a9, a10, a11, a12, a13, a14)) else (1, (a0, a1, a2, 0, a4, a5, a6, w, a8, a9, a10, a11, a12, a13, a14))) else ((-3), (a0, a1, a2, a3, a4, a5, a6, a7, a8, a9, a10, a11, a12, a13, a14))
def F_X_listen (u : XS) (n : Int32) (w : Int32) : Int32 × XS := match ix u.1 n with
  | none => (-1, u)
  | some j => ((g_X_listen (u.2.2 j) w).1, ((u.1, u.2.1, va_up u.2.2 j (g_X_listen (u.2.2 j) w).2) : XS))
set_option maxHeartbeats 4000000 in
set_option maxRecDepth 100000 in
theorem c_X_listen (l : Launch) (D : va_G) (h0 sz : Nat) (u : XS) (w0 : va_W) (cA : ClassId) (hI : IX h0 u w0 cA) (hD0 : va_D (fun _ => True) w0) (n : Int32) (w : Int32) (hb_w : w = 0 ∨ w = 1) : Met l y_X_listen (cw_X_listen :: BIG) ((rmk 5 0 0)) (va_Pc [.ref h0, .int n, .int w] (fun U => U.heap.size = sz ∧ va_P D cls_ w0 U.heap ∧ va_K D cls_ [(cA, .object R_N)] U ∧ NK U)) (va_Qi (fun (r : Int32) (u2 : XS) => r = (F_X_listen u n w).1 ∧ u2 = (F_X_listen u n w).2) (atX D h0 (va_A w0 sz)) (va_A w0 sz)) 0 0 (va_A w0 sz) := by
  obtain ⟨arr, f, ad, hI⟩ := hI
  refine Met.ofW (cc := b_X_listen) (maxL := 5) (ret := (some .int)) (by decide) rfl ?_
  intro p e s m args below meth c s₁ B hml hv
  obtain ⟨rfl, hsz, hP, hK, hN⟩ := hv
  have hx := B.exec
  have hb := B.bytes
  have hr := B.returns
  have htB : ∀ w ∈ BIG, w.before _ s = true := fun w h => atoms_spec (ws := cw_X_listen :: BIG) B.pre w (List.mem_cons_of_mem _ h)
  have hown : s.vm.findClass R_X = some m.cls := findClass_of_methodNamed B.named
  have hlocks := B.notSynchronized
  have hD : va_D (va_A w0 sz) w0 := hD0.self
  have hS : va_S (va_A w0 sz) s.heap s.heap [] := va_S.rf
  obtain ⟨kx, hkx⟩ := hI.2.1
  obtain ⟨wx, hwx⟩ : ∃ w, w = w0 := ⟨_, rfl⟩
  have hP : va_P D cls_ wx s.heap := by rw [hwx]; exact hP
  have hI : IXp h0 u wx cA arr f ad := by rw [hwx]; exact hI
  have hD : va_D (va_A w0 sz) wx := by rw [hwx]; exact hD
  have hkx : wx[kx]? = some (h0, .inr (1, [.ref arr, .int (nI u.1), .long u.2.1])) := by rw [hwx]; exact hkx
  have hl := lv_entry ([.ref h0, .int n, .int w]) (n := 5) (Nat.le_of_ble_eq_true rfl)
  rw [lg_entry_eq]
  generalize (lg_sl ([.ref h0, .int n, .int w]) ++ List.replicate (5 - (lg_sl ([.ref h0, .int n, .int w])).length) Slot.unset).toArray = ls at hl ⊢
  have hl : lv_has ls 5 [(0, .ref h0), (1, .int n), (2, .int w)] := hl
  refine lv_aload_n hx hb d_X_listen_0 rfl (lv_at hl 0 rfl) ?_
  refine lv_iload_n hx hb d_X_listen_1 rfl (lv_at hl 1 rfl) ?_
  refine va_csq (va_Run.run (va_runV (As := [.int n]) (rest := []) ⟨hx, hb, hml, hown, htB⟩ (c_X_find l D h0 u wx cA arr f ad hI n) (cwV 1 htB g_X_24 rfl rfl rfl (by decide +kernel) ⟨Nat.le_of_ble_eq_true rfl, Nat.le_of_ble_eq_true rfl⟩) (preV hP hK hN (va_recv hK hP (ci := 1) (q0 := kx) rfl hkx)) rfl rfl hl.1 rfl (lv_room (Nat.le_of_ble_eq_true rfl)) d_X_listen_2 ⟨Nat.le_of_ble_eq_true rfl, Nat.le_of_ble_eq_true rfl⟩)) (fun r hrr => ?_)
  rcases hj : ix u.1 n with _ | j
  · rw [hj] at hrr
    have hrr : r = none := hrr
    subst hrr
    refine lv_astore_nN (lv' := [(3, .null), (0, .ref h0), (1, .int n), (2, .int w)]) hx hb d_X_listen_5 rfl hl (by decide) rfl (fun ls hl => ?_)
    refine lv_aload_nN hx hb d_X_listen_6 rfl (lv_at hl 0 rfl) ?_
    refine lv_ifnonnullN hx hb d_X_listen_7 ?_
    refine lv_iconst (v := (-1)) hx hb d_X_listen_10 (by decide) ?_
    have hF : F_X_listen u n w = (-1, u) := by unfold F_X_listen; rw [hj]
    exact W.iret hx hb hr (fun t ht hW => ⟨⟨-1, u, rfl, ⟨(congrArg Prod.fst hF).symm, (congrArg Prod.snd hF).symm⟩, wx, cA, ⟨arr, f, ad, hI⟩, by rw [ht]; exact hP, va_K.moved hW.alike hK, hD⟩, hS.F ht⟩) hS.2.2 d_X_listen_11
  · rw [hj] at hrr
    have hrr : r = some (ad j) := hrr
    subst hrr
    obtain ⟨hjl, -⟩ := ix_some hI.1 hj
    obtain ⟨-, kn, hn⟩ := hI.2.2.2.1 j hjl
    have hnx : kn ≠ kx := fun q => by rw [q, hkx] at hn; have := congrArg Prod.snd (Option.some.inj hn); simp at this
    obtain ⟨z, hu⟩ : ∃ z, u.2.2 j = z := ⟨_, rfl⟩
    rw [hu] at hn
    obtain ⟨a0, a1, a2, a3, a4, a5, a6, a7, a8, a9, a10, a11, a12, a13, a14⟩ := z
    have hF : F_X_listen u n w = ((g_X_listen (a0, a1, a2, a3, a4, a5, a6, a7, a8, a9, a10, a11, a12, a13, a14) w).1, ((u.1, u.2.1, va_up u.2.2 j (g_X_listen (a0, a1, a2, a3, a4, a5, a6, a7, a8, a9, a10, a11, a12, a13, a14) w).2) : XS)) := by unfold F_X_listen; rw [hj]; show ((g_X_listen (u.2.2 j) w).1, ((u.1, u.2.1, va_up u.2.2 j (g_X_listen (u.2.2 j) w).2) : XS)) = _; rw [hu]
    refine lv_astore_n (lv' := [(3, .ref (ad j)), (0, .ref h0), (1, .int n), (2, .int w)]) hx hb d_X_listen_5 rfl hl (by decide) rfl (fun ls hl => ?_)
    refine lv_aload_n hx hb d_X_listen_6 rfl (lv_at hl 0 rfl) ?_
    refine lv_ifnonnull (tgt := 12) hx hb d_X_listen_7 (by decide) ?_
    have hn : wx[kn]? = some ((ad j), .inr (0, [.int a0, .int a1, .int a2, .int a3, .int a4, .int a5, .int a6, .int a7, .int a8, .int a9, .int a10, .int a11, .long a12, .int a13, .int a14])) := hn
    have hP := psame hP hn
    have hD := dsame hD hn
    have hc : g_X_listen (a0, a1, a2, a3, a4, a5, a6, a7, a8, a9, a10, a11, a12, a13, a14) w = g_X_listen (a0, a1, a2, a3, a4, a5, a6, a7, a8, a9, a10, a11, a12, a13, a14) w := rfl
    refine lv_aload_n hx hb d_X_listen_12 rfl (lv_at hl 0 rfl) ?_
    refine va_get (D := D) (ci := 0) (v := .int a2) (C := R_N) (T := F_N) (N := 15) hx hb htB uw_N hown hK hP kn (sg hn) rfl 2 (by decide) (htB _ fl_X_32) (fun _ h9 => h9) rfl d_X_listen_13 ?_
    refine lv_if_eq (tgt := 22) hx hb d_X_listen_16 (by decide) (fun c_1 => ?_) (fun c_1 => ?_)
    · refine lv_aload_n hx hb d_X_listen_22 rfl (lv_at hl 0 rfl) ?_
      refine va_get (D := D) (ci := 0) (v := .int a7) (C := R_N) (T := F_N) (N := 15) hx hb htB uw_N hown hK hP kn (sg hn) rfl 7 (by decide) (htB _ fl_X_36) (fun _ h9 => h9) rfl d_X_listen_23 ?_
      refine lv_iload_n hx hb d_X_listen_26 rfl (lv_at hl 3 rfl) ?_
      refine lv_icmp_eq (tgt := 34) hx hb d_X_listen_27 (by decide) (fun c_2 => ?_) (fun c_2 => ?_)
      · refine lv_iconst (v := 0) hx hb d_X_listen_34 (by decide) ?_
        refine lv_istore (lv' := [(4, .int 0), (3, .ref (ad j)), (0, .ref h0), (1, .int n), (2, .int w)]) hx hb d_X_listen_35 hl (by decide) rfl (fun ls hl => ?_)
        refine lv_aload_n hx hb d_X_listen_37 rfl (lv_at hl 1 rfl) ?_
        refine lv_iload_n hx hb d_X_listen_38 rfl (lv_at hl 4 rfl) ?_
        refine va_put (D := D) (ci := 0) (v := .int w) (ty := .boolean) (C := R_N) (T := F_N) (N := 15) hx hb htB uw_N t_N t_N_ok n_N hown hK hP hD hS kn (sg hn) rfl 7 (by decide) (htB _ fl_X_36) (fun _ h9 => h9) rfl (t_N_ok 7 (by decide)) (nbp hb_w) (fbp hb_w) (Nat.le_of_ble_eq_true rfl) d_X_listen_39 (fun H locs hP hD hS => ?_)
        rw [List.set_set] at hP hD
        have hP : va_P D cls_ (wx.set kn ((ad j), .inr (0, [.int a0, .int a1, .int a2, .int a3, .int a4, .int a5, .int a6, .int w, .int a8, .int a9, .int a10, .int a11, .long a12, .int a13, .int a14]))) _ := hP
        have hD : va_D (va_A w0 sz) (wx.set kn ((ad j), .inr (0, [.int a0, .int a1, .int a2, .int a3, .int a4, .int a5, .int a6, .int w, .int a8, .int a9, .int a10, .int a11, .long a12, .int a13, .int a14]))) := hD
        refine lv_aload_n hx hb d_X_listen_42 rfl (lv_at hl 1 rfl) ?_
        refine lv_iconst (v := 0) hx hb d_X_listen_43 (by decide) ?_
        refine va_put (D := D) (ci := 0) (v := .int 0) (ty := .int) (C := R_N) (T := F_N) (N := 15) hx hb htB uw_N t_N t_N_ok n_N hown hK hP hD hS kn (sg hn) rfl 3 (by decide) (htB _ fl_X_60) (fun _ h9 => h9) rfl (t_N_ok 3 (by decide)) rfl rfl (Nat.le_of_ble_eq_true rfl) d_X_listen_44 (fun H locs hP hD hS => ?_)
        rw [List.set_set] at hP hD
        have hP : va_P D cls_ (wx.set kn ((ad j), .inr (0, [.int a0, .int a1, .int a2, .int 0, .int a4, .int a5, .int a6, .int w, .int a8, .int a9, .int a10, .int a11, .long a12, .int a13, .int a14]))) _ := hP
        have hD : va_D (va_A w0 sz) (wx.set kn ((ad j), .inr (0, [.int a0, .int a1, .int a2, .int 0, .int a4, .int a5, .int a6, .int w, .int a8, .int a9, .int a10, .int a11, .long a12, .int a13, .int a14]))) := hD
        refine lv_iload hx hb d_X_listen_47 (lv_at hl 0 rfl) ?_
        refine lv_if_eq (tgt := 56) hx hb d_X_listen_49 (by decide) (fun _ => ?_) (fun c9 => absurd (by decide) c9)
        refine lv_iconst (v := 0) hx hb d_X_listen_56 (by decide) ?_
        have he : g_X_listen (a0, a1, a2, a3, a4, a5, a6, a7, a8, a9, a10, a11, a12, a13, a14) w = (0, (a0, a1, a2, 0, a4, a5, a6, w, a8, a9, a10, a11, a12, a13, a14)) := hc.trans ((if_pos c_1).trans (if_pos c_2))
        have he := hF.trans (congrArg (fun z : Int32 × NS => (z.1, ((u.1, u.2.1, va_up u.2.2 j z.2) : XS))) he)
        exact W.iret hx hb hr (fun t ht hW => ⟨⟨0, (u.1, u.2.1, va_up u.2.2 j (a0, a1, a2, 0, a4, a5, a6, w, a8, a9, a10, a11, a12, a13, a14)), rfl, ⟨(congrArg Prod.fst he).symm, (congrArg Prod.snd he).symm⟩, wx.set kn (ad j, .inr (0, n_fs (a0, a1, a2, 0, a4, a5, a6, w, a8, a9, a10, a11, a12, a13, a14))), cA, ⟨arr, f, ad, hI.node hjl hn (a0, a1, a2, 0, a4, a5, a6, w, a8, a9, a10, a11, a12, a13, a14)⟩, by rw [ht]; exact hP, va_K.moved hW.alike hK, hD⟩, hS.F ht⟩) hS.2.2 d_X_listen_57
      · refine lv_iconst (v := 1) hx hb d_X_listen_30 (by decide) ?_
        refine lv_goto (tgt := 35) hx hb d_X_listen_31 (by decide) ?_
        refine lv_istore (lv' := [(4, .int 1), (3, .ref (ad j)), (0, .ref h0), (1, .int n), (2, .int w)]) hx hb d_X_listen_35 hl (by decide) rfl (fun ls hl => ?_)
        refine lv_aload_n hx hb d_X_listen_37 rfl (lv_at hl 1 rfl) ?_
        refine lv_iload_n hx hb d_X_listen_38 rfl (lv_at hl 4 rfl) ?_
        refine va_put (D := D) (ci := 0) (v := .int w) (ty := .boolean) (C := R_N) (T := F_N) (N := 15) hx hb htB uw_N t_N t_N_ok n_N hown hK hP hD hS kn (sg hn) rfl 7 (by decide) (htB _ fl_X_36) (fun _ h9 => h9) rfl (t_N_ok 7 (by decide)) (nbp hb_w) (fbp hb_w) (Nat.le_of_ble_eq_true rfl) d_X_listen_39 (fun H locs hP hD hS => ?_)
        rw [List.set_set] at hP hD
        have hP : va_P D cls_ (wx.set kn ((ad j), .inr (0, [.int a0, .int a1, .int a2, .int a3, .int a4, .int a5, .int a6, .int w, .int a8, .int a9, .int a10, .int a11, .long a12, .int a13, .int a14]))) _ := hP
        have hD : va_D (va_A w0 sz) (wx.set kn ((ad j), .inr (0, [.int a0, .int a1, .int a2, .int a3, .int a4, .int a5, .int a6, .int w, .int a8, .int a9, .int a10, .int a11, .long a12, .int a13, .int a14]))) := hD
        refine lv_aload_n hx hb d_X_listen_42 rfl (lv_at hl 1 rfl) ?_
        refine lv_iconst (v := 0) hx hb d_X_listen_43 (by decide) ?_
        refine va_put (D := D) (ci := 0) (v := .int 0) (ty := .int) (C := R_N) (T := F_N) (N := 15) hx hb htB uw_N t_N t_N_ok n_N hown hK hP hD hS kn (sg hn) rfl 3 (by decide) (htB _ fl_X_60) (fun _ h9 => h9) rfl (t_N_ok 3 (by decide)) rfl rfl (Nat.le_of_ble_eq_true rfl) d_X_listen_44 (fun H locs hP hD hS => ?_)
        rw [List.set_set] at hP hD
        have hP : va_P D cls_ (wx.set kn ((ad j), .inr (0, [.int a0, .int a1, .int a2, .int 0, .int a4, .int a5, .int a6, .int w, .int a8, .int a9, .int a10, .int a11, .long a12, .int a13, .int a14]))) _ := hP
        have hD : va_D (va_A w0 sz) (wx.set kn ((ad j), .inr (0, [.int a0, .int a1, .int a2, .int 0, .int a4, .int a5, .int a6, .int w, .int a8, .int a9, .int a10, .int a11, .long a12, .int a13, .int a14]))) := hD
        refine lv_iload hx hb d_X_listen_47 (lv_at hl 0 rfl) ?_
        refine lv_if_eq (tgt := 56) hx hb d_X_listen_49 (by decide) (fun c9 => absurd c9 (by decide)) (fun _ => ?_)
        refine lv_iconst (v := 1) hx hb d_X_listen_52 (by decide) ?_
        refine lv_goto (tgt := 57) hx hb d_X_listen_53 (by decide) ?_
        have he : g_X_listen (a0, a1, a2, a3, a4, a5, a6, a7, a8, a9, a10, a11, a12, a13, a14) w = (1, (a0, a1, a2, 0, a4, a5, a6, w, a8, a9, a10, a11, a12, a13, a14)) := hc.trans ((if_pos c_1).trans (if_neg c_2))
        have he := hF.trans (congrArg (fun z : Int32 × NS => (z.1, ((u.1, u.2.1, va_up u.2.2 j z.2) : XS))) he)
        exact W.iret hx hb hr (fun t ht hW => ⟨⟨1, (u.1, u.2.1, va_up u.2.2 j (a0, a1, a2, 0, a4, a5, a6, w, a8, a9, a10, a11, a12, a13, a14)), rfl, ⟨(congrArg Prod.fst he).symm, (congrArg Prod.snd he).symm⟩, wx.set kn (ad j, .inr (0, n_fs (a0, a1, a2, 0, a4, a5, a6, w, a8, a9, a10, a11, a12, a13, a14))), cA, ⟨arr, f, ad, hI.node hjl hn (a0, a1, a2, 0, a4, a5, a6, w, a8, a9, a10, a11, a12, a13, a14)⟩, by rw [ht]; exact hP, va_K.moved hW.alike hK, hD⟩, hS.F ht⟩) hS.2.2 d_X_listen_57
    · refine lv_bipush (v := (-3)) hx hb d_X_listen_19 (by decide) ?_
      have he : g_X_listen (a0, a1, a2, a3, a4, a5, a6, a7, a8, a9, a10, a11, a12, a13, a14) w = ((-3), (a0, a1, a2, a3, a4, a5, a6, a7, a8, a9, a10, a11, a12, a13, a14)) := hc.trans (if_neg c_1)
      have he := hF.trans (congrArg (fun z : Int32 × NS => (z.1, ((u.1, u.2.1, va_up u.2.2 j z.2) : XS))) he)
      exact W.iret hx hb hr (fun t ht hW => ⟨⟨(-3), (u.1, u.2.1, va_up u.2.2 j (a0, a1, a2, a3, a4, a5, a6, a7, a8, a9, a10, a11, a12, a13, a14)), rfl, ⟨(congrArg Prod.fst he).symm, (congrArg Prod.snd he).symm⟩, wx.set kn (ad j, .inr (0, n_fs (a0, a1, a2, a3, a4, a5, a6, a7, a8, a9, a10, a11, a12, a13, a14))), cA, ⟨arr, f, ad, hI.node hjl hn (a0, a1, a2, a3, a4, a5, a6, a7, a8, a9, a10, a11, a12, a13, a14)⟩, by rw [ht]; exact hP, va_K.moved hW.alike hK, hD⟩, hS.F ht⟩) hS.2.2 d_X_listen_21
def g_X_event_k5 (u : NS) (k : Int32) (w : Int32) : Int32 × NS := let b5_0 := u.1; let b5_1 := u.2.1; let b5_2 := u.2.2.1; let b5_3 := u.2.2.2.1; let b5_4 := u.2.2.2.2.1; let b5_5 := u.2.2.2.2.2.1; let b5_6 := u.2.2.2.2.2.2.1; let b5_7 := u.2.2.2.2.2.2.2.1; let b5_8 := u.2.2.2.2.2.2.2.2.1; let b5_9 := u.2.2.2.2.2.2.2.2.2.1; let b5_10 := u.2.2.2.2.2.2.2.2.2.2.1; let b5_11 := u.2.2.2.2.2.2.2.2.2.2.2.1; let b5_12 := u.2.2.2.2.2.2.2.2.2.2.2.2.1; let b5_13 := u.2.2.2.2.2.2.2.2.2.2.2.2.2.1; let b5_14 := u.2.2.2.2.2.2.2.2.2.2.2.2.2.2; (f_N_condition (b5_0, b5_1, b5_2, b5_3, b5_4, b5_5, b5_6, b5_7, b5_8, b5_9, b5_10, b5_11, b5_12, b5_13, b5_14), (b5_0, b5_1, b5_2, b5_3, b5_4, b5_5, b5_6, b5_7, b5_8, b5_9, b5_10, b5_11, b5_12, b5_13, b5_14))
def g_X_event_k8 (u : NS) (k : Int32) (w : Int32) : Int32 × NS := let b8_0 := u.1; let b8_1 := u.2.1; let b8_2 := u.2.2.1; let b8_3 := u.2.2.2.1; let b8_4 := u.2.2.2.2.1; let b8_5 := u.2.2.2.2.2.1; let b8_6 := u.2.2.2.2.2.2.1; let b8_7 := u.2.2.2.2.2.2.2.1; let b8_8 := u.2.2.2.2.2.2.2.2.1; let b8_9 := u.2.2.2.2.2.2.2.2.2.1; let b8_10 := u.2.2.2.2.2.2.2.2.2.2.1; let b8_11 := u.2.2.2.2.2.2.2.2.2.2.2.1; let b8_12 := u.2.2.2.2.2.2.2.2.2.2.2.2.1; let b8_13 := u.2.2.2.2.2.2.2.2.2.2.2.2.2.1; let b8_14 := u.2.2.2.2.2.2.2.2.2.2.2.2.2.2; (f_N_condition (b8_0, b8_1, b8_2, b8_3, b8_4, b8_5, b8_6, b8_7, b8_8, b8_9, b8_10, b8_11, b8_12, b8_13, b8_14), (b8_0, b8_1, b8_2, b8_3, b8_4, b8_5, b8_6, b8_7, b8_8, b8_9, b8_10, b8_11, b8_12, b8_13, b8_14))
def g_X_event (u : NS) (k : Int32) (w : Int32) : Int32 × NS := let a0 := u.1; let a1 := u.2.1; let a2 := u.2.2.1; let a3 := u.2.2.2.1; let a4 := u.2.2.2.2.1; let a5 := u.2.2.2.2.2.1; let a6 := u.2.2.2.2.2.2.1; let a7 := u.2.2.2.2.2.2.2.1; let a8 := u.2.2.2.2.2.2.2.2.1; let a9 := u.2.2.2.2.2.2.2.2.2.1; let a10 := u.2.2.2.2.2.2.2.2.2.2.1; let a11 := u.2.2.2.2.2.2.2.2.2.2.2.1; let a12 := u.2.2.2.2.2.2.2.2.2.2.2.2.1; let a13 := u.2.2.2.2.2.2.2.2.2.2.2.2.2.1; let a14 := u.2.2.2.2.2.2.2.2.2.2.2.2.2.2; if (f_X_isKind k) = 0 then ((-2), (a0, a1, a2, a3, a4, a5, a6, a7, a8, a9, a10, a11, a12, a13, a14)) else (if a2 = 0 then (if a7 = 0 then (g_X_event_k5 (f_N_undergo (a0, a1, a2, a3, a4, a5, a6, a7, a8, a9, a10, a11, a12, a13, a14) k w) k w) else (if w = 0 then (g_X_event_k8 (f_N_undergo (a0, a1, a2, a3, a4, a5, a6, a7, a8, a9, a10, a11, a12, a13, a14) k w) k w) else ((-3), (a0, a1, a2, a3, a4, a5, a6, a7, a8, a9, a10, a11, a12, a13, a14)))) else ((-3), (a0, a1, a2, a3, a4, a5, a6, a7, a8, a9, a10, a11, a12, a13, a14)))
def F_X_event (u : XS) (n : Int32) (k : Int32) (w : Int32) : Int32 × XS := match ix u.1 n with
  | none => (-1, u)
  | some j => ((g_X_event (u.2.2 j) k w).1, ((u.1, u.2.1, va_up u.2.2 j (g_X_event (u.2.2 j) k w).2) : XS))
set_option maxHeartbeats 4000000 in
set_option maxRecDepth 100000 in
theorem c_X_event (l : Launch) (D : va_G) (h0 sz : Nat) (u : XS) (w0 : va_W) (cA : ClassId) (hI : IX h0 u w0 cA) (hD0 : va_D (fun _ => True) w0) (n : Int32) (k : Int32) (w : Int32) (hb_w : w = 0 ∨ w = 1) : Met l y_X_event (cw_X_event :: BIG) ((rmk 5 0 0)) (va_Pc [.ref h0, .int n, .int k, .int w] (fun U => U.heap.size = sz ∧ va_P D cls_ w0 U.heap ∧ va_K D cls_ [(cA, .object R_N)] U ∧ NK U)) (va_Qi (fun (r : Int32) (u2 : XS) => r = (F_X_event u n k w).1 ∧ u2 = (F_X_event u n k w).2) (atX D h0 (va_A w0 sz)) (va_A w0 sz)) 0 0 (va_A w0 sz) := by
  obtain ⟨arr, f, ad, hI⟩ := hI
  refine Met.ofW (cc := b_X_event) (maxL := 5) (ret := (some .int)) (by decide) rfl ?_
  intro p e s m args below meth c s₁ B hml hv
  obtain ⟨rfl, hsz, hP, hK, hN⟩ := hv
  have hx := B.exec
  have hb := B.bytes
  have hr := B.returns
  have htB : ∀ w ∈ BIG, w.before _ s = true := fun w h => atoms_spec (ws := cw_X_event :: BIG) B.pre w (List.mem_cons_of_mem _ h)
  have hown : s.vm.findClass R_X = some m.cls := findClass_of_methodNamed B.named
  have hlocks := B.notSynchronized
  have hD : va_D (va_A w0 sz) w0 := hD0.self
  have hS : va_S (va_A w0 sz) s.heap s.heap [] := va_S.rf
  obtain ⟨kx, hkx⟩ := hI.2.1
  obtain ⟨wx, hwx⟩ : ∃ w, w = w0 := ⟨_, rfl⟩
  have hP : va_P D cls_ wx s.heap := by rw [hwx]; exact hP
  have hI : IXp h0 u wx cA arr f ad := by rw [hwx]; exact hI
  have hD : va_D (va_A w0 sz) wx := by rw [hwx]; exact hD
  have hkx : wx[kx]? = some (h0, .inr (1, [.ref arr, .int (nI u.1), .long u.2.1])) := by rw [hwx]; exact hkx
  have hl := lv_entry ([.ref h0, .int n, .int k, .int w]) (n := 5) (Nat.le_of_ble_eq_true rfl)
  rw [lg_entry_eq]
  generalize (lg_sl ([.ref h0, .int n, .int k, .int w]) ++ List.replicate (5 - (lg_sl ([.ref h0, .int n, .int k, .int w])).length) Slot.unset).toArray = ls at hl ⊢
  have hl : lv_has ls 5 [(0, .ref h0), (1, .int n), (2, .int k), (3, .int w)] := hl
  refine lv_aload_n hx hb d_X_event_0 rfl (lv_at hl 0 rfl) ?_
  refine lv_iload_n hx hb d_X_event_1 rfl (lv_at hl 1 rfl) ?_
  refine va_csq (va_Run.run (va_runV (As := [.int n]) (rest := []) ⟨hx, hb, hml, hown, htB⟩ (c_X_find l D h0 u wx cA arr f ad hI n) (cwV 1 htB g_X_24 rfl rfl rfl (by decide +kernel) ⟨Nat.le_of_ble_eq_true rfl, Nat.le_of_ble_eq_true rfl⟩) (preV hP hK hN (va_recv hK hP (ci := 1) (q0 := kx) rfl hkx)) rfl rfl hl.1 rfl (lv_room (Nat.le_of_ble_eq_true rfl)) d_X_event_2 ⟨Nat.le_of_ble_eq_true rfl, Nat.le_of_ble_eq_true rfl⟩)) (fun r hrr => ?_)
  rcases hj : ix u.1 n with _ | j
  · rw [hj] at hrr
    have hrr : r = none := hrr
    subst hrr
    refine lv_astoreN (lv' := [(4, .null), (0, .ref h0), (1, .int n), (2, .int k), (3, .int w)]) hx hb d_X_event_5 hl (by decide) rfl (fun ls hl => ?_)
    refine lv_aloadN hx hb d_X_event_7 (lv_at hl 0 rfl) ?_
    refine lv_ifnonnullN hx hb d_X_event_9 ?_
    refine lv_iconst (v := (-1)) hx hb d_X_event_12 (by decide) ?_
    have hF : F_X_event u n k w = (-1, u) := by unfold F_X_event; rw [hj]
    exact W.iret hx hb hr (fun t ht hW => ⟨⟨-1, u, rfl, ⟨(congrArg Prod.fst hF).symm, (congrArg Prod.snd hF).symm⟩, wx, cA, ⟨arr, f, ad, hI⟩, by rw [ht]; exact hP, va_K.moved hW.alike hK, hD⟩, hS.F ht⟩) hS.2.2 d_X_event_13
  · rw [hj] at hrr
    have hrr : r = some (ad j) := hrr
    subst hrr
    obtain ⟨hjl, -⟩ := ix_some hI.1 hj
    obtain ⟨-, kn, hn⟩ := hI.2.2.2.1 j hjl
    have hnx : kn ≠ kx := fun q => by rw [q, hkx] at hn; have := congrArg Prod.snd (Option.some.inj hn); simp at this
    obtain ⟨z, hu⟩ : ∃ z, u.2.2 j = z := ⟨_, rfl⟩
    rw [hu] at hn
    obtain ⟨a0, a1, a2, a3, a4, a5, a6, a7, a8, a9, a10, a11, a12, a13, a14⟩ := z
    have hF : F_X_event u n k w = ((g_X_event (a0, a1, a2, a3, a4, a5, a6, a7, a8, a9, a10, a11, a12, a13, a14) k w).1, ((u.1, u.2.1, va_up u.2.2 j (g_X_event (a0, a1, a2, a3, a4, a5, a6, a7, a8, a9, a10, a11, a12, a13, a14) k w).2) : XS)) := by unfold F_X_event; rw [hj]; show ((g_X_event (u.2.2 j) k w).1, ((u.1, u.2.1, va_up u.2.2 j (g_X_event (u.2.2 j) k w).2) : XS)) = _; rw [hu]
    refine lv_astore (lv' := [(4, .ref (ad j)), (0, .ref h0), (1, .int n), (2, .int k), (3, .int w)]) hx hb d_X_event_5 hl (by decide) rfl (fun ls hl => ?_)
    refine lv_aload hx hb d_X_event_7 (lv_at hl 0 rfl) ?_
    refine lv_ifnonnull (tgt := 14) hx hb d_X_event_9 (by decide) ?_
    have hn : wx[kn]? = some ((ad j), .inr (0, [.int a0, .int a1, .int a2, .int a3, .int a4, .int a5, .int a6, .int a7, .int a8, .int a9, .int a10, .int a11, .long a12, .int a13, .int a14])) := hn
    have hP := psame hP hn
    have hD := dsame hD hn
    have hc : g_X_event (a0, a1, a2, a3, a4, a5, a6, a7, a8, a9, a10, a11, a12, a13, a14) k w = g_X_event (a0, a1, a2, a3, a4, a5, a6, a7, a8, a9, a10, a11, a12, a13, a14) k w := rfl
    refine lv_iload_n hx hb d_X_event_14 rfl (lv_at hl 3 rfl) ?_
    refine vp_callSi (va_Run.run (va_runS (As := [.int k]) (rest := []) ⟨hx, hb, hml, hown, htB⟩ (c_X_isKind l k) (cwS 1 htB g_X_28 rfl rfl rfl (by decide +kernel) ⟨Nat.le_of_ble_eq_true rfl, Nat.le_of_ble_eq_true rfl⟩) (preN hN) rfl rfl hl.1 rfl (lv_room (Nat.le_of_ble_eq_true rfl)) d_X_event_15 ⟨Nat.le_of_ble_eq_true rfl, Nat.le_of_ble_eq_true rfl⟩)) (fun r_1 hr_1 => ?_)
    subst hr_1
    refine lv_if_ne (tgt := 24) hx hb d_X_event_18 (by decide) (fun c_2 => ?_) (fun c_2 => ?_)
    · refine lv_aload hx hb d_X_event_24 (lv_at hl 0 rfl) ?_
      refine va_get (D := D) (ci := 0) (v := .int a2) (C := R_N) (T := F_N) (N := 15) hx hb htB uw_N hown hK hP kn (sg hn) rfl 2 (by decide) (htB _ fl_X_32) (fun _ h9 => h9) rfl d_X_event_26 ?_
      refine lv_if_ne (tgt := 44) hx hb d_X_event_29 (by decide) (fun c_3 => ?_) (fun c_3 => ?_)
      · refine lv_bipush (v := (-3)) hx hb d_X_event_44 (by decide) ?_
        have he : g_X_event (a0, a1, a2, a3, a4, a5, a6, a7, a8, a9, a10, a11, a12, a13, a14) k w = ((-3), (a0, a1, a2, a3, a4, a5, a6, a7, a8, a9, a10, a11, a12, a13, a14)) := hc.trans ((if_neg c_2).trans (if_neg c_3))
        have he := hF.trans (congrArg (fun z : Int32 × NS => (z.1, ((u.1, u.2.1, va_up u.2.2 j z.2) : XS))) he)
        exact W.iret hx hb hr (fun t ht hW => ⟨⟨(-3), (u.1, u.2.1, va_up u.2.2 j (a0, a1, a2, a3, a4, a5, a6, a7, a8, a9, a10, a11, a12, a13, a14)), rfl, ⟨(congrArg Prod.fst he).symm, (congrArg Prod.snd he).symm⟩, wx.set kn (ad j, .inr (0, n_fs (a0, a1, a2, a3, a4, a5, a6, a7, a8, a9, a10, a11, a12, a13, a14))), cA, ⟨arr, f, ad, hI.node hjl hn (a0, a1, a2, a3, a4, a5, a6, a7, a8, a9, a10, a11, a12, a13, a14)⟩, by rw [ht]; exact hP, va_K.moved hW.alike hK, hD⟩, hS.F ht⟩) hS.2.2 d_X_event_46
      · refine lv_aload hx hb d_X_event_32 (lv_at hl 0 rfl) ?_
        refine va_get (D := D) (ci := 0) (v := .int a7) (C := R_N) (T := F_N) (N := 15) hx hb htB uw_N hown hK hP kn (sg hn) rfl 7 (by decide) (htB _ fl_X_36) (fun _ h9 => h9) rfl d_X_event_34 ?_
        refine lv_if_eq (tgt := 47) hx hb d_X_event_37 (by decide) (fun c_4 => ?_) (fun c_4 => ?_)
        · refine lv_aload hx hb d_X_event_47 (lv_at hl 0 rfl) ?_
          refine lv_iload_n hx hb d_X_event_49 rfl (lv_at hl 3 rfl) ?_
          refine lv_iload_n hx hb d_X_event_50 rfl (lv_at hl 4 rfl) ?_
          refine va_callv (va_runV (As := [.int k, .int w]) (rest := []) ⟨hx, hb, hml, hown, htB⟩ (c_N_undergo l D (ad j) (a0, a1, a2, a3, a4, a5, a6, a7, a8, a9, a10, a11, a12, a13, a14) k w hb_w) (cwV 2 htB g_X_39 rfl rfl rfl (by decide +kernel) ⟨Nat.le_of_ble_eq_true rfl, Nat.le_of_ble_eq_true rfl⟩) (preV (pone hP (sg hn)) (hK.sub (tys' := []) [] rfl) hN (va_recv hK hP (ci := 0) (q0 := kn) rfl (sg hn))) rfl rfl hl.1 rfl (lv_room (Nat.le_of_ble_eq_true rfl)) d_X_event_51 ⟨Nat.le_of_ble_eq_true rfl, Nat.le_of_ble_eq_true rfl⟩) hS (fun q _ h => by rw [h]; exact hD.2 kn _ (sg hn)) (fun q h => by rw [h]; exact hD.2 kn _ (sg hn)) (fun u9 t H1 locs ht hvm hw hB hz1 hk1 hS => ?_)
          rw [ht] at hB
          obtain ⟨b5_0, b5_1, b5_2, b5_3, b5_4, b5_5, b5_6, b5_7, b5_8, b5_9, b5_10, b5_11, b5_12, b5_13, b5_14⟩ := u9
          obtain ⟨hP, hD⟩ := pcall (e2 := .inr (0, [.int b5_0, .int b5_1, .int b5_2, .int b5_3, .int b5_4, .int b5_5, .int b5_6, .int b5_7, .int b5_8, .int b5_9, .int b5_10, .int b5_11, .long b5_12, .int b5_13, .int b5_14])) hP hD (sg hn) hk1 hB
          rw [List.set_set] at hP hD
          have hc : g_X_event (a0, a1, a2, a3, a4, a5, a6, a7, a8, a9, a10, a11, a12, a13, a14) k w = g_X_event_k5 (b5_0, b5_1, b5_2, b5_3, b5_4, b5_5, b5_6, b5_7, b5_8, b5_9, b5_10, b5_11, b5_12, b5_13, b5_14) k w := (hc.trans ((if_neg c_2).trans ((if_pos c_3).trans (if_pos c_4)))).trans (congrArg (fun z => g_X_event_k5 z k w) hw.symm)
          refine lv_aload hx hb d_X_event_54 (lv_at hl 0 rfl) ?_
          refine vp_callSi (va_Run.run (va_runV (As := []) (rest := []) ⟨hx, hb, hml, hown, htB⟩ (c_N_condition l D (ad j) (b5_0, b5_1, b5_2, b5_3, b5_4, b5_5, b5_6, b5_7, b5_8, b5_9, b5_10, b5_11, b5_12, b5_13, b5_14)) (cwV 0 htB g_X_43 rfl rfl rfl (by decide +kernel) ⟨Nat.le_of_ble_eq_true rfl, Nat.le_of_ble_eq_true rfl⟩) (preV (pone hP (sg hn)) (hK.sub (tys' := []) [] rfl) hN (va_recv hK hP (ci := 0) (q0 := kn) rfl (sg hn))) rfl rfl hl.1 rfl (lv_room (Nat.le_of_ble_eq_true rfl)) d_X_event_56 ⟨Nat.le_of_ble_eq_true rfl, Nat.le_of_ble_eq_true rfl⟩)) (fun r_6 hr_6 => ?_)
          subst hr_6
          have he : g_X_event (a0, a1, a2, a3, a4, a5, a6, a7, a8, a9, a10, a11, a12, a13, a14) k w = (f_N_condition (b5_0, b5_1, b5_2, b5_3, b5_4, b5_5, b5_6, b5_7, b5_8, b5_9, b5_10, b5_11, b5_12, b5_13, b5_14), (b5_0, b5_1, b5_2, b5_3, b5_4, b5_5, b5_6, b5_7, b5_8, b5_9, b5_10, b5_11, b5_12, b5_13, b5_14)) := hc.trans (rfl)
          have he := hF.trans (congrArg (fun z : Int32 × NS => (z.1, ((u.1, u.2.1, va_up u.2.2 j z.2) : XS))) he)
          exact W.iret hx hb hr (fun t ht hW => ⟨⟨f_N_condition (b5_0, b5_1, b5_2, b5_3, b5_4, b5_5, b5_6, b5_7, b5_8, b5_9, b5_10, b5_11, b5_12, b5_13, b5_14), (u.1, u.2.1, va_up u.2.2 j (b5_0, b5_1, b5_2, b5_3, b5_4, b5_5, b5_6, b5_7, b5_8, b5_9, b5_10, b5_11, b5_12, b5_13, b5_14)), rfl, ⟨(congrArg Prod.fst he).symm, (congrArg Prod.snd he).symm⟩, wx.set kn (ad j, .inr (0, n_fs (b5_0, b5_1, b5_2, b5_3, b5_4, b5_5, b5_6, b5_7, b5_8, b5_9, b5_10, b5_11, b5_12, b5_13, b5_14))), cA, ⟨arr, f, ad, hI.node hjl hn (b5_0, b5_1, b5_2, b5_3, b5_4, b5_5, b5_6, b5_7, b5_8, b5_9, b5_10, b5_11, b5_12, b5_13, b5_14)⟩, by rw [ht]; exact hP, va_K.moved hW.alike hK, hD⟩, hS.F ht⟩) hS.2.2 d_X_event_59
        · refine lv_iload_n hx hb d_X_event_40 rfl (lv_at hl 4 rfl) ?_
          refine lv_if_eq (tgt := 47) hx hb d_X_event_41 (by decide) (fun c_7 => ?_) (fun c_7 => ?_)
          · refine lv_aload hx hb d_X_event_47 (lv_at hl 0 rfl) ?_
            refine lv_iload_n hx hb d_X_event_49 rfl (lv_at hl 3 rfl) ?_
            refine lv_iload_n hx hb d_X_event_50 rfl (lv_at hl 4 rfl) ?_
            refine va_callv (va_runV (As := [.int k, .int w]) (rest := []) ⟨hx, hb, hml, hown, htB⟩ (c_N_undergo l D (ad j) (a0, a1, a2, a3, a4, a5, a6, a7, a8, a9, a10, a11, a12, a13, a14) k w hb_w) (cwV 2 htB g_X_39 rfl rfl rfl (by decide +kernel) ⟨Nat.le_of_ble_eq_true rfl, Nat.le_of_ble_eq_true rfl⟩) (preV (pone hP (sg hn)) (hK.sub (tys' := []) [] rfl) hN (va_recv hK hP (ci := 0) (q0 := kn) rfl (sg hn))) rfl rfl hl.1 rfl (lv_room (Nat.le_of_ble_eq_true rfl)) d_X_event_51 ⟨Nat.le_of_ble_eq_true rfl, Nat.le_of_ble_eq_true rfl⟩) hS (fun q _ h => by rw [h]; exact hD.2 kn _ (sg hn)) (fun q h => by rw [h]; exact hD.2 kn _ (sg hn)) (fun u9 t H1 locs ht hvm hw hB hz1 hk1 hS => ?_)
            rw [ht] at hB
            obtain ⟨b8_0, b8_1, b8_2, b8_3, b8_4, b8_5, b8_6, b8_7, b8_8, b8_9, b8_10, b8_11, b8_12, b8_13, b8_14⟩ := u9
            obtain ⟨hP, hD⟩ := pcall (e2 := .inr (0, [.int b8_0, .int b8_1, .int b8_2, .int b8_3, .int b8_4, .int b8_5, .int b8_6, .int b8_7, .int b8_8, .int b8_9, .int b8_10, .int b8_11, .long b8_12, .int b8_13, .int b8_14])) hP hD (sg hn) hk1 hB
            rw [List.set_set] at hP hD
            have hc : g_X_event (a0, a1, a2, a3, a4, a5, a6, a7, a8, a9, a10, a11, a12, a13, a14) k w = g_X_event_k8 (b8_0, b8_1, b8_2, b8_3, b8_4, b8_5, b8_6, b8_7, b8_8, b8_9, b8_10, b8_11, b8_12, b8_13, b8_14) k w := (hc.trans ((if_neg c_2).trans ((if_pos c_3).trans ((if_neg c_4).trans (if_pos c_7))))).trans (congrArg (fun z => g_X_event_k8 z k w) hw.symm)
            refine lv_aload hx hb d_X_event_54 (lv_at hl 0 rfl) ?_
            refine vp_callSi (va_Run.run (va_runV (As := []) (rest := []) ⟨hx, hb, hml, hown, htB⟩ (c_N_condition l D (ad j) (b8_0, b8_1, b8_2, b8_3, b8_4, b8_5, b8_6, b8_7, b8_8, b8_9, b8_10, b8_11, b8_12, b8_13, b8_14)) (cwV 0 htB g_X_43 rfl rfl rfl (by decide +kernel) ⟨Nat.le_of_ble_eq_true rfl, Nat.le_of_ble_eq_true rfl⟩) (preV (pone hP (sg hn)) (hK.sub (tys' := []) [] rfl) hN (va_recv hK hP (ci := 0) (q0 := kn) rfl (sg hn))) rfl rfl hl.1 rfl (lv_room (Nat.le_of_ble_eq_true rfl)) d_X_event_56 ⟨Nat.le_of_ble_eq_true rfl, Nat.le_of_ble_eq_true rfl⟩)) (fun r_9 hr_9 => ?_)
            subst hr_9
            have he : g_X_event (a0, a1, a2, a3, a4, a5, a6, a7, a8, a9, a10, a11, a12, a13, a14) k w = (f_N_condition (b8_0, b8_1, b8_2, b8_3, b8_4, b8_5, b8_6, b8_7, b8_8, b8_9, b8_10, b8_11, b8_12, b8_13, b8_14), (b8_0, b8_1, b8_2, b8_3, b8_4, b8_5, b8_6, b8_7, b8_8, b8_9, b8_10, b8_11, b8_12, b8_13, b8_14)) := hc.trans (rfl)
            have he := hF.trans (congrArg (fun z : Int32 × NS => (z.1, ((u.1, u.2.1, va_up u.2.2 j z.2) : XS))) he)
            exact W.iret hx hb hr (fun t ht hW => ⟨⟨f_N_condition (b8_0, b8_1, b8_2, b8_3, b8_4, b8_5, b8_6, b8_7, b8_8, b8_9, b8_10, b8_11, b8_12, b8_13, b8_14), (u.1, u.2.1, va_up u.2.2 j (b8_0, b8_1, b8_2, b8_3, b8_4, b8_5, b8_6, b8_7, b8_8, b8_9, b8_10, b8_11, b8_12, b8_13, b8_14)), rfl, ⟨(congrArg Prod.fst he).symm, (congrArg Prod.snd he).symm⟩, wx.set kn (ad j, .inr (0, n_fs (b8_0, b8_1, b8_2, b8_3, b8_4, b8_5, b8_6, b8_7, b8_8, b8_9, b8_10, b8_11, b8_12, b8_13, b8_14))), cA, ⟨arr, f, ad, hI.node hjl hn (b8_0, b8_1, b8_2, b8_3, b8_4, b8_5, b8_6, b8_7, b8_8, b8_9, b8_10, b8_11, b8_12, b8_13, b8_14)⟩, by rw [ht]; exact hP, va_K.moved hW.alike hK, hD⟩, hS.F ht⟩) hS.2.2 d_X_event_59
          · refine lv_bipush (v := (-3)) hx hb d_X_event_44 (by decide) ?_
            have he : g_X_event (a0, a1, a2, a3, a4, a5, a6, a7, a8, a9, a10, a11, a12, a13, a14) k w = ((-3), (a0, a1, a2, a3, a4, a5, a6, a7, a8, a9, a10, a11, a12, a13, a14)) := hc.trans ((if_neg c_2).trans ((if_pos c_3).trans ((if_neg c_4).trans (if_neg c_7))))
            have he := hF.trans (congrArg (fun z : Int32 × NS => (z.1, ((u.1, u.2.1, va_up u.2.2 j z.2) : XS))) he)
            exact W.iret hx hb hr (fun t ht hW => ⟨⟨(-3), (u.1, u.2.1, va_up u.2.2 j (a0, a1, a2, a3, a4, a5, a6, a7, a8, a9, a10, a11, a12, a13, a14)), rfl, ⟨(congrArg Prod.fst he).symm, (congrArg Prod.snd he).symm⟩, wx.set kn (ad j, .inr (0, n_fs (a0, a1, a2, a3, a4, a5, a6, a7, a8, a9, a10, a11, a12, a13, a14))), cA, ⟨arr, f, ad, hI.node hjl hn (a0, a1, a2, a3, a4, a5, a6, a7, a8, a9, a10, a11, a12, a13, a14)⟩, by rw [ht]; exact hP, va_K.moved hW.alike hK, hD⟩, hS.F ht⟩) hS.2.2 d_X_event_46
    · refine lv_bipush (v := (-2)) hx hb d_X_event_21 (by decide) ?_
      have he : g_X_event (a0, a1, a2, a3, a4, a5, a6, a7, a8, a9, a10, a11, a12, a13, a14) k w = ((-2), (a0, a1, a2, a3, a4, a5, a6, a7, a8, a9, a10, a11, a12, a13, a14)) := hc.trans (if_pos c_2)
      have he := hF.trans (congrArg (fun z : Int32 × NS => (z.1, ((u.1, u.2.1, va_up u.2.2 j z.2) : XS))) he)
      exact W.iret hx hb hr (fun t ht hW => ⟨⟨(-2), (u.1, u.2.1, va_up u.2.2 j (a0, a1, a2, a3, a4, a5, a6, a7, a8, a9, a10, a11, a12, a13, a14)), rfl, ⟨(congrArg Prod.fst he).symm, (congrArg Prod.snd he).symm⟩, wx.set kn (ad j, .inr (0, n_fs (a0, a1, a2, a3, a4, a5, a6, a7, a8, a9, a10, a11, a12, a13, a14))), cA, ⟨arr, f, ad, hI.node hjl hn (a0, a1, a2, a3, a4, a5, a6, a7, a8, a9, a10, a11, a12, a13, a14)⟩, by rw [ht]; exact hP, va_K.moved hW.alike hK, hD⟩, hS.F ht⟩) hS.2.2 d_X_event_23
def g_X_recover_k4 (u : NS) (k : Int32) : Int32 × NS := let b4_0 := u.1; let b4_1 := u.2.1; let b4_2 := u.2.2.1; let b4_3 := u.2.2.2.1; let b4_4 := u.2.2.2.2.1; let b4_5 := u.2.2.2.2.2.1; let b4_6 := u.2.2.2.2.2.2.1; let b4_7 := u.2.2.2.2.2.2.2.1; let b4_8 := u.2.2.2.2.2.2.2.2.1; let b4_9 := u.2.2.2.2.2.2.2.2.2.1; let b4_10 := u.2.2.2.2.2.2.2.2.2.2.1; let b4_11 := u.2.2.2.2.2.2.2.2.2.2.2.1; let b4_12 := u.2.2.2.2.2.2.2.2.2.2.2.2.1; let b4_13 := u.2.2.2.2.2.2.2.2.2.2.2.2.2.1; let b4_14 := u.2.2.2.2.2.2.2.2.2.2.2.2.2.2; (f_N_condition (b4_0, b4_1, b4_2, b4_3, b4_4, b4_5, b4_6, b4_7, b4_8, b4_9, b4_10, b4_11, b4_12, b4_13, b4_14), (b4_0, b4_1, b4_2, b4_3, b4_4, b4_5, b4_6, b4_7, b4_8, b4_9, b4_10, b4_11, b4_12, b4_13, b4_14))
def g_X_recover (u : NS) (k : Int32) : Int32 × NS := let a0 := u.1; let a1 := u.2.1; let a2 := u.2.2.1; let a3 := u.2.2.2.1; let a4 := u.2.2.2.2.1; let a5 := u.2.2.2.2.2.1; let a6 := u.2.2.2.2.2.2.1; let a7 := u.2.2.2.2.2.2.2.1; let a8 := u.2.2.2.2.2.2.2.2.1; let a9 := u.2.2.2.2.2.2.2.2.2.1; let a10 := u.2.2.2.2.2.2.2.2.2.2.1; let a11 := u.2.2.2.2.2.2.2.2.2.2.2.1; let a12 := u.2.2.2.2.2.2.2.2.2.2.2.2.1; let a13 := u.2.2.2.2.2.2.2.2.2.2.2.2.2.1; let a14 := u.2.2.2.2.2.2.2.2.2.2.2.2.2.2; if 1 ≤ k then (if a2 = 0 then ((-3), (a0, a1, a2, a3, a4, a5, a6, a7, a8, a9, a10, a11, a12, a13, a14)) else (if a13 = 0 then ((-3), (a0, a1, a2, a3, a4, a5, a6, a7, a8, a9, a10, a11, a12, a13, a14)) else (g_X_recover_k4 (f_N_countRows (a0, a1, a2, a3, a4, a5, a6, a7, a8, a9, a10, a11, a12, a13, a14) k) k))) else ((-2), (a0, a1, a2, a3, a4, a5, a6, a7, a8, a9, a10, a11, a12, a13, a14))
def F_X_recover (u : XS) (n : Int32) (k : Int32) : Int32 × XS := match ix u.1 n with
  | none => (-1, u)
  | some j => ((g_X_recover (u.2.2 j) k).1, ((u.1, u.2.1, va_up u.2.2 j (g_X_recover (u.2.2 j) k).2) : XS))
set_option maxHeartbeats 4000000 in
set_option maxRecDepth 100000 in
theorem c_X_recover (l : Launch) (D : va_G) (h0 sz : Nat) (u : XS) (w0 : va_W) (cA : ClassId) (hI : IX h0 u w0 cA) (hD0 : va_D (fun _ => True) w0) (n : Int32) (k : Int32) : Met l y_X_recover (cw_X_recover :: BIG) ((rmk 5 0 0)) (va_Pc [.ref h0, .int n, .int k] (fun U => U.heap.size = sz ∧ va_P D cls_ w0 U.heap ∧ va_K D cls_ [(cA, .object R_N)] U ∧ NK U)) (va_Qi (fun (r : Int32) (u2 : XS) => r = (F_X_recover u n k).1 ∧ u2 = (F_X_recover u n k).2) (atX D h0 (va_A w0 sz)) (va_A w0 sz)) 0 0 (va_A w0 sz) := by
  obtain ⟨arr, f, ad, hI⟩ := hI
  refine Met.ofW (cc := b_X_recover) (maxL := 4) (ret := (some .int)) (by decide) rfl ?_
  intro p e s m args below meth c s₁ B hml hv
  obtain ⟨rfl, hsz, hP, hK, hN⟩ := hv
  have hx := B.exec
  have hb := B.bytes
  have hr := B.returns
  have htB : ∀ w ∈ BIG, w.before _ s = true := fun w h => atoms_spec (ws := cw_X_recover :: BIG) B.pre w (List.mem_cons_of_mem _ h)
  have hown : s.vm.findClass R_X = some m.cls := findClass_of_methodNamed B.named
  have hlocks := B.notSynchronized
  have hD : va_D (va_A w0 sz) w0 := hD0.self
  have hS : va_S (va_A w0 sz) s.heap s.heap [] := va_S.rf
  obtain ⟨kx, hkx⟩ := hI.2.1
  obtain ⟨wx, hwx⟩ : ∃ w, w = w0 := ⟨_, rfl⟩
  have hP : va_P D cls_ wx s.heap := by rw [hwx]; exact hP
  have hI : IXp h0 u wx cA arr f ad := by rw [hwx]; exact hI
  have hD : va_D (va_A w0 sz) wx := by rw [hwx]; exact hD
  have hkx : wx[kx]? = some (h0, .inr (1, [.ref arr, .int (nI u.1), .long u.2.1])) := by rw [hwx]; exact hkx
  have hl := lv_entry ([.ref h0, .int n, .int k]) (n := 4) (Nat.le_of_ble_eq_true rfl)
  rw [lg_entry_eq]
  generalize (lg_sl ([.ref h0, .int n, .int k]) ++ List.replicate (4 - (lg_sl ([.ref h0, .int n, .int k])).length) Slot.unset).toArray = ls at hl ⊢
  have hl : lv_has ls 4 [(0, .ref h0), (1, .int n), (2, .int k)] := hl
  refine lv_aload_n hx hb d_X_recover_0 rfl (lv_at hl 0 rfl) ?_
  refine lv_iload_n hx hb d_X_recover_1 rfl (lv_at hl 1 rfl) ?_
  refine va_csq (va_Run.run (va_runV (As := [.int n]) (rest := []) ⟨hx, hb, hml, hown, htB⟩ (c_X_find l D h0 u wx cA arr f ad hI n) (cwV 1 htB g_X_24 rfl rfl rfl (by decide +kernel) ⟨Nat.le_of_ble_eq_true rfl, Nat.le_of_ble_eq_true rfl⟩) (preV hP hK hN (va_recv hK hP (ci := 1) (q0 := kx) rfl hkx)) rfl rfl hl.1 rfl (lv_room (Nat.le_of_ble_eq_true rfl)) d_X_recover_2 ⟨Nat.le_of_ble_eq_true rfl, Nat.le_of_ble_eq_true rfl⟩)) (fun r hrr => ?_)
  rcases hj : ix u.1 n with _ | j
  · rw [hj] at hrr
    have hrr : r = none := hrr
    subst hrr
    refine lv_astore_nN (lv' := [(3, .null), (0, .ref h0), (1, .int n), (2, .int k)]) hx hb d_X_recover_5 rfl hl (by decide) rfl (fun ls hl => ?_)
    refine lv_aload_nN hx hb d_X_recover_6 rfl (lv_at hl 0 rfl) ?_
    refine lv_ifnonnullN hx hb d_X_recover_7 ?_
    refine lv_iconst (v := (-1)) hx hb d_X_recover_10 (by decide) ?_
    have hF : F_X_recover u n k = (-1, u) := by unfold F_X_recover; rw [hj]
    exact W.iret hx hb hr (fun t ht hW => ⟨⟨-1, u, rfl, ⟨(congrArg Prod.fst hF).symm, (congrArg Prod.snd hF).symm⟩, wx, cA, ⟨arr, f, ad, hI⟩, by rw [ht]; exact hP, va_K.moved hW.alike hK, hD⟩, hS.F ht⟩) hS.2.2 d_X_recover_11
  · rw [hj] at hrr
    have hrr : r = some (ad j) := hrr
    subst hrr
    obtain ⟨hjl, -⟩ := ix_some hI.1 hj
    obtain ⟨-, kn, hn⟩ := hI.2.2.2.1 j hjl
    have hnx : kn ≠ kx := fun q => by rw [q, hkx] at hn; have := congrArg Prod.snd (Option.some.inj hn); simp at this
    obtain ⟨z, hu⟩ : ∃ z, u.2.2 j = z := ⟨_, rfl⟩
    rw [hu] at hn
    obtain ⟨a0, a1, a2, a3, a4, a5, a6, a7, a8, a9, a10, a11, a12, a13, a14⟩ := z
    have hF : F_X_recover u n k = ((g_X_recover (a0, a1, a2, a3, a4, a5, a6, a7, a8, a9, a10, a11, a12, a13, a14) k).1, ((u.1, u.2.1, va_up u.2.2 j (g_X_recover (a0, a1, a2, a3, a4, a5, a6, a7, a8, a9, a10, a11, a12, a13, a14) k).2) : XS)) := by unfold F_X_recover; rw [hj]; show ((g_X_recover (u.2.2 j) k).1, ((u.1, u.2.1, va_up u.2.2 j (g_X_recover (u.2.2 j) k).2) : XS)) = _; rw [hu]
    refine lv_astore_n (lv' := [(3, .ref (ad j)), (0, .ref h0), (1, .int n), (2, .int k)]) hx hb d_X_recover_5 rfl hl (by decide) rfl (fun ls hl => ?_)
    refine lv_aload_n hx hb d_X_recover_6 rfl (lv_at hl 0 rfl) ?_
    refine lv_ifnonnull (tgt := 12) hx hb d_X_recover_7 (by decide) ?_
    have hn : wx[kn]? = some ((ad j), .inr (0, [.int a0, .int a1, .int a2, .int a3, .int a4, .int a5, .int a6, .int a7, .int a8, .int a9, .int a10, .int a11, .long a12, .int a13, .int a14])) := hn
    have hP := psame hP hn
    have hD := dsame hD hn
    have hc : g_X_recover (a0, a1, a2, a3, a4, a5, a6, a7, a8, a9, a10, a11, a12, a13, a14) k = g_X_recover (a0, a1, a2, a3, a4, a5, a6, a7, a8, a9, a10, a11, a12, a13, a14) k := rfl
    refine lv_iload_n hx hb d_X_recover_12 rfl (lv_at hl 3 rfl) ?_
    refine lv_iconst (v := 1) hx hb d_X_recover_13 (by decide) ?_
    refine lv_icmp_ge (tgt := 20) hx hb d_X_recover_14 (by decide) (fun c_1 => ?_) (fun c_1 => ?_)
    · refine lv_aload_n hx hb d_X_recover_20 rfl (lv_at hl 0 rfl) ?_
      refine va_get (D := D) (ci := 0) (v := .int a2) (C := R_N) (T := F_N) (N := 15) hx hb htB uw_N hown hK hP kn (sg hn) rfl 2 (by decide) (htB _ fl_X_32) (fun _ h9 => h9) rfl d_X_recover_21 ?_
      refine lv_if_eq (tgt := 34) hx hb d_X_recover_24 (by decide) (fun c_2 => ?_) (fun c_2 => ?_)
      · refine lv_bipush (v := (-3)) hx hb d_X_recover_34 (by decide) ?_
        have he : g_X_recover (a0, a1, a2, a3, a4, a5, a6, a7, a8, a9, a10, a11, a12, a13, a14) k = ((-3), (a0, a1, a2, a3, a4, a5, a6, a7, a8, a9, a10, a11, a12, a13, a14)) := hc.trans ((if_pos c_1).trans (if_pos c_2))
        have he := hF.trans (congrArg (fun z : Int32 × NS => (z.1, ((u.1, u.2.1, va_up u.2.2 j z.2) : XS))) he)
        exact W.iret hx hb hr (fun t ht hW => ⟨⟨(-3), (u.1, u.2.1, va_up u.2.2 j (a0, a1, a2, a3, a4, a5, a6, a7, a8, a9, a10, a11, a12, a13, a14)), rfl, ⟨(congrArg Prod.fst he).symm, (congrArg Prod.snd he).symm⟩, wx.set kn (ad j, .inr (0, n_fs (a0, a1, a2, a3, a4, a5, a6, a7, a8, a9, a10, a11, a12, a13, a14))), cA, ⟨arr, f, ad, hI.node hjl hn (a0, a1, a2, a3, a4, a5, a6, a7, a8, a9, a10, a11, a12, a13, a14)⟩, by rw [ht]; exact hP, va_K.moved hW.alike hK, hD⟩, hS.F ht⟩) hS.2.2 d_X_recover_36
      · refine lv_aload_n hx hb d_X_recover_27 rfl (lv_at hl 0 rfl) ?_
        refine va_get (D := D) (ci := 0) (v := .int a13) (C := R_N) (T := F_N) (N := 15) hx hb htB uw_N hown hK hP kn (sg hn) rfl 13 (by decide) (htB _ fl_X_53) (fun _ h9 => h9) rfl d_X_recover_28 ?_
        refine lv_if_ne (tgt := 37) hx hb d_X_recover_31 (by decide) (fun c_3 => ?_) (fun c_3 => ?_)
        · refine lv_aload_n hx hb d_X_recover_37 rfl (lv_at hl 0 rfl) ?_
          refine lv_iload_n hx hb d_X_recover_38 rfl (lv_at hl 3 rfl) ?_
          refine va_callv (va_runV (As := [.int k]) (rest := []) ⟨hx, hb, hml, hown, htB⟩ (c_N_countRows l D (ad j) (a0, a1, a2, a3, a4, a5, a6, a7, a8, a9, a10, a11, a12, a13, a14) k) (cwV 1 htB g_X_56 rfl rfl rfl (by decide +kernel) ⟨Nat.le_of_ble_eq_true rfl, Nat.le_of_ble_eq_true rfl⟩) (preV (pone hP (sg hn)) (hK.sub (tys' := []) [] rfl) hN (va_recv hK hP (ci := 0) (q0 := kn) rfl (sg hn))) rfl rfl hl.1 rfl (lv_room (Nat.le_of_ble_eq_true rfl)) d_X_recover_39 ⟨Nat.le_of_ble_eq_true rfl, Nat.le_of_ble_eq_true rfl⟩) hS (fun q _ h => by rw [h]; exact hD.2 kn _ (sg hn)) (fun q h => by rw [h]; exact hD.2 kn _ (sg hn)) (fun u9 t H1 locs ht hvm hw hB hz1 hk1 hS => ?_)
          rw [ht] at hB
          obtain ⟨b4_0, b4_1, b4_2, b4_3, b4_4, b4_5, b4_6, b4_7, b4_8, b4_9, b4_10, b4_11, b4_12, b4_13, b4_14⟩ := u9
          obtain ⟨hP, hD⟩ := pcall (e2 := .inr (0, [.int b4_0, .int b4_1, .int b4_2, .int b4_3, .int b4_4, .int b4_5, .int b4_6, .int b4_7, .int b4_8, .int b4_9, .int b4_10, .int b4_11, .long b4_12, .int b4_13, .int b4_14])) hP hD (sg hn) hk1 hB
          rw [List.set_set] at hP hD
          have hc : g_X_recover (a0, a1, a2, a3, a4, a5, a6, a7, a8, a9, a10, a11, a12, a13, a14) k = g_X_recover_k4 (b4_0, b4_1, b4_2, b4_3, b4_4, b4_5, b4_6, b4_7, b4_8, b4_9, b4_10, b4_11, b4_12, b4_13, b4_14) k := (hc.trans ((if_pos c_1).trans ((if_neg c_2).trans (if_neg c_3)))).trans (congrArg (fun z => g_X_recover_k4 z k) hw.symm)
          refine lv_aload_n hx hb d_X_recover_42 rfl (lv_at hl 0 rfl) ?_
          refine vp_callSi (va_Run.run (va_runV (As := []) (rest := []) ⟨hx, hb, hml, hown, htB⟩ (c_N_condition l D (ad j) (b4_0, b4_1, b4_2, b4_3, b4_4, b4_5, b4_6, b4_7, b4_8, b4_9, b4_10, b4_11, b4_12, b4_13, b4_14)) (cwV 0 htB g_X_43 rfl rfl rfl (by decide +kernel) ⟨Nat.le_of_ble_eq_true rfl, Nat.le_of_ble_eq_true rfl⟩) (preV (pone hP (sg hn)) (hK.sub (tys' := []) [] rfl) hN (va_recv hK hP (ci := 0) (q0 := kn) rfl (sg hn))) rfl rfl hl.1 rfl (lv_room (Nat.le_of_ble_eq_true rfl)) d_X_recover_43 ⟨Nat.le_of_ble_eq_true rfl, Nat.le_of_ble_eq_true rfl⟩)) (fun r_5 hr_5 => ?_)
          subst hr_5
          have he : g_X_recover (a0, a1, a2, a3, a4, a5, a6, a7, a8, a9, a10, a11, a12, a13, a14) k = (f_N_condition (b4_0, b4_1, b4_2, b4_3, b4_4, b4_5, b4_6, b4_7, b4_8, b4_9, b4_10, b4_11, b4_12, b4_13, b4_14), (b4_0, b4_1, b4_2, b4_3, b4_4, b4_5, b4_6, b4_7, b4_8, b4_9, b4_10, b4_11, b4_12, b4_13, b4_14)) := hc.trans (rfl)
          have he := hF.trans (congrArg (fun z : Int32 × NS => (z.1, ((u.1, u.2.1, va_up u.2.2 j z.2) : XS))) he)
          exact W.iret hx hb hr (fun t ht hW => ⟨⟨f_N_condition (b4_0, b4_1, b4_2, b4_3, b4_4, b4_5, b4_6, b4_7, b4_8, b4_9, b4_10, b4_11, b4_12, b4_13, b4_14), (u.1, u.2.1, va_up u.2.2 j (b4_0, b4_1, b4_2, b4_3, b4_4, b4_5, b4_6, b4_7, b4_8, b4_9, b4_10, b4_11, b4_12, b4_13, b4_14)), rfl, ⟨(congrArg Prod.fst he).symm, (congrArg Prod.snd he).symm⟩, wx.set kn (ad j, .inr (0, n_fs (b4_0, b4_1, b4_2, b4_3, b4_4, b4_5, b4_6, b4_7, b4_8, b4_9, b4_10, b4_11, b4_12, b4_13, b4_14))), cA, ⟨arr, f, ad, hI.node hjl hn (b4_0, b4_1, b4_2, b4_3, b4_4, b4_5, b4_6, b4_7, b4_8, b4_9, b4_10, b4_11, b4_12, b4_13, b4_14)⟩, by rw [ht]; exact hP, va_K.moved hW.alike hK, hD⟩, hS.F ht⟩) hS.2.2 d_X_recover_46
        · refine lv_bipush (v := (-3)) hx hb d_X_recover_34 (by decide) ?_
          have he : g_X_recover (a0, a1, a2, a3, a4, a5, a6, a7, a8, a9, a10, a11, a12, a13, a14) k = ((-3), (a0, a1, a2, a3, a4, a5, a6, a7, a8, a9, a10, a11, a12, a13, a14)) := hc.trans ((if_pos c_1).trans ((if_neg c_2).trans (if_pos c_3)))
          have he := hF.trans (congrArg (fun z : Int32 × NS => (z.1, ((u.1, u.2.1, va_up u.2.2 j z.2) : XS))) he)
          exact W.iret hx hb hr (fun t ht hW => ⟨⟨(-3), (u.1, u.2.1, va_up u.2.2 j (a0, a1, a2, a3, a4, a5, a6, a7, a8, a9, a10, a11, a12, a13, a14)), rfl, ⟨(congrArg Prod.fst he).symm, (congrArg Prod.snd he).symm⟩, wx.set kn (ad j, .inr (0, n_fs (a0, a1, a2, a3, a4, a5, a6, a7, a8, a9, a10, a11, a12, a13, a14))), cA, ⟨arr, f, ad, hI.node hjl hn (a0, a1, a2, a3, a4, a5, a6, a7, a8, a9, a10, a11, a12, a13, a14)⟩, by rw [ht]; exact hP, va_K.moved hW.alike hK, hD⟩, hS.F ht⟩) hS.2.2 d_X_recover_36
    · refine lv_bipush (v := (-2)) hx hb d_X_recover_17 (by decide) ?_
      have he : g_X_recover (a0, a1, a2, a3, a4, a5, a6, a7, a8, a9, a10, a11, a12, a13, a14) k = ((-2), (a0, a1, a2, a3, a4, a5, a6, a7, a8, a9, a10, a11, a12, a13, a14)) := hc.trans (if_neg c_1)
      have he := hF.trans (congrArg (fun z : Int32 × NS => (z.1, ((u.1, u.2.1, va_up u.2.2 j z.2) : XS))) he)
      exact W.iret hx hb hr (fun t ht hW => ⟨⟨(-2), (u.1, u.2.1, va_up u.2.2 j (a0, a1, a2, a3, a4, a5, a6, a7, a8, a9, a10, a11, a12, a13, a14)), rfl, ⟨(congrArg Prod.fst he).symm, (congrArg Prod.snd he).symm⟩, wx.set kn (ad j, .inr (0, n_fs (a0, a1, a2, a3, a4, a5, a6, a7, a8, a9, a10, a11, a12, a13, a14))), cA, ⟨arr, f, ad, hI.node hjl hn (a0, a1, a2, a3, a4, a5, a6, a7, a8, a9, a10, a11, a12, a13, a14)⟩, by rw [ht]; exact hP, va_K.moved hW.alike hK, hD⟩, hS.F ht⟩) hS.2.2 d_X_recover_19

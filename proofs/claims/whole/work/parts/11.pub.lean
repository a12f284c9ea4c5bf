def g_X_counter (u : NS) (w : Int32) : Int32 := let a0 := u.1; let a1 := u.2.1; if w = 0 then a1 else a0
def F_X_counter (u : XS) (n : Int32) (w : Int32) : Int32 × XS := match ix u.1 n with
  | none => (-1, u)
  | some j => (g_X_counter (u.2.2 j) w, u)
set_option maxHeartbeats 4000000 in
set_option maxRecDepth 100000 in
theorem c_X_counter (l : Launch) (D : va_G) (h0 sz : Nat) (u : XS) (w0 : va_W) (cA : ClassId) (hI : IX h0 u w0 cA) (hD0 : va_D (fun _ => True) w0) (n : Int32) (w : Int32) : Met l y_X_counter (cw_X_counter :: BIG) ((rmk 5 0 0)) (va_Pc [.ref h0, .int n, .int w] (fun U => U.heap.size = sz ∧ va_P D cls_ w0 U.heap ∧ va_K D cls_ [(cA, .object R_N)] U ∧ NK U)) (va_Qi (fun (r : Int32) (u2 : XS) => r = (F_X_counter u n w).1 ∧ u2 = (F_X_counter u n w).2) (atX D h0 (va_A w0 sz)) (va_A w0 sz)) 0 0 (va_A w0 sz) := by
  obtain ⟨arr, f, ad, hI⟩ := hI
  refine Met.ofW (cc := b_X_counter) (maxL := 4) (ret := (some .int)) (by decide) rfl ?_
  intro p e s m args below meth c s₁ B hml hv
  obtain ⟨rfl, hsz, hP, hK, hN⟩ := hv
  have hx := B.exec
  have hb := B.bytes
  have hr := B.returns
  have htB : ∀ w ∈ BIG, w.before _ s = true := fun w h => atoms_spec (ws := cw_X_counter :: BIG) B.pre w (List.mem_cons_of_mem _ h)
  have hown : s.vm.findClass R_X = some m.cls := findClass_of_methodNamed B.named
  have hlocks := B.notSynchronized
  have hD : va_D (va_A w0 sz) w0 := hD0.self
  have hS : va_S (va_A w0 sz) s.heap s.heap [] := va_S.rf
  obtain ⟨kx, hkx⟩ := hI.2.1
  obtain ⟨wx, hwx⟩ : ∃ w, w = w0 := ⟨_, rfl⟩
  have hP : va_P D cls_ wx s.heap := by rw [hwx]; exact hP
  have hI : IXp h0 u wx cA arr f ad := by rw [hwx]; exact hI
  have hD : va_D (va_A w0 sz) wx := by rw [hwx]; exact hD
  have hkx : wx[kx]? = some (h0, .inr (1, [.ref arr, .int (nI u.1), .long u.2.1])) := by rw [hwx]; exact hkx
  have hl := lv_entry ([.ref h0, .int n, .int w]) (n := 4) (Nat.le_of_ble_eq_true rfl)
  rw [lg_entry_eq]
  generalize (lg_sl ([.ref h0, .int n, .int w]) ++ List.replicate (4 - (lg_sl ([.ref h0, .int n, .int w])).length) Slot.unset).toArray = ls at hl ⊢
  have hl : lv_has ls 4 [(0, .ref h0), (1, .int n), (2, .int w)] := hl
  refine lv_aload_n hx hb d_X_counter_0 rfl (lv_at hl 0 rfl) ?_
  refine lv_iload_n hx hb d_X_counter_1 rfl (lv_at hl 1 rfl) ?_
  refine va_csq (va_Run.run (va_runV (As := [.int n]) (rest := []) ⟨hx, hb, hml, hown, htB⟩ (c_X_find l D h0 u wx cA arr f ad hI n) (cwV 1 htB g_X_24 rfl rfl rfl (by decide +kernel) ⟨Nat.le_of_ble_eq_true rfl, Nat.le_of_ble_eq_true rfl⟩) (preV hP hK hN (va_recv hK hP (ci := 1) (q0 := kx) rfl hkx)) rfl rfl hl.1 rfl (lv_room (Nat.le_of_ble_eq_true rfl)) d_X_counter_2 ⟨Nat.le_of_ble_eq_true rfl, Nat.le_of_ble_eq_true rfl⟩)) (fun r hrr => ?_)
  rcases hj : ix u.1 n with _ | j
  · rw [hj] at hrr
    have hrr : r = none := hrr
    subst hrr
    refine lv_astore_nN (lv' := [(3, .null), (0, .ref h0), (1, .int n), (2, .int w)]) hx hb d_X_counter_5 rfl hl (by decide) rfl (fun ls hl => ?_)
    refine lv_aload_nN hx hb d_X_counter_6 rfl (lv_at hl 0 rfl) ?_
    refine lv_ifnonnullN hx hb d_X_counter_7 ?_
    refine lv_iconst (v := (-1)) hx hb d_X_counter_10 (by decide) ?_
    have hF : F_X_counter u n w = (-1, u) := by unfold F_X_counter; rw [hj]
    exact W.iret hx hb hr (fun t ht hW => ⟨⟨-1, u, rfl, ⟨(congrArg Prod.fst hF).symm, (congrArg Prod.snd hF).symm⟩, wx, cA, ⟨arr, f, ad, hI⟩, by rw [ht]; exact hP, va_K.moved hW.alike hK, hD⟩, hS.F ht⟩) hS.2.2 d_X_counter_11
  · rw [hj] at hrr
    have hrr : r = some (ad j) := hrr
    subst hrr
    obtain ⟨hjl, -⟩ := ix_some hI.1 hj
    obtain ⟨-, kn, hn⟩ := hI.2.2.2.1 j hjl
    have hnx : kn ≠ kx := fun q => by rw [q, hkx] at hn; have := congrArg Prod.snd (Option.some.inj hn); simp at this
    obtain ⟨z, hu⟩ : ∃ z, u.2.2 j = z := ⟨_, rfl⟩
    rw [hu] at hn
    obtain ⟨a0, a1, a2, a3, a4, a5, a6, a7, a8, a9, a10, a11, a12, a13, a14⟩ := z
    have hF : F_X_counter u n w = (g_X_counter (a0, a1, a2, a3, a4, a5, a6, a7, a8, a9, a10, a11, a12, a13, a14) w, u) := by unfold F_X_counter; rw [hj]; show (g_X_counter (u.2.2 j) w, u) = _; rw [hu]
    refine lv_astore_n (lv' := [(3, .ref (ad j)), (0, .ref h0), (1, .int n), (2, .int w)]) hx hb d_X_counter_5 rfl hl (by decide) rfl (fun ls hl => ?_)
    refine lv_aload_n hx hb d_X_counter_6 rfl (lv_at hl 0 rfl) ?_
    refine lv_ifnonnull (tgt := 12) hx hb d_X_counter_7 (by decide) ?_
    have hn : wx[kn]? = some ((ad j), .inr (0, [.int a0, .int a1, .int a2, .int a3, .int a4, .int a5, .int a6, .int a7, .int a8, .int a9, .int a10, .int a11, .long a12, .int a13, .int a14])) := hn
    have hP := psame hP hn
    have hD := dsame hD hn
    have hc : g_X_counter (a0, a1, a2, a3, a4, a5, a6, a7, a8, a9, a10, a11, a12, a13, a14) w = g_X_counter (a0, a1, a2, a3, a4, a5, a6, a7, a8, a9, a10, a11, a12, a13, a14) w := rfl
    refine lv_iload_n hx hb d_X_counter_12 rfl (lv_at hl 3 rfl) ?_
    refine lv_if_eq (tgt := 23) hx hb d_X_counter_13 (by decide) (fun c_1 => ?_) (fun c_1 => ?_)
    · refine lv_aload_n hx hb d_X_counter_23 rfl (lv_at hl 0 rfl) ?_
      refine va_get (D := D) (ci := 0) (v := .int a1) (C := R_N) (T := F_N) (N := 15) hx hb htB uw_N hown hK hP kn (sg hn) rfl 1 (by decide) (htB _ fl_X_50) (fun _ h9 => h9) rfl d_X_counter_24 ?_
      have he : g_X_counter (a0, a1, a2, a3, a4, a5, a6, a7, a8, a9, a10, a11, a12, a13, a14) w = a1 := hc.trans (if_pos c_1)
      rw [ss hn] at hP hD
      exact W.iret hx hb hr (fun t ht hW => ⟨⟨a1, u, rfl, ⟨((congrArg Prod.fst hF).trans he).symm, (congrArg Prod.snd hF).symm⟩, wx, cA, ⟨arr, f, ad, hI⟩, by rw [ht]; exact hP, va_K.moved hW.alike hK, hD⟩, hS.F ht⟩) hS.2.2 d_X_counter_27
    · refine lv_aload_n hx hb d_X_counter_16 rfl (lv_at hl 0 rfl) ?_
      refine va_get (D := D) (ci := 0) (v := .int a0) (C := R_N) (T := F_N) (N := 15) hx hb htB uw_N hown hK hP kn (sg hn) rfl 0 (by decide) (htB _ fl_X_47) (fun _ h9 => h9) rfl d_X_counter_17 ?_
      refine lv_goto (tgt := 27) hx hb d_X_counter_20 (by decide) ?_
      have he : g_X_counter (a0, a1, a2, a3, a4, a5, a6, a7, a8, a9, a10, a11, a12, a13, a14) w = a0 := hc.trans (if_neg c_1)
      rw [ss hn] at hP hD
      exact W.iret hx hb hr (fun t ht hW => ⟨⟨a0, u, rfl, ⟨((congrArg Prod.fst hF).trans he).symm, (congrArg Prod.snd hF).symm⟩, wx, cA, ⟨arr, f, ad, hI⟩, by rw [ht]; exact hP, va_K.moved hW.alike hK, hD⟩, hS.F ht⟩) hS.2.2 d_X_counter_27
def g_X_state (u : NS) : Int32 := let a0 := u.1; let a1 := u.2.1; let a2 := u.2.2.1; let a3 := u.2.2.2.1; let a4 := u.2.2.2.2.1; let a5 := u.2.2.2.2.2.1; let a6 := u.2.2.2.2.2.2.1; let a7 := u.2.2.2.2.2.2.2.1; let a8 := u.2.2.2.2.2.2.2.2.1; let a9 := u.2.2.2.2.2.2.2.2.2.1; let a10 := u.2.2.2.2.2.2.2.2.2.2.1; let a11 := u.2.2.2.2.2.2.2.2.2.2.2.1; let a12 := u.2.2.2.2.2.2.2.2.2.2.2.2.1; let a13 := u.2.2.2.2.2.2.2.2.2.2.2.2.2.1; let a14 := u.2.2.2.2.2.2.2.2.2.2.2.2.2.2; f_N_condition (a0, a1, a2, a3, a4, a5, a6, a7, a8, a9, a10, a11, a12, a13, a14)
def F_X_state (u : XS) (n : Int32) : Int32 × XS := match ix u.1 n with
  | none => (-1, u)
  | some j => (g_X_state (u.2.2 j), u)
set_option maxHeartbeats 4000000 in
set_option maxRecDepth 100000 in
theorem c_X_state (l : Launch) (D : va_G) (h0 sz : Nat) (u : XS) (w0 : va_W) (cA : ClassId) (hI : IX h0 u w0 cA) (hD0 : va_D (fun _ => True) w0) (n : Int32) : Met l y_X_state (cw_X_state :: BIG) ((rmk 5 0 0)) (va_Pc [.ref h0, .int n] (fun U => U.heap.size = sz ∧ va_P D cls_ w0 U.heap ∧ va_K D cls_ [(cA, .object R_N)] U ∧ NK U)) (va_Qi (fun (r : Int32) (u2 : XS) => r = (F_X_state u n).1 ∧ u2 = (F_X_state u n).2) (atX D h0 (va_A w0 sz)) (va_A w0 sz)) 0 0 (va_A w0 sz) := by
  obtain ⟨arr, f, ad, hI⟩ := hI
  refine Met.ofW (cc := b_X_state) (maxL := 3) (ret := (some .int)) (by decide) rfl ?_
  intro p e s m args below meth c s₁ B hml hv
  obtain ⟨rfl, hsz, hP, hK, hN⟩ := hv
  have hx := B.exec
  have hb := B.bytes
  have hr := B.returns
  have htB : ∀ w ∈ BIG, w.before _ s = true := fun w h => atoms_spec (ws := cw_X_state :: BIG) B.pre w (List.mem_cons_of_mem _ h)
  have hown : s.vm.findClass R_X = some m.cls := findClass_of_methodNamed B.named
  have hlocks := B.notSynchronized
  have hD : va_D (va_A w0 sz) w0 := hD0.self
  have hS : va_S (va_A w0 sz) s.heap s.heap [] := va_S.rf
  obtain ⟨kx, hkx⟩ := hI.2.1
  obtain ⟨wx, hwx⟩ : ∃ w, w = w0 := ⟨_, rfl⟩
  have hP : va_P D cls_ wx s.heap := by rw [hwx]; exact hP
  have hI : IXp h0 u wx cA arr f ad := by rw [hwx]; exact hI
  have hD : va_D (va_A w0 sz) wx := by rw [hwx]; exact hD
  have hkx : wx[kx]? = some (h0, .inr (1, [.ref arr, .int (nI u.1), .long u.2.1])) := by rw [hwx]; exact hkx
  have hl := lv_entry ([.ref h0, .int n]) (n := 3) (Nat.le_of_ble_eq_true rfl)
  rw [lg_entry_eq]
  generalize (lg_sl ([.ref h0, .int n]) ++ List.replicate (3 - (lg_sl ([.ref h0, .int n])).length) Slot.unset).toArray = ls at hl ⊢
  have hl : lv_has ls 3 [(0, .ref h0), (1, .int n)] := hl
  refine lv_aload_n hx hb d_X_state_0 rfl (lv_at hl 0 rfl) ?_
  refine lv_iload_n hx hb d_X_state_1 rfl (lv_at hl 1 rfl) ?_
  refine va_csq (va_Run.run (va_runV (As := [.int n]) (rest := []) ⟨hx, hb, hml, hown, htB⟩ (c_X_find l D h0 u wx cA arr f ad hI n) (cwV 1 htB g_X_24 rfl rfl rfl (by decide +kernel) ⟨Nat.le_of_ble_eq_true rfl, Nat.le_of_ble_eq_true rfl⟩) (preV hP hK hN (va_recv hK hP (ci := 1) (q0 := kx) rfl hkx)) rfl rfl hl.1 rfl (lv_room (Nat.le_of_ble_eq_true rfl)) d_X_state_2 ⟨Nat.le_of_ble_eq_true rfl, Nat.le_of_ble_eq_true rfl⟩)) (fun r hrr => ?_)
  rcases hj : ix u.1 n with _ | j
  · rw [hj] at hrr
    have hrr : r = none := hrr
    subst hrr
    refine lv_astore_nN (lv' := [(2, .null), (0, .ref h0), (1, .int n)]) hx hb d_X_state_5 rfl hl (by decide) rfl (fun ls hl => ?_)
    refine lv_aload_nN hx hb d_X_state_6 rfl (lv_at hl 0 rfl) ?_
    refine lv_ifnonnullN hx hb d_X_state_7 ?_
    refine lv_iconst (v := (-1)) hx hb d_X_state_10 (by decide) ?_
    have hF : F_X_state u n = (-1, u) := by unfold F_X_state; rw [hj]
    exact W.iret hx hb hr (fun t ht hW => ⟨⟨-1, u, rfl, ⟨(congrArg Prod.fst hF).symm, (congrArg Prod.snd hF).symm⟩, wx, cA, ⟨arr, f, ad, hI⟩, by rw [ht]; exact hP, va_K.moved hW.alike hK, hD⟩, hS.F ht⟩) hS.2.2 d_X_state_11
  · rw [hj] at hrr
    have hrr : r = some (ad j) := hrr
    subst hrr
    obtain ⟨hjl, -⟩ := ix_some hI.1 hj
    obtain ⟨-, kn, hn⟩ := hI.2.2.2.1 j hjl
    have hnx : kn ≠ kx := fun q => by rw [q, hkx] at hn; have := congrArg Prod.snd (Option.some.inj hn); simp at this
    obtain ⟨z, hu⟩ : ∃ z, u.2.2 j = z := ⟨_, rfl⟩
    rw [hu] at hn
    obtain ⟨a0, a1, a2, a3, a4, a5, a6, a7, a8, a9, a10, a11, a12, a13, a14⟩ := z
    have hF : F_X_state u n = (g_X_state (a0, a1, a2, a3, a4, a5, a6, a7, a8, a9, a10, a11, a12, a13, a14), u) := by unfold F_X_state; rw [hj]; show (g_X_state (u.2.2 j), u) = _; rw [hu]
    refine lv_astore_n (lv' := [(2, .ref (ad j)), (0, .ref h0), (1, .int n)]) hx hb d_X_state_5 rfl hl (by decide) rfl (fun ls hl => ?_)
    refine lv_aload_n hx hb d_X_state_6 rfl (lv_at hl 0 rfl) ?_
    refine lv_ifnonnull (tgt := 12) hx hb d_X_state_7 (by decide) ?_
    have hn : wx[kn]? = some ((ad j), .inr (0, [.int a0, .int a1, .int a2, .int a3, .int a4, .int a5, .int a6, .int a7, .int a8, .int a9, .int a10, .int a11, .long a12, .int a13, .int a14])) := hn
    have hP := psame hP hn
    have hD := dsame hD hn
    have hc : g_X_state (a0, a1, a2, a3, a4, a5, a6, a7, a8, a9, a10, a11, a12, a13, a14) = g_X_state (a0, a1, a2, a3, a4, a5, a6, a7, a8, a9, a10, a11, a12, a13, a14) := rfl
    refine lv_aload_n hx hb d_X_state_12 rfl (lv_at hl 0 rfl) ?_
    refine vp_callSi (va_Run.run (va_runV (As := []) (rest := []) ⟨hx, hb, hml, hown, htB⟩ (c_N_condition l D (ad j) (a0, a1, a2, a3, a4, a5, a6, a7, a8, a9, a10, a11, a12, a13, a14)) (cwV 0 htB g_X_43 rfl rfl rfl (by decide +kernel) ⟨Nat.le_of_ble_eq_true rfl, Nat.le_of_ble_eq_true rfl⟩) (preV (pone hP (sg hn)) (hK.sub (tys' := []) [] rfl) hN (va_recv hK hP (ci := 0) (q0 := kn) rfl (sg hn))) rfl rfl hl.1 rfl (lv_room (Nat.le_of_ble_eq_true rfl)) d_X_state_13 ⟨Nat.le_of_ble_eq_true rfl, Nat.le_of_ble_eq_true rfl⟩)) (fun r_1 hr_1 => ?_)
    subst hr_1
    have he : g_X_state (a0, a1, a2, a3, a4, a5, a6, a7, a8, a9, a10, a11, a12, a13, a14) = f_N_condition (a0, a1, a2, a3, a4, a5, a6, a7, a8, a9, a10, a11, a12, a13, a14) := hc.trans (rfl)
    rw [ss hn] at hP hD
    exact W.iret hx hb hr (fun t ht hW => ⟨⟨f_N_condition (a0, a1, a2, a3, a4, a5, a6, a7, a8, a9, a10, a11, a12, a13, a14), u, rfl, ⟨((congrArg Prod.fst hF).trans he).symm, (congrArg Prod.snd hF).symm⟩, wx, cA, ⟨arr, f, ad, hI⟩, by rw [ht]; exact hP, va_K.moved hW.alike hK, hD⟩, hS.F ht⟩) hS.2.2 d_X_state_16
def g_X_flag (u : NS) : Int32 := let a3 := u.2.2.2.1; a3
def F_X_flag (u : XS) (n : Int32) : Int32 × XS := match ix u.1 n with
  | none => (-1, u)
  | some j => (g_X_flag (u.2.2 j), u)
set_option maxHeartbeats 4000000 in
set_option maxRecDepth 100000 in
theorem c_X_flag (l : Launch) (D : va_G) (h0 sz : Nat) (u : XS) (w0 : va_W) (cA : ClassId) (hI : IX h0 u w0 cA) (hD0 : va_D (fun _ => True) w0) (n : Int32) : Met l y_X_flag (cw_X_flag :: BIG) ((rmk 5 0 0)) (va_Pc [.ref h0, .int n] (fun U => U.heap.size = sz ∧ va_P D cls_ w0 U.heap ∧ va_K D cls_ [(cA, .object R_N)] U ∧ NK U)) (va_Qi (fun (r : Int32) (u2 : XS) => r = (F_X_flag u n).1 ∧ u2 = (F_X_flag u n).2) (atX D h0 (va_A w0 sz)) (va_A w0 sz)) 0 0 (va_A w0 sz) := by
  obtain ⟨arr, f, ad, hI⟩ := hI
  refine Met.ofW (cc := b_X_flag) (maxL := 3) (ret := (some .int)) (by decide) rfl ?_
  intro p e s m args below meth c s₁ B hml hv
  obtain ⟨rfl, hsz, hP, hK, hN⟩ := hv
  have hx := B.exec
  have hb := B.bytes
  have hr := B.returns
  have htB : ∀ w ∈ BIG, w.before _ s = true := fun w h => atoms_spec (ws := cw_X_flag :: BIG) B.pre w (List.mem_cons_of_mem _ h)
  have hown : s.vm.findClass R_X = some m.cls := findClass_of_methodNamed B.named
  have hlocks := B.notSynchronized
  have hD : va_D (va_A w0 sz) w0 := hD0.self
  have hS : va_S (va_A w0 sz) s.heap s.heap [] := va_S.rf
  obtain ⟨kx, hkx⟩ := hI.2.1
  obtain ⟨wx, hwx⟩ : ∃ w, w = w0 := ⟨_, rfl⟩
  have hP : va_P D cls_ wx s.heap := by rw [hwx]; exact hP
  have hI : IXp h0 u wx cA arr f ad := by rw [hwx]; exact hI
  have hD : va_D (va_A w0 sz) wx := by rw [hwx]; exact hD
  have hkx : wx[kx]? = some (h0, .inr (1, [.ref arr, .int (nI u.1), .long u.2.1])) := by rw [hwx]; exact hkx
  have hl := lv_entry ([.ref h0, .int n]) (n := 3) (Nat.le_of_ble_eq_true rfl)
  rw [lg_entry_eq]
  generalize (lg_sl ([.ref h0, .int n]) ++ List.replicate (3 - (lg_sl ([.ref h0, .int n])).length) Slot.unset).toArray = ls at hl ⊢
  have hl : lv_has ls 3 [(0, .ref h0), (1, .int n)] := hl
  refine lv_aload_n hx hb d_X_flag_0 rfl (lv_at hl 0 rfl) ?_
  refine lv_iload_n hx hb d_X_flag_1 rfl (lv_at hl 1 rfl) ?_
  refine va_csq (va_Run.run (va_runV (As := [.int n]) (rest := []) ⟨hx, hb, hml, hown, htB⟩ (c_X_find l D h0 u wx cA arr f ad hI n) (cwV 1 htB g_X_24 rfl rfl rfl (by decide +kernel) ⟨Nat.le_of_ble_eq_true rfl, Nat.le_of_ble_eq_true rfl⟩) (preV hP hK hN (va_recv hK hP (ci := 1) (q0 := kx) rfl hkx)) rfl rfl hl.1 rfl (lv_room (Nat.le_of_ble_eq_true rfl)) d_X_flag_2 ⟨Nat.le_of_ble_eq_true rfl, Nat.le_of_ble_eq_true rfl⟩)) (fun r hrr => ?_)
  rcases hj : ix u.1 n with _ | j
  · rw [hj] at hrr
    have hrr : r = none := hrr
    subst hrr
    refine lv_astore_nN (lv' := [(2, .null), (0, .ref h0), (1, .int n)]) hx hb d_X_flag_5 rfl hl (by decide) rfl (fun ls hl => ?_)
    refine lv_aload_nN hx hb d_X_flag_6 rfl (lv_at hl 0 rfl) ?_
    refine lv_ifnonnullN hx hb d_X_flag_7 ?_
    refine lv_iconst (v := (-1)) hx hb d_X_flag_10 (by decide) ?_
    have hF : F_X_flag u n = (-1, u) := by unfold F_X_flag; rw [hj]
    exact W.iret hx hb hr (fun t ht hW => ⟨⟨-1, u, rfl, ⟨(congrArg Prod.fst hF).symm, (congrArg Prod.snd hF).symm⟩, wx, cA, ⟨arr, f, ad, hI⟩, by rw [ht]; exact hP, va_K.moved hW.alike hK, hD⟩, hS.F ht⟩) hS.2.2 d_X_flag_11
  · rw [hj] at hrr
    have hrr : r = some (ad j) := hrr
    subst hrr
    obtain ⟨hjl, -⟩ := ix_some hI.1 hj
    obtain ⟨-, kn, hn⟩ := hI.2.2.2.1 j hjl
    have hnx : kn ≠ kx := fun q => by rw [q, hkx] at hn; have := congrArg Prod.snd (Option.some.inj hn); simp at this
    obtain ⟨z, hu⟩ : ∃ z, u.2.2 j = z := ⟨_, rfl⟩
    rw [hu] at hn
    obtain ⟨a0, a1, a2, a3, a4, a5, a6, a7, a8, a9, a10, a11, a12, a13, a14⟩ := z
    have hF : F_X_flag u n = (g_X_flag (a0, a1, a2, a3, a4, a5, a6, a7, a8, a9, a10, a11, a12, a13, a14), u) := by unfold F_X_flag; rw [hj]; show (g_X_flag (u.2.2 j), u) = _; rw [hu]
    refine lv_astore_n (lv' := [(2, .ref (ad j)), (0, .ref h0), (1, .int n)]) hx hb d_X_flag_5 rfl hl (by decide) rfl (fun ls hl => ?_)
    refine lv_aload_n hx hb d_X_flag_6 rfl (lv_at hl 0 rfl) ?_
    refine lv_ifnonnull (tgt := 12) hx hb d_X_flag_7 (by decide) ?_
    have hn : wx[kn]? = some ((ad j), .inr (0, [.int a0, .int a1, .int a2, .int a3, .int a4, .int a5, .int a6, .int a7, .int a8, .int a9, .int a10, .int a11, .long a12, .int a13, .int a14])) := hn
    have hP := psame hP hn
    have hD := dsame hD hn
    have hc : g_X_flag (a0, a1, a2, a3, a4, a5, a6, a7, a8, a9, a10, a11, a12, a13, a14) = g_X_flag (a0, a1, a2, a3, a4, a5, a6, a7, a8, a9, a10, a11, a12, a13, a14) := rfl
    refine lv_aload_n hx hb d_X_flag_12 rfl (lv_at hl 0 rfl) ?_
    refine va_get (D := D) (ci := 0) (v := .int a3) (C := R_N) (T := F_N) (N := 15) hx hb htB uw_N hown hK hP kn (sg hn) rfl 3 (by decide) (htB _ fl_X_60) (fun _ h9 => h9) rfl d_X_flag_13 ?_
    have he : g_X_flag (a0, a1, a2, a3, a4, a5, a6, a7, a8, a9, a10, a11, a12, a13, a14) = a3 := hc.trans (rfl)
    rw [ss hn] at hP hD
    exact W.iret hx hb hr (fun t ht hW => ⟨⟨a3, u, rfl, ⟨((congrArg Prod.fst hF).trans he).symm, (congrArg Prod.snd hF).symm⟩, wx, cA, ⟨arr, f, ad, hI⟩, by rw [ht]; exact hP, va_K.moved hW.alike hK, hD⟩, hS.F ht⟩) hS.2.2 d_X_flag_16
def g_X_suspended (u : NS) : Int32 := let a2 := u.2.2.1; let a4 := u.2.2.2.2.1; if a2 = 0 then a4 else (-3)
def F_X_suspended (u : XS) (n : Int32) : Int32 × XS := match ix u.1 n with
  | none => (-1, u)
  | some j => (g_X_suspended (u.2.2 j), u)
set_option maxHeartbeats 4000000 in
set_option maxRecDepth 100000 in
theorem c_X_suspended (l : Launch) (D : va_G) (h0 sz : Nat) (u : XS) (w0 : va_W) (cA : ClassId) (hI : IX h0 u w0 cA) (hD0 : va_D (fun _ => True) w0) (n : Int32) : Met l y_X_suspended (cw_X_suspended :: BIG) ((rmk 5 0 0)) (va_Pc [.ref h0, .int n] (fun U => U.heap.size = sz ∧ va_P D cls_ w0 U.heap ∧ va_K D cls_ [(cA, .object R_N)] U ∧ NK U)) (va_Qi (fun (r : Int32) (u2 : XS) => r = (F_X_suspended u n).1 ∧ u2 = (F_X_suspended u n).2) (atX D h0 (va_A w0 sz)) (va_A w0 sz)) 0 0 (va_A w0 sz) := by
  obtain ⟨arr, f, ad, hI⟩ := hI
  refine Met.ofW (cc := b_X_suspended) (maxL := 3) (ret := (some .int)) (by decide) rfl ?_
  intro p e s m args below meth c s₁ B hml hv
  obtain ⟨rfl, hsz, hP, hK, hN⟩ := hv
  have hx := B.exec
  have hb := B.bytes
  have hr := B.returns
  have htB : ∀ w ∈ BIG, w.before _ s = true := fun w h => atoms_spec (ws := cw_X_suspended :: BIG) B.pre w (List.mem_cons_of_mem _ h)
  have hown : s.vm.findClass R_X = some m.cls := findClass_of_methodNamed B.named
  have hlocks := B.notSynchronized
  have hD : va_D (va_A w0 sz) w0 := hD0.self
  have hS : va_S (va_A w0 sz) s.heap s.heap [] := va_S.rf
  obtain ⟨kx, hkx⟩ := hI.2.1
  obtain ⟨wx, hwx⟩ : ∃ w, w = w0 := ⟨_, rfl⟩
  have hP : va_P D cls_ wx s.heap := by rw [hwx]; exact hP
  have hI : IXp h0 u wx cA arr f ad := by rw [hwx]; exact hI
  have hD : va_D (va_A w0 sz) wx := by rw [hwx]; exact hD
  have hkx : wx[kx]? = some (h0, .inr (1, [.ref arr, .int (nI u.1), .long u.2.1])) := by rw [hwx]; exact hkx
  have hl := lv_entry ([.ref h0, .int n]) (n := 3) (Nat.le_of_ble_eq_true rfl)
  rw [lg_entry_eq]
  generalize (lg_sl ([.ref h0, .int n]) ++ List.replicate (3 - (lg_sl ([.ref h0, .int n])).length) Slot.unset).toArray = ls at hl ⊢
  have hl : lv_has ls 3 [(0, .ref h0), (1, .int n)] := hl
  refine lv_aload_n hx hb d_X_suspended_0 rfl (lv_at hl 0 rfl) ?_
  refine lv_iload_n hx hb d_X_suspended_1 rfl (lv_at hl 1 rfl) ?_
  refine va_csq (va_Run.run (va_runV (As := [.int n]) (rest := []) ⟨hx, hb, hml, hown, htB⟩ (c_X_find l D h0 u wx cA arr f ad hI n) (cwV 1 htB g_X_24 rfl rfl rfl (by decide +kernel) ⟨Nat.le_of_ble_eq_true rfl, Nat.le_of_ble_eq_true rfl⟩) (preV hP hK hN (va_recv hK hP (ci := 1) (q0 := kx) rfl hkx)) rfl rfl hl.1 rfl (lv_room (Nat.le_of_ble_eq_true rfl)) d_X_suspended_2 ⟨Nat.le_of_ble_eq_true rfl, Nat.le_of_ble_eq_true rfl⟩)) (fun r hrr => ?_)
  rcases hj : ix u.1 n with _ | j
  · rw [hj] at hrr
    have hrr : r = none := hrr
    subst hrr
    refine lv_astore_nN (lv' := [(2, .null), (0, .ref h0), (1, .int n)]) hx hb d_X_suspended_5 rfl hl (by decide) rfl (fun ls hl => ?_)
    refine lv_aload_nN hx hb d_X_suspended_6 rfl (lv_at hl 0 rfl) ?_
    refine lv_ifnonnullN hx hb d_X_suspended_7 ?_
    refine lv_iconst (v := (-1)) hx hb d_X_suspended_10 (by decide) ?_
    have hF : F_X_suspended u n = (-1, u) := by unfold F_X_suspended; rw [hj]
    exact W.iret hx hb hr (fun t ht hW => ⟨⟨-1, u, rfl, ⟨(congrArg Prod.fst hF).symm, (congrArg Prod.snd hF).symm⟩, wx, cA, ⟨arr, f, ad, hI⟩, by rw [ht]; exact hP, va_K.moved hW.alike hK, hD⟩, hS.F ht⟩) hS.2.2 d_X_suspended_11
  · rw [hj] at hrr
    have hrr : r = some (ad j) := hrr
    subst hrr
    obtain ⟨hjl, -⟩ := ix_some hI.1 hj
    obtain ⟨-, kn, hn⟩ := hI.2.2.2.1 j hjl
    have hnx : kn ≠ kx := fun q => by rw [q, hkx] at hn; have := congrArg Prod.snd (Option.some.inj hn); simp at this
    obtain ⟨z, hu⟩ : ∃ z, u.2.2 j = z := ⟨_, rfl⟩
    rw [hu] at hn
    obtain ⟨a0, a1, a2, a3, a4, a5, a6, a7, a8, a9, a10, a11, a12, a13, a14⟩ := z
    have hF : F_X_suspended u n = (g_X_suspended (a0, a1, a2, a3, a4, a5, a6, a7, a8, a9, a10, a11, a12, a13, a14), u) := by unfold F_X_suspended; rw [hj]; show (g_X_suspended (u.2.2 j), u) = _; rw [hu]
    refine lv_astore_n (lv' := [(2, .ref (ad j)), (0, .ref h0), (1, .int n)]) hx hb d_X_suspended_5 rfl hl (by decide) rfl (fun ls hl => ?_)
    refine lv_aload_n hx hb d_X_suspended_6 rfl (lv_at hl 0 rfl) ?_
    refine lv_ifnonnull (tgt := 12) hx hb d_X_suspended_7 (by decide) ?_
    have hn : wx[kn]? = some ((ad j), .inr (0, [.int a0, .int a1, .int a2, .int a3, .int a4, .int a5, .int a6, .int a7, .int a8, .int a9, .int a10, .int a11, .long a12, .int a13, .int a14])) := hn
    have hP := psame hP hn
    have hD := dsame hD hn
    have hc : g_X_suspended (a0, a1, a2, a3, a4, a5, a6, a7, a8, a9, a10, a11, a12, a13, a14) = g_X_suspended (a0, a1, a2, a3, a4, a5, a6, a7, a8, a9, a10, a11, a12, a13, a14) := rfl
    refine lv_aload_n hx hb d_X_suspended_12 rfl (lv_at hl 0 rfl) ?_
    refine va_get (D := D) (ci := 0) (v := .int a2) (C := R_N) (T := F_N) (N := 15) hx hb htB uw_N hown hK hP kn (sg hn) rfl 2 (by decide) (htB _ fl_X_32) (fun _ h9 => h9) rfl d_X_suspended_13 ?_
    refine lv_if_eq (tgt := 22) hx hb d_X_suspended_16 (by decide) (fun c_1 => ?_) (fun c_1 => ?_)
    · refine lv_aload_n hx hb d_X_suspended_22 rfl (lv_at hl 0 rfl) ?_
      refine va_get (D := D) (ci := 0) (v := .int a4) (C := R_N) (T := F_N) (N := 15) hx hb htB uw_N hown hK hP kn (sg hn) rfl 4 (by decide) (htB _ fl_X_86) (fun _ h9 => h9) rfl d_X_suspended_23 ?_
      have he : g_X_suspended (a0, a1, a2, a3, a4, a5, a6, a7, a8, a9, a10, a11, a12, a13, a14) = a4 := hc.trans (if_pos c_1)
      rw [ss hn] at hP hD
      exact W.iret hx hb hr (fun t ht hW => ⟨⟨a4, u, rfl, ⟨((congrArg Prod.fst hF).trans he).symm, (congrArg Prod.snd hF).symm⟩, wx, cA, ⟨arr, f, ad, hI⟩, by rw [ht]; exact hP, va_K.moved hW.alike hK, hD⟩, hS.F ht⟩) hS.2.2 d_X_suspended_26
    · refine lv_bipush (v := (-3)) hx hb d_X_suspended_19 (by decide) ?_
      have he : g_X_suspended (a0, a1, a2, a3, a4, a5, a6, a7, a8, a9, a10, a11, a12, a13, a14) = (-3) := hc.trans (if_neg c_1)
      rw [ss hn] at hP hD
      exact W.iret hx hb hr (fun t ht hW => ⟨⟨(-3), u, rfl, ⟨((congrArg Prod.fst hF).trans he).symm, (congrArg Prod.snd hF).symm⟩, wx, cA, ⟨arr, f, ad, hI⟩, by rw [ht]; exact hP, va_K.moved hW.alike hK, hD⟩, hS.F ht⟩) hS.2.2 d_X_suspended_21

set_option maxHeartbeats 4000000 in
set_option maxRecDepth 100000 in
/-- find: the node's cell, or null -/
theorem c_X_find (l : Launch) (D : va_G) (h0 : Nat) (u : XS) (wx : va_W) (cA : ClassId) (arr : Nat) (f : Nat → Option Nat) (ad : Nat → Nat) (hI : IXp h0 u wx cA arr f ad) (k : Int32) : Met l y_X_find (cw_X_find :: BIG) (rmk 0 0 0) (va_Pc [.ref h0, .int k] (fun U => va_P D cls_ wx U.heap ∧ va_K D cls_ [(cA, .object R_N)] U ∧ NK U)) (va_Sq (fun r => r = (ix u.1 k).map ad)) 0 0 (fun _ => False) := by
  refine Met.ofW (cc := b_X_find) (maxL := 2) (ret := (some (.object "CanErrors$Node"))) (by decide) rfl ?_
  intro p e s m args below meth c s₁ B hml hv
  obtain ⟨rfl, hP, hK, hN⟩ := hv
  have hx := B.exec
  have hb := B.bytes
  have hr := B.returns
  have htB : ∀ w ∈ BIG, w.before _ s = true := fun w h => atoms_spec (ws := cw_X_find :: BIG) B.pre w (List.mem_cons_of_mem _ h)
  have hown : s.vm.findClass R_X = some m.cls := findClass_of_methodNamed B.named
  have hlocks := B.notSynchronized
  obtain ⟨hn, ⟨kx, hkx⟩, ⟨ka, hka⟩, h4, h5⟩ := hI
  have hl := lv_entry ([.ref h0, .int k]) (n := 2) (Nat.le_of_ble_eq_true rfl)
  rw [lg_entry_eq]
  generalize (lg_sl ([.ref h0, .int k]) ++ List.replicate (2 - (lg_sl ([.ref h0, .int k])).length) Slot.unset).toArray = ls at hl ⊢
  have hl : lv_has ls 2 [(0, .ref h0), (1, .int k)] := hl
  have fin : ix u.1 k = none → W p l e (headSpec (cw_X_find :: BIG) (rmk 0 0 0)).room s m ([.ref h0, .int k] : List Value).toArray below meth c s.heap [] 0 0 (MQ below (va_Sq (fun r => r = (ix u.1 k).map ad)) ([.ref h0, .int k] : List Value).toArray s 0 0 (fun _ => False)) (F0 m 22 ls []) := by
    intro hj
    refine lv_null hx hb d_X_find_22 ?_
    exact W.aret hx hb hr (Or.inl ⟨_, rfl⟩) (Or.inl rfl) (fun t ht hW => ⟨none, rfl, by rw [hj]; rfl, ht⟩) (fun _ h => by cases h) d_X_find_23
  refine lv_iload_n hx hb d_X_find_0 rfl (lv_at hl 1 rfl) ?_
  refine lv_iconst (v := 1) hx hb d_X_find_1 (by decide) ?_
  refine lv_icmp_lt (tgt := 22) hx hb d_X_find_2 (by decide) (fun c_1 => ?_) (fun c_1 => ?_)
  · exact fin (by unfold ix; rw [if_pos c_1])
  · refine lv_iload_n hx hb d_X_find_5 rfl (lv_at hl 1 rfl) ?_
    refine lv_aload_n hx hb d_X_find_6 rfl (lv_at hl 0 rfl) ?_
    refine va_get (D := D) (ci := 1) (v := .int (nI u.1)) (C := R_X) (T := F_X) (N := 3) hx hb htB uw_X hown hK hP kx hkx rfl 1 (by decide) (htB _ fl_X_15) (fun _ h9 => h9) rfl d_X_find_7 ?_
    refine lv_icmp_gt (tgt := 22) hx hb d_X_find_10 (by decide) (fun c_2 => ?_) (fun c_2 => ?_)
    · exact fin (by unfold ix; rw [if_neg c_1, if_pos c_2])
    · obtain ⟨j, hj⟩ : ∃ j, ix u.1 k = some j := ⟨_, by unfold ix; rw [if_neg c_1, if_neg c_2]⟩
      obtain ⟨hjl, hk⟩ := ix_some hn hj
      refine lv_iload_n hx hb d_X_find_13 rfl (lv_at hl 1 rfl) ?_
      refine lv_aload_n hx hb d_X_find_14 rfl (lv_at hl 0 rfl) ?_
      refine va_get (D := D) (ci := 1) (v := .ref arr) (C := R_X) (T := F_X) (N := 3) hx hb htB uw_X hown hK hP kx hkx rfl 0 (by decide) (htB _ fl_X_11) (fun _ h9 => h9) rfl d_X_find_15 ?_
      refine va_alen (v := 100) hx hb hK hP ka 0 hka rfl (show Int32.ofNat 100 = 100 by decide) d_X_find_18 ?_
      refine lv_icmp_le (tgt := 24) hx hb d_X_find_19 (by decide) (fun _ => ?_) (fun c_3 => absurd (by rw [hk]; exact nI_le (b := 100) (by omega) (by decide)) c_3)
      refine lv_aload_n hx hb d_X_find_24 rfl (lv_at hl 0 rfl) ?_
      refine va_get (D := D) (ci := 1) (v := .ref arr) (C := R_X) (T := F_X) (N := 3) hx hb htB uw_X hown hK hP kx hkx rfl 0 (by decide) (htB _ fl_X_11) (fun _ h9 => h9) rfl d_X_find_25 ?_
      refine lv_iload_n hx hb d_X_find_28 rfl (lv_at hl 1 rfl) ?_
      refine lv_iconst (v := 1) hx hb d_X_find_29 (by decide) ?_
      refine lv_isub hx hb d_X_find_30 ?_
      have hk1 : k - 1 = nI j := by rw [hk]; exact nI_pred j
      refine tpi (nI j) hk1 ?_
      refine va_aldq hx hb hK hP ka 0 hka rfl (vp_in_nI (by omega) (by decide)) d_X_find_31 ?_
      have hv : f (nI j).toNatClampNeg = some (ad j) := by rw [nI_clamp (by omega)]; exact (h4 j hjl).1
      rw [hv]
      exact W.aret hx hb hr (Or.inl ⟨_, rfl⟩) (Or.inr ⟨ad j, rfl⟩) (fun t ht hW => ⟨some (ad j), rfl, by rw [hj]; rfl, ht⟩) (fun _ h => by cases h) d_X_find_32
set_option maxHeartbeats 4000000 in
set_option maxRecDepth 100000 in
/-- a node's constructor writes nothing -/
theorem c_N_init (l : Launch) (h0 : Nat) : Met l y_N_init (cw_N_init :: BIG) (rmk 1 0 0) (va_Pc [.ref h0] (fun U => NK U)) (va_Sv (fun _ => True)) 0 0 (fun _ => False) := by
  refine Met.ofW (cc := b_N_init) (maxL := 1) (ret := none) (by decide) rfl ?_
  intro p e s m args below meth c s₁ B hml hv
  obtain ⟨rfl, hN⟩ := hv
  have hx := B.exec
  have hb := B.bytes
  have hr := B.returns
  have htB : ∀ w ∈ BIG, w.before _ s = true := fun w h => atoms_spec (ws := cw_N_init :: BIG) B.pre w (List.mem_cons_of_mem _ h)
  have hown : s.vm.findClass R_N = some m.cls := findClass_of_methodNamed B.named
  have hlocks := B.notSynchronized
  have hl := lv_entry ([.ref h0]) (n := 1) (Nat.le_of_ble_eq_true rfl)
  rw [lg_entry_eq]
  generalize (lg_sl ([.ref h0]) ++ List.replicate (1 - (lg_sl ([.ref h0])).length) Slot.unset).toArray = ls at hl ⊢
  have hl : lv_has ls 1 [(0, .ref h0)] := hl
  refine lv_aload_n hx hb d_N_init_0 rfl (lv_at hl 0 rfl) ?_
  refine W.objInit hx hb hown (htB _ ml_N_3) (htB _ im_obj) (htB _ co_obj) rfl (by rw [hml]; exact hl.1) rfl d_N_init_1 (Nat.le_of_ble_eq_true rfl) (Nat.le_of_ble_eq_true rfl) ?_
  refine W.eq (g2 := F0 m 4 ls []) rfl ?_
  exact W.vret hx hb hr (fun t ht hW => ⟨rfl, trivial, ht⟩) (fun _ h => by cases h) d_N_init_4
set_option maxHeartbeats 4000000 in
set_option maxRecDepth 100000 in
/-- the constructor: no nodes -/
theorem c_X_init (l : Launch) (D : va_G) (h0 sz : Nat) : Met l y_X_init (cw_X_init :: BIG) (rmk 1 1 100) (va_Pc [.ref h0] (fun U => U.heap.size = sz ∧ va_P D cls_ [(h0, .inr (1, [.null, .int 0, .long 0]))] U.heap ∧ va_K D cls_ [] U ∧ NK U)) (va_Qv (fun u2 : XS => u2 = (0, 0, fun _ => n_0)) (atX D h0 (va_A [(h0, .inr (1, [.null, .int 0, .long 0]))] sz)) (va_A [(h0, .inr (1, [.null, .int 0, .long 0]))] sz)) 1 100 (va_A [(h0, .inr (1, [.null, .int 0, .long 0]))] sz) := by
  refine Met.ofW (cc := b_X_init) (maxL := 1) (ret := none) (by decide) rfl ?_
  intro p e s m args below meth c s₁ B hml hv
  obtain ⟨rfl, hsz, hP, hK, hN⟩ := hv
  have hx := B.exec
  have hb := B.bytes
  have hr := B.returns
  have htB : ∀ w ∈ BIG, w.before _ s = true := fun w h => atoms_spec (ws := cw_X_init :: BIG) B.pre w (List.mem_cons_of_mem _ h)
  have hown : s.vm.findClass R_X = some m.cls := findClass_of_methodNamed B.named
  have hlocks := B.notSynchronized
  have hin : meth.name = "<init>" := (name_of_methodNamed B.named B.method).1
  subst hsz
  have hD : va_D (va_A [(h0, .inr (1, [.null, .int 0, .long 0]))] s.heap.size) [(h0, .inr (1, [.null, .int 0, .long 0]))] := nD.self
  generalize hAe : va_A [(h0, .inr (1, [.null, .int 0, .long 0]))] s.heap.size = A at hD ⊢
  have hA : ∀ q : Nat, s.heap.size ≤ q → A q := fun q h => by rw [← hAe]; exact Or.inr h
  have hS : va_S A s.heap s.heap [] := va_S.rf
  have hl := lv_entry ([.ref h0]) (n := 1) (Nat.le_of_ble_eq_true rfl)
  rw [lg_entry_eq]
  generalize (lg_sl ([.ref h0]) ++ List.replicate (1 - (lg_sl ([.ref h0])).length) Slot.unset).toArray = ls at hl ⊢
  have hl : lv_has ls 1 [(0, .ref h0)] := hl
  refine lv_aload_n hx hb d_X_init_0 rfl (lv_at hl 0 rfl) ?_
  refine W.objInit hx hb hown (htB _ ml_X_1) (htB _ im_obj) (htB _ co_obj) rfl (by rw [hml]; exact hl.1) rfl d_X_init_1 (Nat.le_of_ble_eq_true rfl) (Nat.le_of_ble_eq_true rfl) ?_
  refine W.eq (g2 := F0 m 4 ls []) rfl ?_
  refine lv_aload_n hx hb d_X_init_4 rfl (lv_at hl 0 rfl) ?_
  refine lv_bipush (v := 100) hx hb d_X_init_5 (by decide) ?_
  refine va_newq (C := R_N) (N' := 100) hx hb hown (htB _ cl_X_9) hN.ao hK hP hD hS hA (by decide) (by decide) (by decide) (Nat.le_of_ble_eq_true rfl) (Nat.le_of_ble_eq_true rfl) d_X_init_7 (fun q cA H hK hP hD hS => ?_)
  have hP : va_P D cls_ [(h0, .inr (1, [.null, .int 0, .long 0])), (q, .inl (cA, 100, .inr (.inr (.inr (.inr (fun _ => none))))))] H := hP
  have hD : va_D A [(h0, .inr (1, [.null, .int 0, .long 0])), (q, .inl (cA, 100, .inr (.inr (.inr (.inr (fun _ => none))))))] := hD
  have hK : va_K D cls_ [(cA, .object R_N)] s := hK
  refine va_putF (D := D) (ci := 1) (v := .ref q) (ty := .array (.object "CanErrors$Node")) (C := R_X) (T := F_X) (N := 3) hx hb htB uw_X t_X t_X_ok n_X hown hK hP hD hS 0 rfl rfl 0 (by decide) (htB _ fl_X_11) (fun _ h9 => h9) rfl hin rfl (t_X_ok 0 (by decide)) rfl rfl (Nat.le_of_ble_eq_true rfl) d_X_init_10 (fun H locs hP hD hS => ?_)
  have hP : va_P D cls_ [(h0, .inr (1, [.ref q, .int 0, .long 0])), (q, .inl (cA, 100, .inr (.inr (.inr (.inr (fun _ => none))))))] H := hP
  have hD : va_D A [(h0, .inr (1, [.ref q, .int 0, .long 0])), (q, .inl (cA, 100, .inr (.inr (.inr (.inr (fun _ => none))))))] := hD
  refine lv_aload_n hx hb d_X_init_13 rfl (lv_at hl 0 rfl) ?_
  refine lv_iconst (v := 0) hx hb d_X_init_14 (by decide) ?_
  refine va_put (D := D) (ci := 1) (v := .int 0) (ty := .int) (C := R_X) (T := F_X) (N := 3) hx hb htB uw_X t_X t_X_ok n_X hown hK hP hD hS 0 rfl rfl 1 (by decide) (htB _ fl_X_15) (fun _ h9 => h9) rfl (t_X_ok 1 (by decide)) rfl rfl (Nat.le_of_ble_eq_true rfl) d_X_init_15 (fun H locs hP hD hS => ?_)
  have hP : va_P D cls_ [(h0, .inr (1, [.ref q, .int 0, .long 0])), (q, .inl (cA, 100, .inr (.inr (.inr (.inr (fun _ => none))))))] H := hP
  have hD : va_D A [(h0, .inr (1, [.ref q, .int 0, .long 0])), (q, .inl (cA, 100, .inr (.inr (.inr (.inr (fun _ => none))))))] := hD
  refine lv_aload_n hx hb d_X_init_18 rfl (lv_at hl 0 rfl) ?_
  refine lv_lconst (v := 0) hx hb d_X_init_19 (by decide) ?_
  refine va_put (D := D) (ci := 1) (v := .long 0) (ty := .long) (C := R_X) (T := F_X) (N := 3) hx hb htB uw_X t_X t_X_ok n_X hown hK hP hD hS 0 rfl rfl 2 (by decide) (htB _ fl_X_19) (fun _ h9 => h9) rfl (t_X_ok 2 (by decide)) rfl rfl (Nat.le_of_ble_eq_true rfl) d_X_init_20 (fun H locs hP hD hS => ?_)
  have hP : va_P D cls_ [(h0, .inr (1, [.ref q, .int 0, .long 0])), (q, .inl (cA, 100, .inr (.inr (.inr (.inr (fun _ => none))))))] H := hP
  have hD : va_D A [(h0, .inr (1, [.ref q, .int 0, .long 0])), (q, .inl (cA, 100, .inr (.inr (.inr (.inr (fun _ => none))))))] := hD
  refine W.widen (k := 1) (n := 100) (by decide) (by decide) ?_
  exact W.vret hx hb hr (fun t ht hW => ⟨⟨((0, 0, fun _ => n_0) : XS), rfl, rfl, _, cA, ⟨q, fun _ => none, fun _ => 0, by decide, ⟨0, rfl⟩, ⟨1, rfl⟩, fun j hj => absurd hj (Nat.not_lt_zero j), fun i j hi => absurd hi (Nat.not_lt_zero i)⟩, by rw [ht]; exact hP, va_K.moved hW.alike hK, hD⟩, hS.F ht⟩) hS.2.2 d_X_init_23
def F_X_node (u : XS) : Int32 × XS := if u.1 < 100 then (nI (u.1 + 1), (u.1 + 1, u.2.1, va_up u.2.2 u.1 n_0)) else (-4, u)
set_option maxHeartbeats 4000000 in
set_option maxRecDepth 100000 in
/-- node: one more -/
theorem c_X_node (l : Launch) (D : va_G) (h0 sz : Nat) (u : XS) (w0 : va_W) (cA : ClassId) (hI : IX h0 u w0 cA) (hD0 : va_D (fun _ => True) w0) : Met l y_X_node (cw_X_node :: BIG) (rmk 5 1 15) (va_Pc [.ref h0] (fun U => U.heap.size = sz ∧ va_P D cls_ w0 U.heap ∧ va_K D cls_ [(cA, .object R_N)] U ∧ NK U)) (va_Qi (fun (r : Int32) (u2 : XS) => r = (F_X_node u).1 ∧ u2 = (F_X_node u).2) (atX D h0 (va_A w0 sz)) (va_A w0 sz)) 1 15 (va_A w0 sz) := by
  obtain ⟨arr, f, ad, hI⟩ := hI
  refine Met.ofW (cc := b_X_node) (maxL := 1) (ret := (some .int)) (by decide) rfl ?_
  intro p e s m args below meth c s₁ B hml hv
  obtain ⟨rfl, hsz, hP, hK, hN⟩ := hv
  have hx := B.exec
  have hb := B.bytes
  have hr := B.returns
  have htB : ∀ w ∈ BIG, w.before _ s = true := fun w h => atoms_spec (ws := cw_X_node :: BIG) B.pre w (List.mem_cons_of_mem _ h)
  have hown : s.vm.findClass R_X = some m.cls := findClass_of_methodNamed B.named
  have hlocks := B.notSynchronized
  subst hsz
  have hD : va_D (va_A w0 s.heap.size) w0 := hD0.self
  have hS : va_S (va_A w0 s.heap.size) s.heap s.heap [] := va_S.rf
  have hA : ∀ q : Nat, s.heap.size ≤ q → va_A w0 s.heap.size q := fun q h => Or.inr h
  obtain ⟨kx, hkx⟩ := hI.2.1
  obtain ⟨ka, hka⟩ := hI.2.2.1
  have hn100 := hI.1
  have hl := lv_entry ([.ref h0]) (n := 1) (Nat.le_of_ble_eq_true rfl)
  rw [lg_entry_eq]
  generalize (lg_sl ([.ref h0]) ++ List.replicate (1 - (lg_sl ([.ref h0])).length) Slot.unset).toArray = ls at hl ⊢
  have hl : lv_has ls 1 [(0, .ref h0)] := hl
  refine lv_aload_n hx hb d_X_node_0 rfl (lv_at hl 0 rfl) ?_
  refine va_get (D := D) (ci := 1) (v := .int (nI u.1)) (C := R_X) (T := F_X) (N := 3) hx hb htB uw_X hown hK hP kx hkx rfl 1 (by decide) (htB _ fl_X_15) (fun _ h9 => h9) rfl d_X_node_1 ?_
  refine lv_aload_n hx hb d_X_node_4 rfl (lv_at hl 0 rfl) ?_
  refine va_get (D := D) (ci := 1) (v := .ref arr) (C := R_X) (T := F_X) (N := 3) hx hb htB uw_X hown hK hP kx hkx rfl 0 (by decide) (htB _ fl_X_11) (fun _ h9 => h9) rfl d_X_node_5 ?_
  refine va_alen (v := 100) hx hb hK hP ka 0 hka rfl (show Int32.ofNat 100 = 100 by decide) d_X_node_8 ?_
  refine lv_icmp_lt (tgt := 15) hx hb d_X_node_9 (by decide) (fun c_1 => ?_) (fun c_1 => ?_)
  · have hlt : u.1 < 100 := by
      rcases Nat.lt_or_ge u.1 100 with q | q
      · exact q
      · exact absurd c_1 (nI_nlt (b := 100) q (by omega))
    refine lv_aload_n hx hb d_X_node_15 rfl (lv_at hl 0 rfl) ?_
    refine va_get (D := D) (ci := 1) (v := .ref arr) (C := R_X) (T := F_X) (N := 3) hx hb htB uw_X hown hK hP kx hkx rfl 0 (by decide) (htB _ fl_X_11) (fun _ h9 => h9) rfl d_X_node_16 ?_
    refine lv_aload_n hx hb d_X_node_19 rfl (lv_at hl 0 rfl) ?_
    refine va_get (D := D) (ci := 1) (v := .int (nI u.1)) (C := R_X) (T := F_X) (N := 3) hx hb htB uw_X hown hK hP kx hkx rfl 1 (by decide) (htB _ fl_X_15) (fun _ h9 => h9) rfl d_X_node_20 ?_
    refine va_new (ci := 0) (fs := n_fs n_0) (C := R_N) (T := F_N) (N := 15) hx hb htB uw_N t_N t_N_ok hown (htB _ cl_X_9) (htB _ inst_N) (htB _ in_N) hK hP hD hS hA rfl (by decide) (Nat.le_of_ble_eq_true rfl) (Nat.le_of_ble_eq_true rfl) d_X_node_23 (fun q H hP hD hS => ?_)
    refine lv_dup hx hb d_X_node_26 rfl ?_
    refine va_csv (va_Run.run (va_runI (As := []) (rest := [.ref q, .int (nI u.1), .ref arr]) ⟨hx, hb, hml, hown, htB⟩ (c_N_init l q) (cwI 0 htB gd_N_init rfl rfl rfl (htB _ in_N) (htB _ ml_X_23) (htB _ im_N_init) rfl (by decide +kernel) ⟨Nat.le_of_ble_eq_true rfl, Nat.le_of_ble_eq_true rfl⟩) (preN hN) rfl rfl hl.1 rfl (lv_room (Nat.le_of_ble_eq_true rfl)) d_X_node_27 ⟨Nat.le_of_ble_eq_true rfl, Nat.le_of_ble_eq_true rfl⟩)) (fun _ => ?_)
    refine va_astq (r := (R_N, F_N, 15)) hx hb hK hP hD hS ka 0 w0.length 0 (al hka) rfl ae rfl (vp_in_nI hlt (by decide)) d_X_node_30 (fun H locs hP hD hS => ?_)
    have hcl : (nI u.1).toNatClampNeg = u.1 := nI_clamp (by omega)
    rw [hcl] at hP hD
    have hkk : kx ≠ ka := fun e => by
      rw [e, hka] at hkx
      have := congrArg Prod.snd (Option.some.inj hkx)
      simp at this
    refine lv_aload_n hx hb d_X_node_31 rfl (lv_at hl 0 rfl) ?_
    refine lv_dup hx hb d_X_node_32 rfl ?_
    refine va_get (D := D) (ci := 1) (v := .int (nI u.1)) (C := R_X) (T := F_X) (N := 3) hx hb htB uw_X hown hK hP kx (sn hkk (al hkx)) rfl 1 (by decide) (htB _ fl_X_15) (fun _ h9 => h9) rfl d_X_node_33 ?_
    refine lv_iconst (v := 1) hx hb d_X_node_36 (by decide) ?_
    refine lv_iadd hx hb d_X_node_37 ?_
    refine tpi (nI (u.1 + 1)) (nI_1 u.1) ?_
    refine va_put (D := D) (ci := 1) (v := .int (nI (u.1 + 1))) (ty := .int) (C := R_X) (T := F_X) (N := 3) hx hb htB uw_X t_X t_X_ok n_X hown hK hP hD hS kx (sn hkk (al hkx)) rfl 1 (by decide) (htB _ fl_X_15) (fun _ h9 => h9) rfl (t_X_ok 1 (by decide)) rfl rfl (Nat.le_of_ble_eq_true rfl) d_X_node_38 (fun H locs hP hD hS => ?_)
    refine lv_aload_n hx hb d_X_node_41 rfl (lv_at hl 0 rfl) ?_
    refine va_get (D := D) (ci := 1) (v := .int (nI (u.1 + 1))) (C := R_X) (T := F_X) (N := 3) hx hb htB uw_X hown hK hP kx (sg (sn hkk (al hkx))) rfl 1 (by decide) (htB _ fl_X_15) (fun _ h9 => h9) rfl d_X_node_42 ?_
    have hF : F_X_node u = (nI (u.1 + 1), (u.1 + 1, u.2.1, va_up u.2.2 u.1 n_0)) := by unfold F_X_node; rw [if_pos hlt]
    have hD1 : va_D (fun _ => True) (w0 ++ ([(q, .inr (0, n_fs n_0))] : va_W)) := va_Da (hD.weaken (fun _ _ _ _ => trivial)) (by rw [List.map_set, List.map_set]; exact (ssm (al hka) (al hkx)).symm)
    exact W.iret hx hb hr (fun t ht hW => ⟨⟨nI (u.1 + 1), (u.1 + 1, u.2.1, va_up u.2.2 u.1 n_0), rfl, ⟨(congrArg Prod.fst hF).symm, (congrArg Prod.snd hF).symm⟩, _, cA, ⟨arr, _, _, hI.grow hD1 hlt hka hkx⟩, by rw [ht]; exact hP, va_K.moved hW.alike hK, hD⟩, hS.F ht⟩) hS.2.2 d_X_node_45
  · have hge : ¬ u.1 < 100 := fun q => c_1 (nI_lt q (by decide))
    refine lv_bipush (v := (-4)) hx hb d_X_node_12 (by decide) ?_
    have hF : F_X_node u = (-4, u) := by unfold F_X_node; rw [if_neg hge]
    refine W.widen (k := 1) (n := 15) (by decide) (by decide) ?_
    exact W.iret hx hb hr (fun t ht hW => ⟨⟨-4, u, rfl, ⟨(congrArg Prod.fst hF).symm, (congrArg Prod.snd hF).symm⟩, w0, cA, ⟨arr, f, ad, hI⟩, by rw [ht]; exact hP, va_K.moved hW.alike hK, hD⟩, hS.F ht⟩) hS.2.2 d_X_node_14

def f_N_condition (u : NS) : Int32 := let a0 := u.1; let a1 := u.2.1; let a2 := u.2.2.1; if a2 = 0 then (if 127 < a0 then 1 else (if a1 ≤ 127 then 0 else 1)) else 2
set_option maxHeartbeats 4000000 in
set_option maxRecDepth 100000 in
theorem c_N_condition (l : Launch) (D : va_G) (h0 : Nat) (u : NS) : Met l y_N_condition (cw_N_condition :: BIG) ((rmk 0 0 0)) (va_Pc [.ref h0] (fun U => va_P D cls_ [(h0, .inr (0, n_fs u))] U.heap ∧ va_K D cls_ [] U ∧ NK U)) (vp_Si (fun r : Int32 => r = f_N_condition u)) 0 0 (fun _ => False) := by
  obtain ⟨a0, a1, a2, a3, a4, a5, a6, a7, a8, a9, a10, a11, a12, a13, a14⟩ := u
  refine Met.ofW (cc := b_N_condition) (maxL := 2) (ret := (some .int)) (by decide) rfl ?_
  intro p e s m args below meth c s₁ B hml hv
  obtain ⟨rfl, hP, hK, hN⟩ := hv
  have hx := B.exec
  have hb := B.bytes
  have hr := B.returns
  have htB : ∀ w ∈ BIG, w.before _ s = true := fun w h => atoms_spec (ws := cw_N_condition :: BIG) B.pre w (List.mem_cons_of_mem _ h)
  have hown : s.vm.findClass R_N = some m.cls := findClass_of_methodNamed B.named
  have hlocks := B.notSynchronized
  have hP : va_P D cls_ [(h0, .inr (0, [.int a0, .int a1, .int a2, .int a3, .int a4, .int a5, .int a6, .int a7, .int a8, .int a9, .int a10, .int a11, .long a12, .int a13, .int a14]))] s.heap := hP
  have hl := lv_entry ([.ref h0]) (n := 2) (Nat.le_of_ble_eq_true rfl)
  rw [lg_entry_eq]
  generalize (lg_sl ([.ref h0]) ++ List.replicate (2 - (lg_sl ([.ref h0])).length) Slot.unset).toArray = ls at hl ⊢
  have hl : lv_has ls 2 [(0, .ref h0)] := hl
  have hc : f_N_condition (a0, a1, a2, a3, a4, a5, a6, a7, a8, a9, a10, a11, a12, a13, a14) = f_N_condition (a0, a1, a2, a3, a4, a5, a6, a7, a8, a9, a10, a11, a12, a13, a14) := rfl
  refine lv_aload_n hx hb d_N_condition_0 rfl (lv_at hl 0 rfl) ?_
  refine va_get (D := D) (ci := 0) (v := .int a2) (C := R_N) (T := F_N) (N := 15) hx hb htB uw_N hown hK hP 0 rfl rfl 2 (by decide) (htB _ fl_N_9) (fun _ h9 => h9) rfl d_N_condition_1 ?_
  refine lv_if_eq (tgt := 9) hx hb d_N_condition_4 (by decide) (fun c_1 => ?_) (fun c_1 => ?_)
  · refine lv_aload_n hx hb d_N_condition_9 rfl (lv_at hl 0 rfl) ?_
    refine va_get (D := D) (ci := 0) (v := .int a0) (C := R_N) (T := F_N) (N := 15) hx hb htB uw_N hown hK hP 0 rfl rfl 0 (by decide) (htB _ fl_N_15) (fun _ h9 => h9) rfl d_N_condition_10 ?_
    refine lv_bipush (v := 127) hx hb d_N_condition_13 (by decide) ?_
    refine lv_icmp_gt (tgt := 27) hx hb d_N_condition_15 (by decide) (fun c_2 => ?_) (fun c_2 => ?_)
    · refine lv_iconst (v := 1) hx hb d_N_condition_27 (by decide) ?_
      refine lv_goto (tgt := 32) hx hb d_N_condition_28 (by decide) ?_
      refine lv_istore_n (lv' := [(1, .int 1), (0, .ref h0)]) hx hb d_N_condition_32 rfl hl (by decide) rfl (fun ls hl => ?_)
      refine lv_iload_n hx hb d_N_condition_33 rfl (lv_at hl 0 rfl) ?_
      refine lv_if_eq (tgt := 41) hx hb d_N_condition_34 (by decide) (fun c9 => absurd c9 (by decide)) (fun _ => ?_)
      refine lv_iconst (v := 1) hx hb d_N_condition_37 (by decide) ?_
      refine lv_goto (tgt := 42) hx hb d_N_condition_38 (by decide) ?_
      exact W.iret hx hb hr (fun t ht hW => ⟨_, rfl, (hc.trans ((if_pos c_1).trans (if_pos c_2))).symm, ht⟩) (fun _ h => by cases h) d_N_condition_42
    · refine lv_aload_n hx hb d_N_condition_18 rfl (lv_at hl 0 rfl) ?_
      refine va_get (D := D) (ci := 0) (v := .int a1) (C := R_N) (T := F_N) (N := 15) hx hb htB uw_N hown hK hP 0 rfl rfl 1 (by decide) (htB _ fl_N_19) (fun _ h9 => h9) rfl d_N_condition_19 ?_
      refine lv_bipush (v := 127) hx hb d_N_condition_22 (by decide) ?_
      refine lv_icmp_le (tgt := 31) hx hb d_N_condition_24 (by decide) (fun c_3 => ?_) (fun c_3 => ?_)
      · refine lv_iconst (v := 0) hx hb d_N_condition_31 (by decide) ?_
        refine lv_istore_n (lv' := [(1, .int 0), (0, .ref h0)]) hx hb d_N_condition_32 rfl hl (by decide) rfl (fun ls hl => ?_)
        refine lv_iload_n hx hb d_N_condition_33 rfl (lv_at hl 0 rfl) ?_
        refine lv_if_eq (tgt := 41) hx hb d_N_condition_34 (by decide) (fun _ => ?_) (fun c9 => absurd (by decide) c9)
        refine lv_iconst (v := 0) hx hb d_N_condition_41 (by decide) ?_
        exact W.iret hx hb hr (fun t ht hW => ⟨_, rfl, (hc.trans ((if_pos c_1).trans ((if_neg c_2).trans (if_pos c_3)))).symm, ht⟩) (fun _ h => by cases h) d_N_condition_42
      · refine lv_iconst (v := 1) hx hb d_N_condition_27 (by decide) ?_
        refine lv_goto (tgt := 32) hx hb d_N_condition_28 (by decide) ?_
        refine lv_istore_n (lv' := [(1, .int 1), (0, .ref h0)]) hx hb d_N_condition_32 rfl hl (by decide) rfl (fun ls hl => ?_)
        refine lv_iload_n hx hb d_N_condition_33 rfl (lv_at hl 0 rfl) ?_
        refine lv_if_eq (tgt := 41) hx hb d_N_condition_34 (by decide) (fun c9 => absurd c9 (by decide)) (fun _ => ?_)
        refine lv_iconst (v := 1) hx hb d_N_condition_37 (by decide) ?_
        refine lv_goto (tgt := 42) hx hb d_N_condition_38 (by decide) ?_
        exact W.iret hx hb hr (fun t ht hW => ⟨_, rfl, (hc.trans ((if_pos c_1).trans ((if_neg c_2).trans (if_neg c_3)))).symm, ht⟩) (fun _ h => by cases h) d_N_condition_42
  · refine lv_iconst (v := 2) hx hb d_N_condition_7 (by decide) ?_
    exact W.iret hx hb hr (fun t ht hW => ⟨_, rfl, (hc.trans (if_neg c_1)).symm, ht⟩) (fun _ h => by cases h) d_N_condition_8
def f_N_delay (u : NS) : Int64 := let a10 := u.2.2.2.2.2.2.2.2.2.2.1; if a10 ≤ 5 then 10 else 100
set_option maxHeartbeats 4000000 in
set_option maxRecDepth 100000 in
theorem c_N_delay (l : Launch) (D : va_G) (h0 : Nat) (u : NS) : Met l y_N_delay (cw_N_delay :: BIG) ((rmk 0 0 0)) (va_Pc [.ref h0] (fun U => va_P D cls_ [(h0, .inr (0, n_fs u))] U.heap ∧ va_K D cls_ [] U ∧ NK U)) (vp_Sl (fun r : Int64 => r = f_N_delay u)) 0 0 (fun _ => False) := by
  obtain ⟨a0, a1, a2, a3, a4, a5, a6, a7, a8, a9, a10, a11, a12, a13, a14⟩ := u
  refine Met.ofW (cc := b_N_delay) (maxL := 1) (ret := (some .long)) (by decide) rfl ?_
  intro p e s m args below meth c s₁ B hml hv
  obtain ⟨rfl, hP, hK, hN⟩ := hv
  have hx := B.exec
  have hb := B.bytes
  have hr := B.returns
  have htB : ∀ w ∈ BIG, w.before _ s = true := fun w h => atoms_spec (ws := cw_N_delay :: BIG) B.pre w (List.mem_cons_of_mem _ h)
  have hown : s.vm.findClass R_N = some m.cls := findClass_of_methodNamed B.named
  have hlocks := B.notSynchronized
  have hP : va_P D cls_ [(h0, .inr (0, [.int a0, .int a1, .int a2, .int a3, .int a4, .int a5, .int a6, .int a7, .int a8, .int a9, .int a10, .int a11, .long a12, .int a13, .int a14]))] s.heap := hP
  have hl := lv_entry ([.ref h0]) (n := 1) (Nat.le_of_ble_eq_true rfl)
  rw [lg_entry_eq]
  generalize (lg_sl ([.ref h0]) ++ List.replicate (1 - (lg_sl ([.ref h0])).length) Slot.unset).toArray = ls at hl ⊢
  have hl : lv_has ls 1 [(0, .ref h0)] := hl
  have hc : f_N_delay (a0, a1, a2, a3, a4, a5, a6, a7, a8, a9, a10, a11, a12, a13, a14) = f_N_delay (a0, a1, a2, a3, a4, a5, a6, a7, a8, a9, a10, a11, a12, a13, a14) := rfl
  refine lv_aload_n hx hb d_N_delay_0 rfl (lv_at hl 0 rfl) ?_
  refine va_get (D := D) (ci := 0) (v := .int a10) (C := R_N) (T := F_N) (N := 15) hx hb htB uw_N hown hK hP 0 rfl rfl 10 (by decide) (htB _ fl_N_71) (fun _ h9 => h9) rfl d_N_delay_1 ?_
  refine lv_iconst (v := 5) hx hb d_N_delay_4 (by decide) ?_
  refine lv_icmp_le (tgt := 14) hx hb d_N_delay_5 (by decide) (fun c_1 => ?_) (fun c_1 => ?_)
  · refine lv_ldc2 (v := 10) hx hb hown (htB _ k_N_113) d_N_delay_14 ?_
    exact W.lret hx hb hr (fun t ht hW => ⟨_, rfl, (hc.trans (if_pos c_1)).symm, ht⟩) (fun _ h => by cases h) d_N_delay_17
  · refine lv_ldc2 (v := 100) hx hb hown (htB _ k_N_111) d_N_delay_8 ?_
    refine lv_goto (tgt := 17) hx hb d_N_delay_11 (by decide) ?_
    exact W.lret hx hb hr (fun t ht hW => ⟨_, rfl, (hc.trans (if_neg c_1)).symm, ht⟩) (fun _ h => by cases h) d_N_delay_17
def f_N_senderPenalty (u : NS) (k : Int32) : Int32 := let a0 := u.1; let a1 := u.2.1; let a2 := u.2.2.1; let a3 := u.2.2.2.1; let a4 := u.2.2.2.2.1; let a5 := u.2.2.2.2.2.1; let a6 := u.2.2.2.2.2.2.1; let a7 := u.2.2.2.2.2.2.2.1; let a8 := u.2.2.2.2.2.2.2.2.1; let a9 := u.2.2.2.2.2.2.2.2.2.1; let a10 := u.2.2.2.2.2.2.2.2.2.2.1; let a11 := u.2.2.2.2.2.2.2.2.2.2.2.1; let a12 := u.2.2.2.2.2.2.2.2.2.2.2.2.1; let a13 := u.2.2.2.2.2.2.2.2.2.2.2.2.2.1; let a14 := u.2.2.2.2.2.2.2.2.2.2.2.2.2.2; if k = 6 then 0 else (if k = 9 then 0 else (if k = 5 then (if (f_N_condition (a0, a1, a2, a3, a4, a5, a6, a7, a8, a9, a10, a11, a12, a13, a14)) = 1 then 0 else 8) else 8))
set_option maxHeartbeats 4000000 in
set_option maxRecDepth 100000 in
theorem c_N_senderPenalty (l : Launch) (D : va_G) (h0 : Nat) (u : NS) (k : Int32) : Met l y_N_senderPenalty (cw_N_senderPenalty :: BIG) ((rmk 1 0 0)) (va_Pc [.ref h0, .int k] (fun U => va_P D cls_ [(h0, .inr (0, n_fs u))] U.heap ∧ va_K D cls_ [] U ∧ NK U)) (vp_Si (fun r : Int32 => r = f_N_senderPenalty u k)) 0 0 (fun _ => False) := by
  obtain ⟨a0, a1, a2, a3, a4, a5, a6, a7, a8, a9, a10, a11, a12, a13, a14⟩ := u
  refine Met.ofW (cc := b_N_senderPenalty) (maxL := 2) (ret := (some .int)) (by decide) rfl ?_
  intro p e s m args below meth c s₁ B hml hv
  obtain ⟨rfl, hP, hK, hN⟩ := hv
  have hx := B.exec
  have hb := B.bytes
  have hr := B.returns
  have htB : ∀ w ∈ BIG, w.before _ s = true := fun w h => atoms_spec (ws := cw_N_senderPenalty :: BIG) B.pre w (List.mem_cons_of_mem _ h)
  have hown : s.vm.findClass R_N = some m.cls := findClass_of_methodNamed B.named
  have hlocks := B.notSynchronized
  have hP : va_P D cls_ [(h0, .inr (0, [.int a0, .int a1, .int a2, .int a3, .int a4, .int a5, .int a6, .int a7, .int a8, .int a9, .int a10, .int a11, .long a12, .int a13, .int a14]))] s.heap := hP
  have hl := lv_entry ([.ref h0, .int k]) (n := 2) (Nat.le_of_ble_eq_true rfl)
  rw [lg_entry_eq]
  generalize (lg_sl ([.ref h0, .int k]) ++ List.replicate (2 - (lg_sl ([.ref h0, .int k])).length) Slot.unset).toArray = ls at hl ⊢
  have hl : lv_has ls 2 [(0, .ref h0), (1, .int k)] := hl
  have hc : f_N_senderPenalty (a0, a1, a2, a3, a4, a5, a6, a7, a8, a9, a10, a11, a12, a13, a14) k = f_N_senderPenalty (a0, a1, a2, a3, a4, a5, a6, a7, a8, a9, a10, a11, a12, a13, a14) k := rfl
  refine lv_iload_n hx hb d_N_senderPenalty_0 rfl (lv_at hl 1 rfl) ?_
  refine lv_bipush (v := 6) hx hb d_N_senderPenalty_1 (by decide) ?_
  refine lv_icmp_eq (tgt := 12) hx hb d_N_senderPenalty_3 (by decide) (fun c_1 => ?_) (fun c_1 => ?_)
  · refine lv_iconst (v := 0) hx hb d_N_senderPenalty_12 (by decide) ?_
    exact W.iret hx hb hr (fun t ht hW => ⟨_, rfl, (hc.trans (if_pos c_1)).symm, ht⟩) (fun _ h => by cases h) d_N_senderPenalty_13
  · refine lv_iload_n hx hb d_N_senderPenalty_6 rfl (lv_at hl 1 rfl) ?_
    refine lv_bipush (v := 9) hx hb d_N_senderPenalty_7 (by decide) ?_
    refine lv_icmp_ne (tgt := 14) hx hb d_N_senderPenalty_9 (by decide) (fun c_2 => ?_) (fun c_2 => ?_)
    · refine lv_iload_n hx hb d_N_senderPenalty_14 rfl (lv_at hl 1 rfl) ?_
      refine lv_iconst (v := 5) hx hb d_N_senderPenalty_15 (by decide) ?_
      refine lv_icmp_ne (tgt := 29) hx hb d_N_senderPenalty_16 (by decide) (fun c_3 => ?_) (fun c_3 => ?_)
      · refine lv_bipush (v := 8) hx hb d_N_senderPenalty_29 (by decide) ?_
        exact W.iret hx hb hr (fun t ht hW => ⟨_, rfl, (hc.trans ((if_neg c_1).trans ((if_neg c_2).trans (if_neg c_3)))).symm, ht⟩) (fun _ h => by cases h) d_N_senderPenalty_31
      · refine lv_aload_n hx hb d_N_senderPenalty_19 rfl (lv_at hl 0 rfl) ?_
        refine vp_callSi (va_Run.run (va_runV (As := []) (rest := []) ⟨hx, hb, hml, hown, htB⟩ (c_N_condition l D h0 (a0, a1, a2, a3, a4, a5, a6, a7, a8, a9, a10, a11, a12, a13, a14)) (cwV 0 htB g_N_52 rfl rfl rfl (by decide +kernel) ⟨Nat.le_of_ble_eq_true rfl, Nat.le_of_ble_eq_true rfl⟩) (preV hP hK hN (va_recv hK hP (ci := 0) (q0 := 0) rfl rfl)) rfl rfl hl.1 rfl (lv_room (Nat.le_of_ble_eq_true rfl)) d_N_senderPenalty_20 ⟨Nat.le_of_ble_eq_true rfl, Nat.le_of_ble_eq_true rfl⟩)) (fun r_4 hr_4 => ?_)
        subst hr_4
        refine lv_iconst (v := 1) hx hb d_N_senderPenalty_23 (by decide) ?_
        refine lv_icmp_ne (tgt := 29) hx hb d_N_senderPenalty_24 (by decide) (fun c_5 => ?_) (fun c_5 => ?_)
        · refine lv_bipush (v := 8) hx hb d_N_senderPenalty_29 (by decide) ?_
          exact W.iret hx hb hr (fun t ht hW => ⟨_, rfl, (hc.trans ((if_neg c_1).trans ((if_neg c_2).trans ((if_pos c_3).trans (if_neg c_5))))).symm, ht⟩) (fun _ h => by cases h) d_N_senderPenalty_31
        · refine lv_iconst (v := 0) hx hb d_N_senderPenalty_27 (by decide) ?_
          exact W.iret hx hb hr (fun t ht hW => ⟨_, rfl, (hc.trans ((if_neg c_1).trans ((if_neg c_2).trans ((if_pos c_3).trans (if_pos c_5))))).symm, ht⟩) (fun _ h => by cases h) d_N_senderPenalty_28
    · refine lv_iconst (v := 0) hx hb d_N_senderPenalty_12 (by decide) ?_
      exact W.iret hx hb hr (fun t ht hW => ⟨_, rfl, (hc.trans ((if_neg c_1).trans (if_pos c_2))).symm, ht⟩) (fun _ h => by cases h) d_N_senderPenalty_13
def f_N_receiverPenalty (u : NS) (k : Int32) : Int32 := if (f_X_isAboutFlag k) = 0 then 1 else 8
set_option maxHeartbeats 4000000 in
set_option maxRecDepth 100000 in
theorem c_N_receiverPenalty (l : Launch) (D : va_G) (h0 : Nat) (u : NS) (k : Int32) : Met l y_N_receiverPenalty (cw_N_receiverPenalty :: BIG) ((rmk 1 0 0)) (va_Pc [.ref h0, .int k] (fun U => va_P D cls_ [(h0, .inr (0, n_fs u))] U.heap ∧ va_K D cls_ [] U ∧ NK U)) (vp_Si (fun r : Int32 => r = f_N_receiverPenalty u k)) 0 0 (fun _ => False) := by
  obtain ⟨a0, a1, a2, a3, a4, a5, a6, a7, a8, a9, a10, a11, a12, a13, a14⟩ := u
  refine Met.ofW (cc := b_N_receiverPenalty) (maxL := 2) (ret := (some .int)) (by decide) rfl ?_
  intro p e s m args below meth c s₁ B hml hv
  obtain ⟨rfl, hP, hK, hN⟩ := hv
  have hx := B.exec
  have hb := B.bytes
  have hr := B.returns
  have htB : ∀ w ∈ BIG, w.before _ s = true := fun w h => atoms_spec (ws := cw_N_receiverPenalty :: BIG) B.pre w (List.mem_cons_of_mem _ h)
  have hown : s.vm.findClass R_N = some m.cls := findClass_of_methodNamed B.named
  have hlocks := B.notSynchronized
  have hP : va_P D cls_ [(h0, .inr (0, [.int a0, .int a1, .int a2, .int a3, .int a4, .int a5, .int a6, .int a7, .int a8, .int a9, .int a10, .int a11, .long a12, .int a13, .int a14]))] s.heap := hP
  have hl := lv_entry ([.ref h0, .int k]) (n := 2) (Nat.le_of_ble_eq_true rfl)
  rw [lg_entry_eq]
  generalize (lg_sl ([.ref h0, .int k]) ++ List.replicate (2 - (lg_sl ([.ref h0, .int k])).length) Slot.unset).toArray = ls at hl ⊢
  have hl : lv_has ls 2 [(0, .ref h0), (1, .int k)] := hl
  have hc : f_N_receiverPenalty (a0, a1, a2, a3, a4, a5, a6, a7, a8, a9, a10, a11, a12, a13, a14) k = f_N_receiverPenalty (a0, a1, a2, a3, a4, a5, a6, a7, a8, a9, a10, a11, a12, a13, a14) k := rfl
  refine lv_iload_n hx hb d_N_receiverPenalty_0 rfl (lv_at hl 1 rfl) ?_
  refine vp_callSi (va_Run.run (va_runSN (As := [.int k]) (rest := []) ⟨hx, hb, hml, hown, htB⟩ (c_X_isAboutFlag l k) ⟨va_cnB 1 htB gd_X_isAboutFlag rfl rfl rfl hN.n_N_88 (htB _ in_X) (by decide +kernel) ⟨Nat.le_of_ble_eq_true rfl, Nat.le_of_ble_eq_true rfl⟩, htB _ sta_X_isAboutFlag, trivial⟩ (preN hN) rfl rfl hl.1 rfl (lv_room (Nat.le_of_ble_eq_true rfl)) d_N_receiverPenalty_1 ⟨Nat.le_of_ble_eq_true rfl, Nat.le_of_ble_eq_true rfl⟩)) (fun r_1 hr_1 => ?_)
  subst hr_1
  refine lv_if_eq (tgt := 12) hx hb d_N_receiverPenalty_4 (by decide) (fun c_2 => ?_) (fun c_2 => ?_)
  · refine lv_iconst (v := 1) hx hb d_N_receiverPenalty_12 (by decide) ?_
    exact W.iret hx hb hr (fun t ht hW => ⟨_, rfl, (hc.trans (if_pos c_2)).symm, ht⟩) (fun _ h => by cases h) d_N_receiverPenalty_13
  · refine lv_bipush (v := 8) hx hb d_N_receiverPenalty_7 (by decide) ?_
    refine lv_goto (tgt := 13) hx hb d_N_receiverPenalty_9 (by decide) ?_
    exact W.iret hx hb hr (fun t ht hW => ⟨_, rfl, (hc.trans (if_neg c_2)).symm, ht⟩) (fun _ h => by cases h) d_N_receiverPenalty_13
def f_N_goOff (u : NS) : NS := let a0 := u.1; let a1 := u.2.1; let a4 := u.2.2.2.2.1; let a5 := u.2.2.2.2.2.1; let a6 := u.2.2.2.2.2.2.1; let a7 := u.2.2.2.2.2.2.2.1; let a8 := u.2.2.2.2.2.2.2.2.1; let a10 := u.2.2.2.2.2.2.2.2.2.2.1; let a12 := u.2.2.2.2.2.2.2.2.2.2.2.2.1; (a0, a1, 1, 0, a4, a5, a6, a7, a8, 0, a10 + 1, 0, a12, 0, 0)
set_option maxHeartbeats 4000000 in
set_option maxRecDepth 100000 in
theorem c_N_goOff (l : Launch) (D : va_G) (h0 : Nat) (u : NS) : Met l y_N_goOff (cw_N_goOff :: BIG) ((rmk 0 0 0)) (va_Pc [.ref h0] (fun U => va_P D cls_ [(h0, .inr (0, n_fs u))] U.heap ∧ va_K D cls_ [] U ∧ NK U)) (va_Qv (fun u2 : NS => u2 = f_N_goOff u) (fun (u2 : NS) (t : State) => va_P D cls_ [(h0, .inr (0, n_fs u2))] t.heap) (fun q : Nat => q = h0)) 0 0 (fun q : Nat => q = h0) := by
  obtain ⟨a0, a1, a2, a3, a4, a5, a6, a7, a8, a9, a10, a11, a12, a13, a14⟩ := u
  refine Met.ofW (cc := b_N_goOff) (maxL := 1) (ret := none) (by decide) rfl ?_
  intro p e s m args below meth c s₁ B hml hv
  obtain ⟨rfl, hP, hK, hN⟩ := hv
  have hx := B.exec
  have hb := B.bytes
  have hr := B.returns
  have htB : ∀ w ∈ BIG, w.before _ s = true := fun w h => atoms_spec (ws := cw_N_goOff :: BIG) B.pre w (List.mem_cons_of_mem _ h)
  have hown : s.vm.findClass R_N = some m.cls := findClass_of_methodNamed B.named
  have hlocks := B.notSynchronized
  have hP : va_P D cls_ [(h0, .inr (0, [.int a0, .int a1, .int a2, .int a3, .int a4, .int a5, .int a6, .int a7, .int a8, .int a9, .int a10, .int a11, .long a12, .int a13, .int a14]))] s.heap := hP
  have hD : va_D (fun q : Nat => q = h0) [(h0, .inr (0, [.int a0, .int a1, .int a2, .int a3, .int a4, .int a5, .int a6, .int a7, .int a8, .int a9, .int a10, .int a11, .long a12, .int a13, .int a14]))] := nD
  have hS : va_S (fun q : Nat => q = h0) s.heap s.heap [] := va_S.rf
  have hl := lv_entry ([.ref h0]) (n := 1) (Nat.le_of_ble_eq_true rfl)
  rw [lg_entry_eq]
  generalize (lg_sl ([.ref h0]) ++ List.replicate (1 - (lg_sl ([.ref h0])).length) Slot.unset).toArray = ls at hl ⊢
  have hl : lv_has ls 1 [(0, .ref h0)] := hl
  have hc : f_N_goOff (a0, a1, a2, a3, a4, a5, a6, a7, a8, a9, a10, a11, a12, a13, a14) = f_N_goOff (a0, a1, a2, a3, a4, a5, a6, a7, a8, a9, a10, a11, a12, a13, a14) := rfl
  refine lv_aload_n hx hb d_N_goOff_0 rfl (lv_at hl 0 rfl) ?_
  refine lv_iconst (v := 1) hx hb d_N_goOff_1 (by decide) ?_
  refine va_put (D := D) (ci := 0) (v := .int 1) (ty := .boolean) (C := R_N) (T := F_N) (N := 15) hx hb htB uw_N t_N t_N_ok n_N hown hK hP hD hS 0 rfl rfl 2 (by decide) (htB _ fl_N_9) (fun _ h9 => h9) rfl (t_N_ok 2 (by decide)) nb1 fb1 (Nat.le_of_ble_eq_true rfl) d_N_goOff_2 (fun H locs hP hD hS => ?_)
  have hP : va_P D cls_ [(h0, .inr (0, [.int a0, .int a1, .int 1, .int a3, .int a4, .int a5, .int a6, .int a7, .int a8, .int a9, .int a10, .int a11, .long a12, .int a13, .int a14]))] H := hP
  have hD : va_D (fun q : Nat => q = h0) [(h0, .inr (0, [.int a0, .int a1, .int 1, .int a3, .int a4, .int a5, .int a6, .int a7, .int a8, .int a9, .int a10, .int a11, .long a12, .int a13, .int a14]))] := hD
  refine lv_aload_n hx hb d_N_goOff_5 rfl (lv_at hl 0 rfl) ?_
  refine lv_dup hx hb d_N_goOff_6 rfl ?_
  refine va_get (D := D) (ci := 0) (v := .int a10) (C := R_N) (T := F_N) (N := 15) hx hb htB uw_N hown hK hP 0 rfl rfl 10 (by decide) (htB _ fl_N_71) (fun _ h9 => h9) rfl d_N_goOff_7 ?_
  refine lv_iconst (v := 1) hx hb d_N_goOff_10 (by decide) ?_
  refine lv_iadd hx hb d_N_goOff_11 ?_
  refine va_put (D := D) (ci := 0) (v := .int (a10 + 1)) (ty := .int) (C := R_N) (T := F_N) (N := 15) hx hb htB uw_N t_N t_N_ok n_N hown hK hP hD hS 0 rfl rfl 10 (by decide) (htB _ fl_N_71) (fun _ h9 => h9) rfl (t_N_ok 10 (by decide)) rfl rfl (Nat.le_of_ble_eq_true rfl) d_N_goOff_12 (fun H locs hP hD hS => ?_)
  have hP : va_P D cls_ [(h0, .inr (0, [.int a0, .int a1, .int 1, .int a3, .int a4, .int a5, .int a6, .int a7, .int a8, .int a9, .int (a10 + 1), .int a11, .long a12, .int a13, .int a14]))] H := hP
  have hD : va_D (fun q : Nat => q = h0) [(h0, .inr (0, [.int a0, .int a1, .int 1, .int a3, .int a4, .int a5, .int a6, .int a7, .int a8, .int a9, .int (a10 + 1), .int a11, .long a12, .int a13, .int a14]))] := hD
  refine lv_aload_n hx hb d_N_goOff_15 rfl (lv_at hl 0 rfl) ?_
  refine lv_iconst (v := 0) hx hb d_N_goOff_16 (by decide) ?_
  refine va_put (D := D) (ci := 0) (v := .int 0) (ty := .int) (C := R_N) (T := F_N) (N := 15) hx hb htB uw_N t_N t_N_ok n_N hown hK hP hD hS 0 rfl rfl 9 (by decide) (htB _ fl_N_62) (fun _ h9 => h9) rfl (t_N_ok 9 (by decide)) rfl rfl (Nat.le_of_ble_eq_true rfl) d_N_goOff_17 (fun H locs hP hD hS => ?_)
  have hP : va_P D cls_ [(h0, .inr (0, [.int a0, .int a1, .int 1, .int a3, .int a4, .int a5, .int a6, .int a7, .int a8, .int 0, .int (a10 + 1), .int a11, .long a12, .int a13, .int a14]))] H := hP
  have hD : va_D (fun q : Nat => q = h0) [(h0, .inr (0, [.int a0, .int a1, .int 1, .int a3, .int a4, .int a5, .int a6, .int a7, .int a8, .int 0, .int (a10 + 1), .int a11, .long a12, .int a13, .int a14]))] := hD
  refine lv_aload_n hx hb d_N_goOff_20 rfl (lv_at hl 0 rfl) ?_
  refine lv_iconst (v := 0) hx hb d_N_goOff_21 (by decide) ?_
  refine va_put (D := D) (ci := 0) (v := .int 0) (ty := .int) (C := R_N) (T := F_N) (N := 15) hx hb htB uw_N t_N t_N_ok n_N hown hK hP hD hS 0 rfl rfl 3 (by decide) (htB _ fl_N_91) (fun _ h9 => h9) rfl (t_N_ok 3 (by decide)) rfl rfl (Nat.le_of_ble_eq_true rfl) d_N_goOff_22 (fun H locs hP hD hS => ?_)
  have hP : va_P D cls_ [(h0, .inr (0, [.int a0, .int a1, .int 1, .int 0, .int a4, .int a5, .int a6, .int a7, .int a8, .int 0, .int (a10 + 1), .int a11, .long a12, .int a13, .int a14]))] H := hP
  have hD : va_D (fun q : Nat => q = h0) [(h0, .inr (0, [.int a0, .int a1, .int 1, .int 0, .int a4, .int a5, .int a6, .int a7, .int a8, .int 0, .int (a10 + 1), .int a11, .long a12, .int a13, .int a14]))] := hD
  refine lv_aload_n hx hb d_N_goOff_25 rfl (lv_at hl 0 rfl) ?_
  refine lv_iconst (v := 0) hx hb d_N_goOff_26 (by decide) ?_
  refine va_put (D := D) (ci := 0) (v := .int 0) (ty := .boolean) (C := R_N) (T := F_N) (N := 15) hx hb htB uw_N t_N t_N_ok n_N hown hK hP hD hS 0 rfl rfl 11 (by decide) (htB _ fl_N_94) (fun _ h9 => h9) rfl (t_N_ok 11 (by decide)) nb0 fb0 (Nat.le_of_ble_eq_true rfl) d_N_goOff_27 (fun H locs hP hD hS => ?_)
  have hP : va_P D cls_ [(h0, .inr (0, [.int a0, .int a1, .int 1, .int 0, .int a4, .int a5, .int a6, .int a7, .int a8, .int 0, .int (a10 + 1), .int 0, .long a12, .int a13, .int a14]))] H := hP
  have hD : va_D (fun q : Nat => q = h0) [(h0, .inr (0, [.int a0, .int a1, .int 1, .int 0, .int a4, .int a5, .int a6, .int a7, .int a8, .int 0, .int (a10 + 1), .int 0, .long a12, .int a13, .int a14]))] := hD
  refine lv_aload_n hx hb d_N_goOff_30 rfl (lv_at hl 0 rfl) ?_
  refine lv_iconst (v := 0) hx hb d_N_goOff_31 (by decide) ?_
  refine va_put (D := D) (ci := 0) (v := .int 0) (ty := .boolean) (C := R_N) (T := F_N) (N := 15) hx hb htB uw_N t_N t_N_ok n_N hown hK hP hD hS 0 rfl rfl 13 (by decide) (htB _ fl_N_97) (fun _ h9 => h9) rfl (t_N_ok 13 (by decide)) nb0 fb0 (Nat.le_of_ble_eq_true rfl) d_N_goOff_32 (fun H locs hP hD hS => ?_)
  have hP : va_P D cls_ [(h0, .inr (0, [.int a0, .int a1, .int 1, .int 0, .int a4, .int a5, .int a6, .int a7, .int a8, .int 0, .int (a10 + 1), .int 0, .long a12, .int 0, .int a14]))] H := hP
  have hD : va_D (fun q : Nat => q = h0) [(h0, .inr (0, [.int a0, .int a1, .int 1, .int 0, .int a4, .int a5, .int a6, .int a7, .int a8, .int 0, .int (a10 + 1), .int 0, .long a12, .int 0, .int a14]))] := hD
  refine lv_aload_n hx hb d_N_goOff_35 rfl (lv_at hl 0 rfl) ?_
  refine lv_iconst (v := 0) hx hb d_N_goOff_36 (by decide) ?_
  refine va_put (D := D) (ci := 0) (v := .int 0) (ty := .int) (C := R_N) (T := F_N) (N := 15) hx hb htB uw_N t_N t_N_ok n_N hown hK hP hD hS 0 rfl rfl 14 (by decide) (htB _ fl_N_100) (fun _ h9 => h9) rfl (t_N_ok 14 (by decide)) rfl rfl (Nat.le_of_ble_eq_true rfl) d_N_goOff_37 (fun H locs hP hD hS => ?_)
  have hP : va_P D cls_ [(h0, .inr (0, [.int a0, .int a1, .int 1, .int 0, .int a4, .int a5, .int a6, .int a7, .int a8, .int 0, .int (a10 + 1), .int 0, .long a12, .int 0, .int 0]))] H := hP
  have hD : va_D (fun q : Nat => q = h0) [(h0, .inr (0, [.int a0, .int a1, .int 1, .int 0, .int a4, .int a5, .int a6, .int a7, .int a8, .int 0, .int (a10 + 1), .int 0, .long a12, .int 0, .int 0]))] := hD
  exact W.vret hx hb hr (fun t ht hW => ⟨⟨(a0, a1, 1, 0, a4, a5, a6, a7, a8, 0, a10 + 1, 0, a12, 0, 0), rfl, (hc.trans (rfl)).symm, by show va_P _ _ _ t.heap; rw [ht]; exact hP⟩, hS.F ht⟩) hS.2.2 d_N_goOff_40
def f_N_comeBack (u : NS) : NS := let a5 := u.2.2.2.2.2.1; let a6 := u.2.2.2.2.2.2.1; let a7 := u.2.2.2.2.2.2.2.1; let a8 := u.2.2.2.2.2.2.2.2.1; let a9 := u.2.2.2.2.2.2.2.2.2.1; let a10 := u.2.2.2.2.2.2.2.2.2.2.1; let a11 := u.2.2.2.2.2.2.2.2.2.2.2.1; let a12 := u.2.2.2.2.2.2.2.2.2.2.2.2.1; let a13 := u.2.2.2.2.2.2.2.2.2.2.2.2.2.1; let a14 := u.2.2.2.2.2.2.2.2.2.2.2.2.2.2; (0, 0, 0, 0, 0, a5, a6, a7, a8, a9, a10, a11, a12, a13, a14)
set_option maxHeartbeats 4000000 in
set_option maxRecDepth 100000 in
theorem c_N_comeBack (l : Launch) (D : va_G) (h0 : Nat) (u : NS) : Met l y_N_comeBack (cw_N_comeBack :: BIG) ((rmk 0 0 0)) (va_Pc [.ref h0] (fun U => va_P D cls_ [(h0, .inr (0, n_fs u))] U.heap ∧ va_K D cls_ [] U ∧ NK U)) (va_Qv (fun u2 : NS => u2 = f_N_comeBack u) (fun (u2 : NS) (t : State) => va_P D cls_ [(h0, .inr (0, n_fs u2))] t.heap) (fun q : Nat => q = h0)) 0 0 (fun q : Nat => q = h0) := by
  obtain ⟨a0, a1, a2, a3, a4, a5, a6, a7, a8, a9, a10, a11, a12, a13, a14⟩ := u
  refine Met.ofW (cc := b_N_comeBack) (maxL := 1) (ret := none) (by decide) rfl ?_
  intro p e s m args below meth c s₁ B hml hv
  obtain ⟨rfl, hP, hK, hN⟩ := hv
  have hx := B.exec
  have hb := B.bytes
  have hr := B.returns
  have htB : ∀ w ∈ BIG, w.before _ s = true := fun w h => atoms_spec (ws := cw_N_comeBack :: BIG) B.pre w (List.mem_cons_of_mem _ h)
  have hown : s.vm.findClass R_N = some m.cls := findClass_of_methodNamed B.named
  have hlocks := B.notSynchronized
  have hP : va_P D cls_ [(h0, .inr (0, [.int a0, .int a1, .int a2, .int a3, .int a4, .int a5, .int a6, .int a7, .int a8, .int a9, .int a10, .int a11, .long a12, .int a13, .int a14]))] s.heap := hP
  have hD : va_D (fun q : Nat => q = h0) [(h0, .inr (0, [.int a0, .int a1, .int a2, .int a3, .int a4, .int a5, .int a6, .int a7, .int a8, .int a9, .int a10, .int a11, .long a12, .int a13, .int a14]))] := nD
  have hS : va_S (fun q : Nat => q = h0) s.heap s.heap [] := va_S.rf
  have hl := lv_entry ([.ref h0]) (n := 1) (Nat.le_of_ble_eq_true rfl)
  rw [lg_entry_eq]
  generalize (lg_sl ([.ref h0]) ++ List.replicate (1 - (lg_sl ([.ref h0])).length) Slot.unset).toArray = ls at hl ⊢
  have hl : lv_has ls 1 [(0, .ref h0)] := hl
  have hc : f_N_comeBack (a0, a1, a2, a3, a4, a5, a6, a7, a8, a9, a10, a11, a12, a13, a14) = f_N_comeBack (a0, a1, a2, a3, a4, a5, a6, a7, a8, a9, a10, a11, a12, a13, a14) := rfl
  refine lv_aload_n hx hb d_N_comeBack_0 rfl (lv_at hl 0 rfl) ?_
  refine lv_iconst (v := 0) hx hb d_N_comeBack_1 (by decide) ?_
  refine va_put (D := D) (ci := 0) (v := .int 0) (ty := .boolean) (C := R_N) (T := F_N) (N := 15) hx hb htB uw_N t_N t_N_ok n_N hown hK hP hD hS 0 rfl rfl 2 (by decide) (htB _ fl_N_9) (fun _ h9 => h9) rfl (t_N_ok 2 (by decide)) nb0 fb0 (Nat.le_of_ble_eq_true rfl) d_N_comeBack_2 (fun H locs hP hD hS => ?_)
  have hP : va_P D cls_ [(h0, .inr (0, [.int a0, .int a1, .int 0, .int a3, .int a4, .int a5, .int a6, .int a7, .int a8, .int a9, .int a10, .int a11, .long a12, .int a13, .int a14]))] H := hP
  have hD : va_D (fun q : Nat => q = h0) [(h0, .inr (0, [.int a0, .int a1, .int 0, .int a3, .int a4, .int a5, .int a6, .int a7, .int a8, .int a9, .int a10, .int a11, .long a12, .int a13, .int a14]))] := hD
  refine lv_aload_n hx hb d_N_comeBack_5 rfl (lv_at hl 0 rfl) ?_
  refine lv_iconst (v := 0) hx hb d_N_comeBack_6 (by decide) ?_
  refine va_put (D := D) (ci := 0) (v := .int 0) (ty := .int) (C := R_N) (T := F_N) (N := 15) hx hb htB uw_N t_N t_N_ok n_N hown hK hP hD hS 0 rfl rfl 0 (by decide) (htB _ fl_N_15) (fun _ h9 => h9) rfl (t_N_ok 0 (by decide)) rfl rfl (Nat.le_of_ble_eq_true rfl) d_N_comeBack_7 (fun H locs hP hD hS => ?_)
  have hP : va_P D cls_ [(h0, .inr (0, [.int 0, .int a1, .int 0, .int a3, .int a4, .int a5, .int a6, .int a7, .int a8, .int a9, .int a10, .int a11, .long a12, .int a13, .int a14]))] H := hP
  have hD : va_D (fun q : Nat => q = h0) [(h0, .inr (0, [.int 0, .int a1, .int 0, .int a3, .int a4, .int a5, .int a6, .int a7, .int a8, .int a9, .int a10, .int a11, .long a12, .int a13, .int a14]))] := hD
  refine lv_aload_n hx hb d_N_comeBack_10 rfl (lv_at hl 0 rfl) ?_
  refine lv_iconst (v := 0) hx hb d_N_comeBack_11 (by decide) ?_
  refine va_put (D := D) (ci := 0) (v := .int 0) (ty := .int) (C := R_N) (T := F_N) (N := 15) hx hb htB uw_N t_N t_N_ok n_N hown hK hP hD hS 0 rfl rfl 1 (by decide) (htB _ fl_N_19) (fun _ h9 => h9) rfl (t_N_ok 1 (by decide)) rfl rfl (Nat.le_of_ble_eq_true rfl) d_N_comeBack_12 (fun H locs hP hD hS => ?_)
  have hP : va_P D cls_ [(h0, .inr (0, [.int 0, .int 0, .int 0, .int a3, .int a4, .int a5, .int a6, .int a7, .int a8, .int a9, .int a10, .int a11, .long a12, .int a13, .int a14]))] H := hP
  have hD : va_D (fun q : Nat => q = h0) [(h0, .inr (0, [.int 0, .int 0, .int 0, .int a3, .int a4, .int a5, .int a6, .int a7, .int a8, .int a9, .int a10, .int a11, .long a12, .int a13, .int a14]))] := hD
  refine lv_aload_n hx hb d_N_comeBack_15 rfl (lv_at hl 0 rfl) ?_
  refine lv_iconst (v := 0) hx hb d_N_comeBack_16 (by decide) ?_
  refine va_put (D := D) (ci := 0) (v := .int 0) (ty := .int) (C := R_N) (T := F_N) (N := 15) hx hb htB uw_N t_N t_N_ok n_N hown hK hP hD hS 0 rfl rfl 3 (by decide) (htB _ fl_N_91) (fun _ h9 => h9) rfl (t_N_ok 3 (by decide)) rfl rfl (Nat.le_of_ble_eq_true rfl) d_N_comeBack_17 (fun H locs hP hD hS => ?_)
  have hP : va_P D cls_ [(h0, .inr (0, [.int 0, .int 0, .int 0, .int 0, .int a4, .int a5, .int a6, .int a7, .int a8, .int a9, .int a10, .int a11, .long a12, .int a13, .int a14]))] H := hP
  have hD : va_D (fun q : Nat => q = h0) [(h0, .inr (0, [.int 0, .int 0, .int 0, .int 0, .int a4, .int a5, .int a6, .int a7, .int a8, .int a9, .int a10, .int a11, .long a12, .int a13, .int a14]))] := hD
  refine lv_aload_n hx hb d_N_comeBack_20 rfl (lv_at hl 0 rfl) ?_
  refine lv_iconst (v := 0) hx hb d_N_comeBack_21 (by decide) ?_
  refine va_put (D := D) (ci := 0) (v := .int 0) (ty := .int) (C := R_N) (T := F_N) (N := 15) hx hb htB uw_N t_N t_N_ok n_N hown hK hP hD hS 0 rfl rfl 4 (by decide) (htB _ fl_N_56) (fun _ h9 => h9) rfl (t_N_ok 4 (by decide)) rfl rfl (Nat.le_of_ble_eq_true rfl) d_N_comeBack_22 (fun H locs hP hD hS => ?_)
  have hP : va_P D cls_ [(h0, .inr (0, [.int 0, .int 0, .int 0, .int 0, .int 0, .int a5, .int a6, .int a7, .int a8, .int a9, .int a10, .int a11, .long a12, .int a13, .int a14]))] H := hP
  have hD : va_D (fun q : Nat => q = h0) [(h0, .inr (0, [.int 0, .int 0, .int 0, .int 0, .int 0, .int a5, .int a6, .int a7, .int a8, .int a9, .int a10, .int a11, .long a12, .int a13, .int a14]))] := hD
  exact W.vret hx hb hr (fun t ht hW => ⟨⟨(0, 0, 0, 0, 0, a5, a6, a7, a8, a9, a10, a11, a12, a13, a14), rfl, (hc.trans (rfl)).symm, by show va_P _ _ _ t.heap; rw [ht]; exact hP⟩, hS.F ht⟩) hS.2.2 d_N_comeBack_25
def f_N_countRows_k2 (u : NS) (n : Int32) : NS := let b2_0 := u.1; let b2_1 := u.2.1; let b2_2 := u.2.2.1; let b2_3 := u.2.2.2.1; let b2_4 := u.2.2.2.2.1; let b2_5 := u.2.2.2.2.2.1; let b2_6 := u.2.2.2.2.2.2.1; let b2_7 := u.2.2.2.2.2.2.2.1; let b2_8 := u.2.2.2.2.2.2.2.2.1; let b2_9 := u.2.2.2.2.2.2.2.2.2.1; let b2_10 := u.2.2.2.2.2.2.2.2.2.2.1; let b2_11 := u.2.2.2.2.2.2.2.2.2.2.2.1; let b2_12 := u.2.2.2.2.2.2.2.2.2.2.2.2.1; let b2_13 := u.2.2.2.2.2.2.2.2.2.2.2.2.2.1; let b2_14 := u.2.2.2.2.2.2.2.2.2.2.2.2.2.2; (b2_0, b2_1, b2_2, b2_3, b2_4, b2_5, b2_6, b2_7, b2_8, b2_9, b2_10, b2_11, b2_12, b2_13, b2_14)
def f_N_countRows (u : NS) (n : Int32) : NS := let a0 := u.1; let a1 := u.2.1; let a2 := u.2.2.1; let a3 := u.2.2.2.1; let a4 := u.2.2.2.2.1; let a5 := u.2.2.2.2.2.1; let a6 := u.2.2.2.2.2.2.1; let a7 := u.2.2.2.2.2.2.2.1; let a8 := u.2.2.2.2.2.2.2.2.1; let a9 := u.2.2.2.2.2.2.2.2.2.1; let a10 := u.2.2.2.2.2.2.2.2.2.2.1; let a11 := u.2.2.2.2.2.2.2.2.2.2.2.1; let a12 := u.2.2.2.2.2.2.2.2.2.2.2.2.1; let a13 := u.2.2.2.2.2.2.2.2.2.2.2.2.2.1; let a14 := u.2.2.2.2.2.2.2.2.2.2.2.2.2.2; if n < (128 - a14) then (a0, a1, a2, a3, a4, a5, a6, a7, a8, a9, a10, a11, a12, a13, a14 + n) else (f_N_countRows_k2 (f_N_comeBack (a0, a1, a2, a3, a4, a5, a6, a7, a8, a9, a10, a11, a12, a13, a14)) n)
set_option maxHeartbeats 4000000 in
set_option maxRecDepth 100000 in
theorem c_N_countRows (l : Launch) (D : va_G) (h0 : Nat) (u : NS) (n : Int32) : Met l y_N_countRows (cw_N_countRows :: BIG) ((rmk 1 0 0)) (va_Pc [.ref h0, .int n] (fun U => va_P D cls_ [(h0, .inr (0, n_fs u))] U.heap ∧ va_K D cls_ [] U ∧ NK U)) (va_Qv (fun u2 : NS => u2 = f_N_countRows u n) (fun (u2 : NS) (t : State) => va_P D cls_ [(h0, .inr (0, n_fs u2))] t.heap) (fun q : Nat => q = h0)) 0 0 (fun q : Nat => q = h0) := by
  obtain ⟨a0, a1, a2, a3, a4, a5, a6, a7, a8, a9, a10, a11, a12, a13, a14⟩ := u
  refine Met.ofW (cc := b_N_countRows) (maxL := 2) (ret := none) (by decide) rfl ?_
  intro p e s m args below meth c s₁ B hml hv
  obtain ⟨rfl, hP, hK, hN⟩ := hv
  have hx := B.exec
  have hb := B.bytes
  have hr := B.returns
  have htB : ∀ w ∈ BIG, w.before _ s = true := fun w h => atoms_spec (ws := cw_N_countRows :: BIG) B.pre w (List.mem_cons_of_mem _ h)
  have hown : s.vm.findClass R_N = some m.cls := findClass_of_methodNamed B.named
  have hlocks := B.notSynchronized
  have hP : va_P D cls_ [(h0, .inr (0, [.int a0, .int a1, .int a2, .int a3, .int a4, .int a5, .int a6, .int a7, .int a8, .int a9, .int a10, .int a11, .long a12, .int a13, .int a14]))] s.heap := hP
  have hD : va_D (fun q : Nat => q = h0) [(h0, .inr (0, [.int a0, .int a1, .int a2, .int a3, .int a4, .int a5, .int a6, .int a7, .int a8, .int a9, .int a10, .int a11, .long a12, .int a13, .int a14]))] := nD
  have hS : va_S (fun q : Nat => q = h0) s.heap s.heap [] := va_S.rf
  have hl := lv_entry ([.ref h0, .int n]) (n := 2) (Nat.le_of_ble_eq_true rfl)
  rw [lg_entry_eq]
  generalize (lg_sl ([.ref h0, .int n]) ++ List.replicate (2 - (lg_sl ([.ref h0, .int n])).length) Slot.unset).toArray = ls at hl ⊢
  have hl : lv_has ls 2 [(0, .ref h0), (1, .int n)] := hl
  have hc : f_N_countRows (a0, a1, a2, a3, a4, a5, a6, a7, a8, a9, a10, a11, a12, a13, a14) n = f_N_countRows (a0, a1, a2, a3, a4, a5, a6, a7, a8, a9, a10, a11, a12, a13, a14) n := rfl
  refine lv_iload_n hx hb d_N_countRows_0 rfl (lv_at hl 1 rfl) ?_
  refine lv_sipush (v := 128) hx hb d_N_countRows_1 (by decide) ?_
  refine lv_aload_n hx hb d_N_countRows_4 rfl (lv_at hl 0 rfl) ?_
  refine va_get (D := D) (ci := 0) (v := .int a14) (C := R_N) (T := F_N) (N := 15) hx hb htB uw_N hown hK hP 0 rfl rfl 14 (by decide) (htB _ fl_N_100) (fun _ h9 => h9) rfl d_N_countRows_5 ?_
  refine lv_isub hx hb d_N_countRows_8 ?_
  refine lv_icmp_lt (tgt := 19) hx hb d_N_countRows_9 (by decide) (fun c_1 => ?_) (fun c_1 => ?_)
  · refine lv_aload_n hx hb d_N_countRows_19 rfl (lv_at hl 0 rfl) ?_
    refine lv_dup hx hb d_N_countRows_20 rfl ?_
    refine va_get (D := D) (ci := 0) (v := .int a14) (C := R_N) (T := F_N) (N := 15) hx hb htB uw_N hown hK hP 0 rfl rfl 14 (by decide) (htB _ fl_N_100) (fun _ h9 => h9) rfl d_N_countRows_21 ?_
    refine lv_iload_n hx hb d_N_countRows_24 rfl (lv_at hl 1 rfl) ?_
    refine lv_iadd hx hb d_N_countRows_25 ?_
    refine va_put (D := D) (ci := 0) (v := .int (a14 + n)) (ty := .int) (C := R_N) (T := F_N) (N := 15) hx hb htB uw_N t_N t_N_ok n_N hown hK hP hD hS 0 rfl rfl 14 (by decide) (htB _ fl_N_100) (fun _ h9 => h9) rfl (t_N_ok 14 (by decide)) rfl rfl (Nat.le_of_ble_eq_true rfl) d_N_countRows_26 (fun H locs hP hD hS => ?_)
    have hP : va_P D cls_ [(h0, .inr (0, [.int a0, .int a1, .int a2, .int a3, .int a4, .int a5, .int a6, .int a7, .int a8, .int a9, .int a10, .int a11, .long a12, .int a13, .int (a14 + n)]))] H := hP
    have hD : va_D (fun q : Nat => q = h0) [(h0, .inr (0, [.int a0, .int a1, .int a2, .int a3, .int a4, .int a5, .int a6, .int a7, .int a8, .int a9, .int a10, .int a11, .long a12, .int a13, .int (a14 + n)]))] := hD
    exact W.vret hx hb hr (fun t ht hW => ⟨⟨(a0, a1, a2, a3, a4, a5, a6, a7, a8, a9, a10, a11, a12, a13, a14 + n), rfl, (hc.trans (if_pos c_1)).symm, by show va_P _ _ _ t.heap; rw [ht]; exact hP⟩, hS.F ht⟩) hS.2.2 d_N_countRows_29
  · refine lv_aload_n hx hb d_N_countRows_12 rfl (lv_at hl 0 rfl) ?_
    refine va_callv (va_runV (As := []) (rest := []) ⟨hx, hb, hml, hown, htB⟩ (c_N_comeBack l D h0 (a0, a1, a2, a3, a4, a5, a6, a7, a8, a9, a10, a11, a12, a13, a14)) (cwV 0 htB g_N_115 rfl rfl rfl (by decide +kernel) ⟨Nat.le_of_ble_eq_true rfl, Nat.le_of_ble_eq_true rfl⟩) (preV hP hK hN (va_recv hK hP (ci := 0) (q0 := 0) rfl rfl)) rfl rfl hl.1 rfl (lv_room (Nat.le_of_ble_eq_true rfl)) d_N_countRows_13 ⟨Nat.le_of_ble_eq_true rfl, Nat.le_of_ble_eq_true rfl⟩) hS (fun _ _ h => h) (fun _ h => h) (fun u t H locs ht hvm hw hP hz1 hk1 hS => ?_)
    rw [ht] at hP
    obtain ⟨b2_0, b2_1, b2_2, b2_3, b2_4, b2_5, b2_6, b2_7, b2_8, b2_9, b2_10, b2_11, b2_12, b2_13, b2_14⟩ := u
    have hP : va_P D cls_ [(h0, .inr (0, [.int b2_0, .int b2_1, .int b2_2, .int b2_3, .int b2_4, .int b2_5, .int b2_6, .int b2_7, .int b2_8, .int b2_9, .int b2_10, .int b2_11, .long b2_12, .int b2_13, .int b2_14]))] H := hP
    have hD : va_D (fun q : Nat => q = h0) [(h0, .inr (0, [.int b2_0, .int b2_1, .int b2_2, .int b2_3, .int b2_4, .int b2_5, .int b2_6, .int b2_7, .int b2_8, .int b2_9, .int b2_10, .int b2_11, .long b2_12, .int b2_13, .int b2_14]))] := nD
    have hc : f_N_countRows (a0, a1, a2, a3, a4, a5, a6, a7, a8, a9, a10, a11, a12, a13, a14) n = f_N_countRows_k2 (b2_0, b2_1, b2_2, b2_3, b2_4, b2_5, b2_6, b2_7, b2_8, b2_9, b2_10, b2_11, b2_12, b2_13, b2_14) n := (hc.trans (if_neg c_1)).trans (congrArg (fun z => f_N_countRows_k2 z n) hw.symm)
    refine lv_goto (tgt := 29) hx hb d_N_countRows_16 (by decide) ?_
    exact W.vret hx hb hr (fun t ht hW => ⟨⟨(b2_0, b2_1, b2_2, b2_3, b2_4, b2_5, b2_6, b2_7, b2_8, b2_9, b2_10, b2_11, b2_12, b2_13, b2_14), rfl, (hc.trans (rfl)).symm, by show va_P _ _ _ t.heap; rw [ht]; exact hP⟩, hS.F ht⟩) hS.2.2 d_N_countRows_29

def f_N_lowerCounter (u : NS) (w : Int32) : NS := let a0 := u.1; let a1 := u.2.1; let a2 := u.2.2.1; let a3 := u.2.2.2.1; let a4 := u.2.2.2.2.1; let a5 := u.2.2.2.2.2.1; let a6 := u.2.2.2.2.2.2.1; let a7 := u.2.2.2.2.2.2.2.1; let a8 := u.2.2.2.2.2.2.2.2.1; let a9 := u.2.2.2.2.2.2.2.2.2.1; let a10 := u.2.2.2.2.2.2.2.2.2.2.1; let a11 := u.2.2.2.2.2.2.2.2.2.2.2.1; let a12 := u.2.2.2.2.2.2.2.2.2.2.2.2.1; let a13 := u.2.2.2.2.2.2.2.2.2.2.2.2.2.1; let a14 := u.2.2.2.2.2.2.2.2.2.2.2.2.2.2; if w = 0 then (if a1 ≤ 127 then (a0, (if (a1 - 1) < 0 then 0 else (a1 - 1)), a2, a3, a4, a5, a6, a7, a8, a9, a10, a11, a12, a13, a14) else (a0, 119, a2, a3, a4, a5, a6, a7, a8, a9, a10, a11, a12, a13, a14)) else ((if (a0 - 1) < 0 then 0 else (a0 - 1)), a1, a2, a3, a4, a5, a6, a7, a8, a9, a10, a11, a12, a13, a14)
set_option maxHeartbeats 4000000 in
set_option maxRecDepth 100000 in
theorem c_N_lowerCounter (l : Launch) (D : va_G) (h0 : Nat) (u : NS) (w : Int32) : Met l y_N_lowerCounter (cw_N_lowerCounter :: BIG) ((rmk 1 0 0)) (va_Pc [.ref h0, .int w] (fun U => va_P D cls_ [(h0, .inr (0, n_fs u))] U.heap ∧ va_K D cls_ [] U ∧ NK U)) (va_Qv (fun u2 : NS => u2 = f_N_lowerCounter u w) (fun (u2 : NS) (t : State) => va_P D cls_ [(h0, .inr (0, n_fs u2))] t.heap) (fun q : Nat => q = h0)) 0 0 (fun q : Nat => q = h0) := by
  obtain ⟨a0, a1, a2, a3, a4, a5, a6, a7, a8, a9, a10, a11, a12, a13, a14⟩ := u
  refine Met.ofW (cc := b_N_lowerCounter) (maxL := 2) (ret := none) (by decide) rfl ?_
  intro p e s m args below meth c s₁ B hml hv
  obtain ⟨rfl, hP, hK, hN⟩ := hv
  have hx := B.exec
  have hb := B.bytes
  have hr := B.returns
  have htB : ∀ w ∈ BIG, w.before _ s = true := fun w h => atoms_spec (ws := cw_N_lowerCounter :: BIG) B.pre w (List.mem_cons_of_mem _ h)
  have hown : s.vm.findClass R_N = some m.cls := findClass_of_methodNamed B.named
  have hlocks := B.notSynchronized
  have hP : va_P D cls_ [(h0, .inr (0, [.int a0, .int a1, .int a2, .int a3, .int a4, .int a5, .int a6, .int a7, .int a8, .int a9, .int a10, .int a11, .long a12, .int a13, .int a14]))] s.heap := hP
  have hD : va_D (fun q : Nat => q = h0) [(h0, .inr (0, [.int a0, .int a1, .int a2, .int a3, .int a4, .int a5, .int a6, .int a7, .int a8, .int a9, .int a10, .int a11, .long a12, .int a13, .int a14]))] := nD
  have hS : va_S (fun q : Nat => q = h0) s.heap s.heap [] := va_S.rf
  have hl := lv_entry ([.ref h0, .int w]) (n := 2) (Nat.le_of_ble_eq_true rfl)
  rw [lg_entry_eq]
  generalize (lg_sl ([.ref h0, .int w]) ++ List.replicate (2 - (lg_sl ([.ref h0, .int w])).length) Slot.unset).toArray = ls at hl ⊢
  have hl : lv_has ls 2 [(0, .ref h0), (1, .int w)] := hl
  have hc : f_N_lowerCounter (a0, a1, a2, a3, a4, a5, a6, a7, a8, a9, a10, a11, a12, a13, a14) w = f_N_lowerCounter (a0, a1, a2, a3, a4, a5, a6, a7, a8, a9, a10, a11, a12, a13, a14) w := rfl
  refine lv_iload_n hx hb d_N_lowerCounter_0 rfl (lv_at hl 1 rfl) ?_
  refine lv_if_eq (tgt := 21) hx hb d_N_lowerCounter_1 (by decide) (fun c_1 => ?_) (fun c_1 => ?_)
  · refine lv_aload_n hx hb d_N_lowerCounter_21 rfl (lv_at hl 0 rfl) ?_
    refine va_get (D := D) (ci := 0) (v := .int a1) (C := R_N) (T := F_N) (N := 15) hx hb htB uw_N hown hK hP 0 rfl rfl 1 (by decide) (htB _ fl_N_19) (fun _ h9 => h9) rfl d_N_lowerCounter_22 ?_
    refine lv_bipush (v := 127) hx hb d_N_lowerCounter_25 (by decide) ?_
    refine lv_icmp_le (tgt := 39) hx hb d_N_lowerCounter_27 (by decide) (fun c_2 => ?_) (fun c_2 => ?_)
    · refine lv_aload_n hx hb d_N_lowerCounter_39 rfl (lv_at hl 0 rfl) ?_
      refine lv_aload_n hx hb d_N_lowerCounter_40 rfl (lv_at hl 0 rfl) ?_
      refine va_get (D := D) (ci := 0) (v := .int a1) (C := R_N) (T := F_N) (N := 15) hx hb htB uw_N hown hK hP 0 rfl rfl 1 (by decide) (htB _ fl_N_19) (fun _ h9 => h9) rfl d_N_lowerCounter_41 ?_
      refine lv_iconst (v := 1) hx hb d_N_lowerCounter_44 (by decide) ?_
      refine lv_isub hx hb d_N_lowerCounter_45 ?_
      refine lv_iconst (v := 0) hx hb d_N_lowerCounter_46 (by decide) ?_
      refine va_mmax hx hb (hml.trans hl.1.symm) hown (htB _ ml_N_85) (htB _ st_math_max) (htB _ in_math) (htB _ co_math_max) (Nat.le_of_ble_eq_true rfl) (Nat.le_of_ble_eq_true rfl) (Nat.le_of_ble_eq_true rfl) (Nat.le_of_ble_eq_true rfl) d_N_lowerCounter_47 ?_
      refine va_put (D := D) (ci := 0) (v := .int (if (a1 - 1) < 0 then 0 else (a1 - 1))) (ty := .int) (C := R_N) (T := F_N) (N := 15) hx hb htB uw_N t_N t_N_ok n_N hown hK hP hD hS 0 rfl rfl 1 (by decide) (htB _ fl_N_19) (fun _ h9 => h9) rfl (t_N_ok 1 (by decide)) rfl rfl (Nat.le_of_ble_eq_true rfl) d_N_lowerCounter_50 (fun H locs hP hD hS => ?_)
      have hP : va_P D cls_ [(h0, .inr (0, [.int a0, .int (if (a1 - 1) < 0 then 0 else (a1 - 1)), .int a2, .int a3, .int a4, .int a5, .int a6, .int a7, .int a8, .int a9, .int a10, .int a11, .long a12, .int a13, .int a14]))] H := hP
      have hD : va_D (fun q : Nat => q = h0) [(h0, .inr (0, [.int a0, .int (if (a1 - 1) < 0 then 0 else (a1 - 1)), .int a2, .int a3, .int a4, .int a5, .int a6, .int a7, .int a8, .int a9, .int a10, .int a11, .long a12, .int a13, .int a14]))] := hD
      exact W.vret hx hb hr (fun t ht hW => ⟨⟨(a0, (if (a1 - 1) < 0 then 0 else (a1 - 1)), a2, a3, a4, a5, a6, a7, a8, a9, a10, a11, a12, a13, a14), rfl, (hc.trans ((if_pos c_1).trans (if_pos c_2))).symm, by show va_P _ _ _ t.heap; rw [ht]; exact hP⟩, hS.F ht⟩) hS.2.2 d_N_lowerCounter_53
    · refine lv_aload_n hx hb d_N_lowerCounter_30 rfl (lv_at hl 0 rfl) ?_
      refine lv_bipush (v := 119) hx hb d_N_lowerCounter_31 (by decide) ?_
      refine va_put (D := D) (ci := 0) (v := .int 119) (ty := .int) (C := R_N) (T := F_N) (N := 15) hx hb htB uw_N t_N t_N_ok n_N hown hK hP hD hS 0 rfl rfl 1 (by decide) (htB _ fl_N_19) (fun _ h9 => h9) rfl (t_N_ok 1 (by decide)) rfl rfl (Nat.le_of_ble_eq_true rfl) d_N_lowerCounter_33 (fun H locs hP hD hS => ?_)
      have hP : va_P D cls_ [(h0, .inr (0, [.int a0, .int 119, .int a2, .int a3, .int a4, .int a5, .int a6, .int a7, .int a8, .int a9, .int a10, .int a11, .long a12, .int a13, .int a14]))] H := hP
      have hD : va_D (fun q : Nat => q = h0) [(h0, .inr (0, [.int a0, .int 119, .int a2, .int a3, .int a4, .int a5, .int a6, .int a7, .int a8, .int a9, .int a10, .int a11, .long a12, .int a13, .int a14]))] := hD
      refine lv_goto (tgt := 53) hx hb d_N_lowerCounter_36 (by decide) ?_
      exact W.vret hx hb hr (fun t ht hW => ⟨⟨(a0, 119, a2, a3, a4, a5, a6, a7, a8, a9, a10, a11, a12, a13, a14), rfl, (hc.trans ((if_pos c_1).trans (if_neg c_2))).symm, by show va_P _ _ _ t.heap; rw [ht]; exact hP⟩, hS.F ht⟩) hS.2.2 d_N_lowerCounter_53
  · refine lv_aload_n hx hb d_N_lowerCounter_4 rfl (lv_at hl 0 rfl) ?_
    refine lv_aload_n hx hb d_N_lowerCounter_5 rfl (lv_at hl 0 rfl) ?_
    refine va_get (D := D) (ci := 0) (v := .int a0) (C := R_N) (T := F_N) (N := 15) hx hb htB uw_N hown hK hP 0 rfl rfl 0 (by decide) (htB _ fl_N_15) (fun _ h9 => h9) rfl d_N_lowerCounter_6 ?_
    refine lv_iconst (v := 1) hx hb d_N_lowerCounter_9 (by decide) ?_
    refine lv_isub hx hb d_N_lowerCounter_10 ?_
    refine lv_iconst (v := 0) hx hb d_N_lowerCounter_11 (by decide) ?_
    refine va_mmax hx hb (hml.trans hl.1.symm) hown (htB _ ml_N_85) (htB _ st_math_max) (htB _ in_math) (htB _ co_math_max) (Nat.le_of_ble_eq_true rfl) (Nat.le_of_ble_eq_true rfl) (Nat.le_of_ble_eq_true rfl) (Nat.le_of_ble_eq_true rfl) d_N_lowerCounter_12 ?_
    refine va_put (D := D) (ci := 0) (v := .int (if (a0 - 1) < 0 then 0 else (a0 - 1))) (ty := .int) (C := R_N) (T := F_N) (N := 15) hx hb htB uw_N t_N t_N_ok n_N hown hK hP hD hS 0 rfl rfl 0 (by decide) (htB _ fl_N_15) (fun _ h9 => h9) rfl (t_N_ok 0 (by decide)) rfl rfl (Nat.le_of_ble_eq_true rfl) d_N_lowerCounter_15 (fun H locs hP hD hS => ?_)
    have hP : va_P D cls_ [(h0, .inr (0, [.int (if (a0 - 1) < 0 then 0 else (a0 - 1)), .int a1, .int a2, .int a3, .int a4, .int a5, .int a6, .int a7, .int a8, .int a9, .int a10, .int a11, .long a12, .int a13, .int a14]))] H := hP
    have hD : va_D (fun q : Nat => q = h0) [(h0, .inr (0, [.int (if (a0 - 1) < 0 then 0 else (a0 - 1)), .int a1, .int a2, .int a3, .int a4, .int a5, .int a6, .int a7, .int a8, .int a9, .int a10, .int a11, .long a12, .int a13, .int a14]))] := hD
    refine lv_goto (tgt := 53) hx hb d_N_lowerCounter_18 (by decide) ?_
    exact W.vret hx hb hr (fun t ht hW => ⟨⟨((if (a0 - 1) < 0 then 0 else (a0 - 1)), a1, a2, a3, a4, a5, a6, a7, a8, a9, a10, a11, a12, a13, a14), rfl, (hc.trans (if_neg c_1)).symm, by show va_P _ _ _ t.heap; rw [ht]; exact hP⟩, hS.F ht⟩) hS.2.2 d_N_lowerCounter_53
def f_N_countErrors_k5 (u : NS) (k : Int32) (w : Int32) : NS := let b5_0 := u.1; let b5_1 := u.2.1; let b5_2 := u.2.2.1; let b5_3 := u.2.2.2.1; let b5_4 := u.2.2.2.2.1; let b5_5 := u.2.2.2.2.2.1; let b5_6 := u.2.2.2.2.2.2.1; let b5_7 := u.2.2.2.2.2.2.2.1; let b5_8 := u.2.2.2.2.2.2.2.2.1; let b5_9 := u.2.2.2.2.2.2.2.2.2.1; let b5_10 := u.2.2.2.2.2.2.2.2.2.2.1; let b5_11 := u.2.2.2.2.2.2.2.2.2.2.2.1; let b5_12 := u.2.2.2.2.2.2.2.2.2.2.2.2.1; let b5_13 := u.2.2.2.2.2.2.2.2.2.2.2.2.2.1; let b5_14 := u.2.2.2.2.2.2.2.2.2.2.2.2.2.2; (b5_0, b5_1, b5_2, b5_3, b5_4, b5_5, b5_6, b5_7, b5_8, b5_9, b5_10, b5_11, b5_12, b5_13, b5_14)
def f_N_countErrors (u : NS) (k : Int32) (w : Int32) : NS := let a0 := u.1; let a1 := u.2.1; let a2 := u.2.2.1; let a3 := u.2.2.2.1; let a4 := u.2.2.2.2.1; let a5 := u.2.2.2.2.2.1; let a6 := u.2.2.2.2.2.2.1; let a7 := u.2.2.2.2.2.2.2.1; let a8 := u.2.2.2.2.2.2.2.2.1; let a9 := u.2.2.2.2.2.2.2.2.2.1; let a10 := u.2.2.2.2.2.2.2.2.2.2.1; let a11 := u.2.2.2.2.2.2.2.2.2.2.2.1; let a12 := u.2.2.2.2.2.2.2.2.2.2.2.2.1; let a13 := u.2.2.2.2.2.2.2.2.2.2.2.2.2.1; let a14 := u.2.2.2.2.2.2.2.2.2.2.2.2.2.2; if k = 0 then (f_N_countErrors_k5 (f_N_lowerCounter (a0, a1, a2, a3, a4, a5, a6, a7, a8, a9, a10, a11, a12, a13, a14) w) k w) else (if w = 0 then (a0, (if 255 < (a1 + (f_N_receiverPenalty (a0, a1, a2, a3, a4, a5, a6, a7, a8, a9, a10, a11, a12, a13, a14) k)) then 255 else (a1 + (f_N_receiverPenalty (a0, a1, a2, a3, a4, a5, a6, a7, a8, a9, a10, a11, a12, a13, a14) k))), a2, a3, a4, a5, a6, a7, a8, a9, a10, a11, a12, a13, a14) else ((if 256 < (a0 + (f_N_senderPenalty (a0, a1, a2, a3, a4, a5, a6, a7, a8, a9, a10, a11, a12, a13, a14) k)) then 256 else (a0 + (f_N_senderPenalty (a0, a1, a2, a3, a4, a5, a6, a7, a8, a9, a10, a11, a12, a13, a14) k))), a1, a2, a3, a4, a5, a6, a7, a8, a9, a10, a11, a12, a13, a14))
set_option maxHeartbeats 4000000 in
set_option maxRecDepth 100000 in
theorem c_N_countErrors (l : Launch) (D : va_G) (h0 : Nat) (u : NS) (k : Int32) (w : Int32) : Met l y_N_countErrors (cw_N_countErrors :: BIG) ((rmk 2 0 0)) (va_Pc [.ref h0, .int k, .int w] (fun U => va_P D cls_ [(h0, .inr (0, n_fs u))] U.heap ∧ va_K D cls_ [] U ∧ NK U)) (va_Qv (fun u2 : NS => u2 = f_N_countErrors u k w) (fun (u2 : NS) (t : State) => va_P D cls_ [(h0, .inr (0, n_fs u2))] t.heap) (fun q : Nat => q = h0)) 0 0 (fun q : Nat => q = h0) := by
  obtain ⟨a0, a1, a2, a3, a4, a5, a6, a7, a8, a9, a10, a11, a12, a13, a14⟩ := u
  refine Met.ofW (cc := b_N_countErrors) (maxL := 3) (ret := none) (by decide) rfl ?_
  intro p e s m args below meth c s₁ B hml hv
  obtain ⟨rfl, hP, hK, hN⟩ := hv
  have hx := B.exec
  have hb := B.bytes
  have hr := B.returns
  have htB : ∀ w ∈ BIG, w.before _ s = true := fun w h => atoms_spec (ws := cw_N_countErrors :: BIG) B.pre w (List.mem_cons_of_mem _ h)
  have hown : s.vm.findClass R_N = some m.cls := findClass_of_methodNamed B.named
  have hlocks := B.notSynchronized
  have hP : va_P D cls_ [(h0, .inr (0, [.int a0, .int a1, .int a2, .int a3, .int a4, .int a5, .int a6, .int a7, .int a8, .int a9, .int a10, .int a11, .long a12, .int a13, .int a14]))] s.heap := hP
  have hD : va_D (fun q : Nat => q = h0) [(h0, .inr (0, [.int a0, .int a1, .int a2, .int a3, .int a4, .int a5, .int a6, .int a7, .int a8, .int a9, .int a10, .int a11, .long a12, .int a13, .int a14]))] := nD
  have hS : va_S (fun q : Nat => q = h0) s.heap s.heap [] := va_S.rf
  have hl := lv_entry ([.ref h0, .int k, .int w]) (n := 3) (Nat.le_of_ble_eq_true rfl)
  rw [lg_entry_eq]
  generalize (lg_sl ([.ref h0, .int k, .int w]) ++ List.replicate (3 - (lg_sl ([.ref h0, .int k, .int w])).length) Slot.unset).toArray = ls at hl ⊢
  have hl : lv_has ls 3 [(0, .ref h0), (1, .int k), (2, .int w)] := hl
  have hc : f_N_countErrors (a0, a1, a2, a3, a4, a5, a6, a7, a8, a9, a10, a11, a12, a13, a14) k w = f_N_countErrors (a0, a1, a2, a3, a4, a5, a6, a7, a8, a9, a10, a11, a12, a13, a14) k w := rfl
  refine lv_iload_n hx hb d_N_countErrors_0 rfl (lv_at hl 1 rfl) ?_
  refine lv_if_ne (tgt := 12) hx hb d_N_countErrors_1 (by decide) (fun c_1 => ?_) (fun c_1 => ?_)
  · refine lv_iload_n hx hb d_N_countErrors_12 rfl (lv_at hl 2 rfl) ?_
    refine lv_if_eq (tgt := 39) hx hb d_N_countErrors_13 (by decide) (fun c_2 => ?_) (fun c_2 => ?_)
    · refine lv_aload_n hx hb d_N_countErrors_39 rfl (lv_at hl 0 rfl) ?_
      refine lv_aload_n hx hb d_N_countErrors_40 rfl (lv_at hl 0 rfl) ?_
      refine va_get (D := D) (ci := 0) (v := .int a1) (C := R_N) (T := F_N) (N := 15) hx hb htB uw_N hown hK hP 0 rfl rfl 1 (by decide) (htB _ fl_N_19) (fun _ h9 => h9) rfl d_N_countErrors_41 ?_
      refine lv_aload_n hx hb d_N_countErrors_44 rfl (lv_at hl 0 rfl) ?_
      refine lv_iload_n hx hb d_N_countErrors_45 rfl (lv_at hl 1 rfl) ?_
      refine vp_callSi (va_Run.run (va_runV (As := [.int k]) (rest := [.int a1, .ref h0]) ⟨hx, hb, hml, hown, htB⟩ (c_N_receiverPenalty l D h0 (a0, a1, a2, a3, a4, a5, a6, a7, a8, a9, a10, a11, a12, a13, a14) k) (cwV 1 htB g_N_82 rfl rfl rfl (by decide +kernel) ⟨Nat.le_of_ble_eq_true rfl, Nat.le_of_ble_eq_true rfl⟩) (preV hP hK hN (va_recv hK hP (ci := 0) (q0 := 0) rfl rfl)) rfl rfl hl.1 rfl (lv_room (Nat.le_of_ble_eq_true rfl)) d_N_countErrors_46 ⟨Nat.le_of_ble_eq_true rfl, Nat.le_of_ble_eq_true rfl⟩)) (fun r_3 hr_3 => ?_)
      subst hr_3
      refine lv_iadd hx hb d_N_countErrors_49 ?_
      refine lv_sipush (v := 255) hx hb d_N_countErrors_50 (by decide) ?_
      refine va_mmin hx hb (hml.trans hl.1.symm) hown (htB _ ml_N_65) (htB _ st_math_min) (htB _ in_math) (htB _ co_math_min) (Nat.le_of_ble_eq_true rfl) (Nat.le_of_ble_eq_true rfl) (Nat.le_of_ble_eq_true rfl) (Nat.le_of_ble_eq_true rfl) d_N_countErrors_53 ?_
      refine va_put (D := D) (ci := 0) (v := .int (if 255 < (a1 + (f_N_receiverPenalty (a0, a1, a2, a3, a4, a5, a6, a7, a8, a9, a10, a11, a12, a13, a14) k)) then 255 else (a1 + (f_N_receiverPenalty (a0, a1, a2, a3, a4, a5, a6, a7, a8, a9, a10, a11, a12, a13, a14) k)))) (ty := .int) (C := R_N) (T := F_N) (N := 15) hx hb htB uw_N t_N t_N_ok n_N hown hK hP hD hS 0 rfl rfl 1 (by decide) (htB _ fl_N_19) (fun _ h9 => h9) rfl (t_N_ok 1 (by decide)) rfl rfl (Nat.le_of_ble_eq_true rfl) d_N_countErrors_56 (fun H locs hP hD hS => ?_)
      have hP : va_P D cls_ [(h0, .inr (0, [.int a0, .int (if 255 < (a1 + (f_N_receiverPenalty (a0, a1, a2, a3, a4, a5, a6, a7, a8, a9, a10, a11, a12, a13, a14) k)) then 255 else (a1 + (f_N_receiverPenalty (a0, a1, a2, a3, a4, a5, a6, a7, a8, a9, a10, a11, a12, a13, a14) k))), .int a2, .int a3, .int a4, .int a5, .int a6, .int a7, .int a8, .int a9, .int a10, .int a11, .long a12, .int a13, .int a14]))] H := hP
      have hD : va_D (fun q : Nat => q = h0) [(h0, .inr (0, [.int a0, .int (if 255 < (a1 + (f_N_receiverPenalty (a0, a1, a2, a3, a4, a5, a6, a7, a8, a9, a10, a11, a12, a13, a14) k)) then 255 else (a1 + (f_N_receiverPenalty (a0, a1, a2, a3, a4, a5, a6, a7, a8, a9, a10, a11, a12, a13, a14) k))), .int a2, .int a3, .int a4, .int a5, .int a6, .int a7, .int a8, .int a9, .int a10, .int a11, .long a12, .int a13, .int a14]))] := hD
      exact W.vret hx hb hr (fun t ht hW => ⟨⟨(a0, (if 255 < (a1 + (f_N_receiverPenalty (a0, a1, a2, a3, a4, a5, a6, a7, a8, a9, a10, a11, a12, a13, a14) k)) then 255 else (a1 + (f_N_receiverPenalty (a0, a1, a2, a3, a4, a5, a6, a7, a8, a9, a10, a11, a12, a13, a14) k))), a2, a3, a4, a5, a6, a7, a8, a9, a10, a11, a12, a13, a14), rfl, (hc.trans ((if_neg c_1).trans (if_pos c_2))).symm, by show va_P _ _ _ t.heap; rw [ht]; exact hP⟩, hS.F ht⟩) hS.2.2 d_N_countErrors_59
    · refine lv_aload_n hx hb d_N_countErrors_16 rfl (lv_at hl 0 rfl) ?_
      refine lv_aload_n hx hb d_N_countErrors_17 rfl (lv_at hl 0 rfl) ?_
      refine va_get (D := D) (ci := 0) (v := .int a0) (C := R_N) (T := F_N) (N := 15) hx hb htB uw_N hown hK hP 0 rfl rfl 0 (by decide) (htB _ fl_N_15) (fun _ h9 => h9) rfl d_N_countErrors_18 ?_
      refine lv_aload_n hx hb d_N_countErrors_21 rfl (lv_at hl 0 rfl) ?_
      refine lv_iload_n hx hb d_N_countErrors_22 rfl (lv_at hl 1 rfl) ?_
      refine vp_callSi (va_Run.run (va_runV (As := [.int k]) (rest := [.int a0, .ref h0]) ⟨hx, hb, hml, hown, htB⟩ (c_N_senderPenalty l D h0 (a0, a1, a2, a3, a4, a5, a6, a7, a8, a9, a10, a11, a12, a13, a14) k) (cwV 1 htB g_N_78 rfl rfl rfl (by decide +kernel) ⟨Nat.le_of_ble_eq_true rfl, Nat.le_of_ble_eq_true rfl⟩) (preV hP hK hN (va_recv hK hP (ci := 0) (q0 := 0) rfl rfl)) rfl rfl hl.1 rfl (lv_room (Nat.le_of_ble_eq_true rfl)) d_N_countErrors_23 ⟨Nat.le_of_ble_eq_true rfl, Nat.le_of_ble_eq_true rfl⟩)) (fun r_4 hr_4 => ?_)
      subst hr_4
      refine lv_iadd hx hb d_N_countErrors_26 ?_
      refine lv_sipush (v := 256) hx hb d_N_countErrors_27 (by decide) ?_
      refine va_mmin hx hb (hml.trans hl.1.symm) hown (htB _ ml_N_65) (htB _ st_math_min) (htB _ in_math) (htB _ co_math_min) (Nat.le_of_ble_eq_true rfl) (Nat.le_of_ble_eq_true rfl) (Nat.le_of_ble_eq_true rfl) (Nat.le_of_ble_eq_true rfl) d_N_countErrors_30 ?_
      refine va_put (D := D) (ci := 0) (v := .int (if 256 < (a0 + (f_N_senderPenalty (a0, a1, a2, a3, a4, a5, a6, a7, a8, a9, a10, a11, a12, a13, a14) k)) then 256 else (a0 + (f_N_senderPenalty (a0, a1, a2, a3, a4, a5, a6, a7, a8, a9, a10, a11, a12, a13, a14) k)))) (ty := .int) (C := R_N) (T := F_N) (N := 15) hx hb htB uw_N t_N t_N_ok n_N hown hK hP hD hS 0 rfl rfl 0 (by decide) (htB _ fl_N_15) (fun _ h9 => h9) rfl (t_N_ok 0 (by decide)) rfl rfl (Nat.le_of_ble_eq_true rfl) d_N_countErrors_33 (fun H locs hP hD hS => ?_)
      have hP : va_P D cls_ [(h0, .inr (0, [.int (if 256 < (a0 + (f_N_senderPenalty (a0, a1, a2, a3, a4, a5, a6, a7, a8, a9, a10, a11, a12, a13, a14) k)) then 256 else (a0 + (f_N_senderPenalty (a0, a1, a2, a3, a4, a5, a6, a7, a8, a9, a10, a11, a12, a13, a14) k))), .int a1, .int a2, .int a3, .int a4, .int a5, .int a6, .int a7, .int a8, .int a9, .int a10, .int a11, .long a12, .int a13, .int a14]))] H := hP
      have hD : va_D (fun q : Nat => q = h0) [(h0, .inr (0, [.int (if 256 < (a0 + (f_N_senderPenalty (a0, a1, a2, a3, a4, a5, a6, a7, a8, a9, a10, a11, a12, a13, a14) k)) then 256 else (a0 + (f_N_senderPenalty (a0, a1, a2, a3, a4, a5, a6, a7, a8, a9, a10, a11, a12, a13, a14) k))), .int a1, .int a2, .int a3, .int a4, .int a5, .int a6, .int a7, .int a8, .int a9, .int a10, .int a11, .long a12, .int a13, .int a14]))] := hD
      refine lv_goto (tgt := 59) hx hb d_N_countErrors_36 (by decide) ?_
      exact W.vret hx hb hr (fun t ht hW => ⟨⟨((if 256 < (a0 + (f_N_senderPenalty (a0, a1, a2, a3, a4, a5, a6, a7, a8, a9, a10, a11, a12, a13, a14) k)) then 256 else (a0 + (f_N_senderPenalty (a0, a1, a2, a3, a4, a5, a6, a7, a8, a9, a10, a11, a12, a13, a14) k))), a1, a2, a3, a4, a5, a6, a7, a8, a9, a10, a11, a12, a13, a14), rfl, (hc.trans ((if_neg c_1).trans (if_neg c_2))).symm, by show va_P _ _ _ t.heap; rw [ht]; exact hP⟩, hS.F ht⟩) hS.2.2 d_N_countErrors_59
  · refine lv_aload_n hx hb d_N_countErrors_4 rfl (lv_at hl 0 rfl) ?_
    refine lv_iload_n hx hb d_N_countErrors_5 rfl (lv_at hl 2 rfl) ?_
    refine va_callv (va_runV (As := [.int w]) (rest := []) ⟨hx, hb, hml, hown, htB⟩ (c_N_lowerCounter l D h0 (a0, a1, a2, a3, a4, a5, a6, a7, a8, a9, a10, a11, a12, a13, a14) w) (cwV 1 htB g_N_74 rfl rfl rfl (by decide +kernel) ⟨Nat.le_of_ble_eq_true rfl, Nat.le_of_ble_eq_true rfl⟩) (preV hP hK hN (va_recv hK hP (ci := 0) (q0 := 0) rfl rfl)) rfl rfl hl.1 rfl (lv_room (Nat.le_of_ble_eq_true rfl)) d_N_countErrors_6 ⟨Nat.le_of_ble_eq_true rfl, Nat.le_of_ble_eq_true rfl⟩) hS (fun _ _ h => h) (fun _ h => h) (fun u t H locs ht hvm hw hP hz1 hk1 hS => ?_)
    rw [ht] at hP
    obtain ⟨b5_0, b5_1, b5_2, b5_3, b5_4, b5_5, b5_6, b5_7, b5_8, b5_9, b5_10, b5_11, b5_12, b5_13, b5_14⟩ := u
    have hP : va_P D cls_ [(h0, .inr (0, [.int b5_0, .int b5_1, .int b5_2, .int b5_3, .int b5_4, .int b5_5, .int b5_6, .int b5_7, .int b5_8, .int b5_9, .int b5_10, .int b5_11, .long b5_12, .int b5_13, .int b5_14]))] H := hP
    have hD : va_D (fun q : Nat => q = h0) [(h0, .inr (0, [.int b5_0, .int b5_1, .int b5_2, .int b5_3, .int b5_4, .int b5_5, .int b5_6, .int b5_7, .int b5_8, .int b5_9, .int b5_10, .int b5_11, .long b5_12, .int b5_13, .int b5_14]))] := nD
    have hc : f_N_countErrors (a0, a1, a2, a3, a4, a5, a6, a7, a8, a9, a10, a11, a12, a13, a14) k w = f_N_countErrors_k5 (b5_0, b5_1, b5_2, b5_3, b5_4, b5_5, b5_6, b5_7, b5_8, b5_9, b5_10, b5_11, b5_12, b5_13, b5_14) k w := (hc.trans (if_pos c_1)).trans (congrArg (fun z => f_N_countErrors_k5 z k w) hw.symm)
    refine lv_goto (tgt := 59) hx hb d_N_countErrors_9 (by decide) ?_
    exact W.vret hx hb hr (fun t ht hW => ⟨⟨(b5_0, b5_1, b5_2, b5_3, b5_4, b5_5, b5_6, b5_7, b5_8, b5_9, b5_10, b5_11, b5_12, b5_13, b5_14), rfl, (hc.trans (rfl)).symm, by show va_P _ _ _ t.heap; rw [ht]; exact hP⟩, hS.F ht⟩) hS.2.2 d_N_countErrors_59
def f_N_countGoodFrames (u : NS) (k : Int32) : NS := let a0 := u.1; let a1 := u.2.1; let a2 := u.2.2.1; let a3 := u.2.2.2.1; let a4 := u.2.2.2.2.1; let a5 := u.2.2.2.2.2.1; let a6 := u.2.2.2.2.2.2.1; let a7 := u.2.2.2.2.2.2.2.1; let a8 := u.2.2.2.2.2.2.2.2.1; let a9 := u.2.2.2.2.2.2.2.2.2.1; let a10 := u.2.2.2.2.2.2.2.2.2.2.1; let a11 := u.2.2.2.2.2.2.2.2.2.2.2.1; let a12 := u.2.2.2.2.2.2.2.2.2.2.2.2.1; let a13 := u.2.2.2.2.2.2.2.2.2.2.2.2.2.1; let a14 := u.2.2.2.2.2.2.2.2.2.2.2.2.2.2; if (f_X_isError k) = 0 then (if k = 0 then (if (if 100 < (a9 + 1) then 100 else (a9 + 1)) < 100 then (a0, a1, a2, a3, a4, a5, a6, a7, a8, (if 100 < (a9 + 1) then 100 else (a9 + 1)), a10, a11, a12, a13, a14) else (a0, a1, a2, a3, a4, a5, a6, a7, a8, (if 100 < (a9 + 1) then 100 else (a9 + 1)), 0, a11, a12, a13, a14)) else (if a9 < 100 then (a0, a1, a2, a3, a4, a5, a6, a7, a8, a9, a10, a11, a12, a13, a14) else (a0, a1, a2, a3, a4, a5, a6, a7, a8, a9, 0, a11, a12, a13, a14))) else (a0, a1, a2, a3, a4, a5, a6, a7, a8, 0, a10, a11, a12, a13, a14)
set_option maxHeartbeats 4000000 in
set_option maxRecDepth 100000 in
theorem c_N_countGoodFrames (l : Launch) (D : va_G) (h0 : Nat) (u : NS) (k : Int32) : Met l y_N_countGoodFrames (cw_N_countGoodFrames :: BIG) ((rmk 2 0 0)) (va_Pc [.ref h0, .int k] (fun U => va_P D cls_ [(h0, .inr (0, n_fs u))] U.heap ∧ va_K D cls_ [] U ∧ NK U)) (va_Qv (fun u2 : NS => u2 = f_N_countGoodFrames u k) (fun (u2 : NS) (t : State) => va_P D cls_ [(h0, .inr (0, n_fs u2))] t.heap) (fun q : Nat => q = h0)) 0 0 (fun q : Nat => q = h0) := by
  obtain ⟨a0, a1, a2, a3, a4, a5, a6, a7, a8, a9, a10, a11, a12, a13, a14⟩ := u
  refine Met.ofW (cc := b_N_countGoodFrames) (maxL := 2) (ret := none) (by decide) rfl ?_
  intro p e s m args below meth c s₁ B hml hv
  obtain ⟨rfl, hP, hK, hN⟩ := hv
  have hx := B.exec
  have hb := B.bytes
  have hr := B.returns
  have htB : ∀ w ∈ BIG, w.before _ s = true := fun w h => atoms_spec (ws := cw_N_countGoodFrames :: BIG) B.pre w (List.mem_cons_of_mem _ h)
  have hown : s.vm.findClass R_N = some m.cls := findClass_of_methodNamed B.named
  have hlocks := B.notSynchronized
  have hP : va_P D cls_ [(h0, .inr (0, [.int a0, .int a1, .int a2, .int a3, .int a4, .int a5, .int a6, .int a7, .int a8, .int a9, .int a10, .int a11, .long a12, .int a13, .int a14]))] s.heap := hP
  have hD : va_D (fun q : Nat => q = h0) [(h0, .inr (0, [.int a0, .int a1, .int a2, .int a3, .int a4, .int a5, .int a6, .int a7, .int a8, .int a9, .int a10, .int a11, .long a12, .int a13, .int a14]))] := nD
  have hS : va_S (fun q : Nat => q = h0) s.heap s.heap [] := va_S.rf
  have hl := lv_entry ([.ref h0, .int k]) (n := 2) (Nat.le_of_ble_eq_true rfl)
  rw [lg_entry_eq]
  generalize (lg_sl ([.ref h0, .int k]) ++ List.replicate (2 - (lg_sl ([.ref h0, .int k])).length) Slot.unset).toArray = ls at hl ⊢
  have hl : lv_has ls 2 [(0, .ref h0), (1, .int k)] := hl
  have hc : f_N_countGoodFrames (a0, a1, a2, a3, a4, a5, a6, a7, a8, a9, a10, a11, a12, a13, a14) k = f_N_countGoodFrames (a0, a1, a2, a3, a4, a5, a6, a7, a8, a9, a10, a11, a12, a13, a14) k := rfl
  refine lv_iload_n hx hb d_N_countGoodFrames_0 rfl (lv_at hl 1 rfl) ?_
  refine vp_callSi (va_Run.run (va_runSN (As := [.int k]) (rest := []) ⟨hx, hb, hml, hown, htB⟩ (c_X_isError l k) ⟨va_cnB 1 htB gd_X_isError rfl rfl rfl hN.n_N_32 (htB _ in_X) (by decide +kernel) ⟨Nat.le_of_ble_eq_true rfl, Nat.le_of_ble_eq_true rfl⟩, htB _ sta_X_isError, trivial⟩ (preN hN) rfl rfl hl.1 rfl (lv_room (Nat.le_of_ble_eq_true rfl)) d_N_countGoodFrames_1 ⟨Nat.le_of_ble_eq_true rfl, Nat.le_of_ble_eq_true rfl⟩)) (fun r_1 hr_1 => ?_)
  subst hr_1
  refine lv_if_eq (tgt := 15) hx hb d_N_countGoodFrames_4 (by decide) (fun c_2 => ?_) (fun c_2 => ?_)
  · refine lv_iload_n hx hb d_N_countGoodFrames_15 rfl (lv_at hl 1 rfl) ?_
    refine lv_if_ne (tgt := 34) hx hb d_N_countGoodFrames_16 (by decide) (fun c_3 => ?_) (fun c_3 => ?_)
    · refine lv_aload_n hx hb d_N_countGoodFrames_34 rfl (lv_at hl 0 rfl) ?_
      refine va_get (D := D) (ci := 0) (v := .int a9) (C := R_N) (T := F_N) (N := 15) hx hb htB uw_N hown hK hP 0 rfl rfl 9 (by decide) (htB _ fl_N_62) (fun _ h9 => h9) rfl d_N_countGoodFrames_35 ?_
      refine lv_bipush (v := 100) hx hb d_N_countGoodFrames_38 (by decide) ?_
      refine lv_icmp_lt (tgt := 48) hx hb d_N_countGoodFrames_40 (by decide) (fun c_4 => ?_) (fun c_4 => ?_)
      · exact W.vret hx hb hr (fun t ht hW => ⟨⟨(a0, a1, a2, a3, a4, a5, a6, a7, a8, a9, a10, a11, a12, a13, a14), rfl, (hc.trans ((if_pos c_2).trans ((if_neg c_3).trans (if_pos c_4)))).symm, by show va_P _ _ _ t.heap; rw [ht]; exact hP⟩, hS.F ht⟩) hS.2.2 d_N_countGoodFrames_48
      · refine lv_aload_n hx hb d_N_countGoodFrames_43 rfl (lv_at hl 0 rfl) ?_
        refine lv_iconst (v := 0) hx hb d_N_countGoodFrames_44 (by decide) ?_
        refine va_put (D := D) (ci := 0) (v := .int 0) (ty := .int) (C := R_N) (T := F_N) (N := 15) hx hb htB uw_N t_N t_N_ok n_N hown hK hP hD hS 0 rfl rfl 10 (by decide) (htB _ fl_N_71) (fun _ h9 => h9) rfl (t_N_ok 10 (by decide)) rfl rfl (Nat.le_of_ble_eq_true rfl) d_N_countGoodFrames_45 (fun H locs hP hD hS => ?_)
        have hP : va_P D cls_ [(h0, .inr (0, [.int a0, .int a1, .int a2, .int a3, .int a4, .int a5, .int a6, .int a7, .int a8, .int a9, .int 0, .int a11, .long a12, .int a13, .int a14]))] H := hP
        have hD : va_D (fun q : Nat => q = h0) [(h0, .inr (0, [.int a0, .int a1, .int a2, .int a3, .int a4, .int a5, .int a6, .int a7, .int a8, .int a9, .int 0, .int a11, .long a12, .int a13, .int a14]))] := hD
        exact W.vret hx hb hr (fun t ht hW => ⟨⟨(a0, a1, a2, a3, a4, a5, a6, a7, a8, a9, 0, a11, a12, a13, a14), rfl, (hc.trans ((if_pos c_2).trans ((if_neg c_3).trans (if_neg c_4)))).symm, by show va_P _ _ _ t.heap; rw [ht]; exact hP⟩, hS.F ht⟩) hS.2.2 d_N_countGoodFrames_48
    · refine lv_aload_n hx hb d_N_countGoodFrames_19 rfl (lv_at hl 0 rfl) ?_
      refine lv_aload_n hx hb d_N_countGoodFrames_20 rfl (lv_at hl 0 rfl) ?_
      refine va_get (D := D) (ci := 0) (v := .int a9) (C := R_N) (T := F_N) (N := 15) hx hb htB uw_N hown hK hP 0 rfl rfl 9 (by decide) (htB _ fl_N_62) (fun _ h9 => h9) rfl d_N_countGoodFrames_21 ?_
      refine lv_iconst (v := 1) hx hb d_N_countGoodFrames_24 (by decide) ?_
      refine lv_iadd hx hb d_N_countGoodFrames_25 ?_
      refine lv_bipush (v := 100) hx hb d_N_countGoodFrames_26 (by decide) ?_
      refine va_mmin hx hb (hml.trans hl.1.symm) hown (htB _ ml_N_65) (htB _ st_math_min) (htB _ in_math) (htB _ co_math_min) (Nat.le_of_ble_eq_true rfl) (Nat.le_of_ble_eq_true rfl) (Nat.le_of_ble_eq_true rfl) (Nat.le_of_ble_eq_true rfl) d_N_countGoodFrames_28 ?_
      refine va_put (D := D) (ci := 0) (v := .int (if 100 < (a9 + 1) then 100 else (a9 + 1))) (ty := .int) (C := R_N) (T := F_N) (N := 15) hx hb htB uw_N t_N t_N_ok n_N hown hK hP hD hS 0 rfl rfl 9 (by decide) (htB _ fl_N_62) (fun _ h9 => h9) rfl (t_N_ok 9 (by decide)) rfl rfl (Nat.le_of_ble_eq_true rfl) d_N_countGoodFrames_31 (fun H locs hP hD hS => ?_)
      have hP : va_P D cls_ [(h0, .inr (0, [.int a0, .int a1, .int a2, .int a3, .int a4, .int a5, .int a6, .int a7, .int a8, .int (if 100 < (a9 + 1) then 100 else (a9 + 1)), .int a10, .int a11, .long a12, .int a13, .int a14]))] H := hP
      have hD : va_D (fun q : Nat => q = h0) [(h0, .inr (0, [.int a0, .int a1, .int a2, .int a3, .int a4, .int a5, .int a6, .int a7, .int a8, .int (if 100 < (a9 + 1) then 100 else (a9 + 1)), .int a10, .int a11, .long a12, .int a13, .int a14]))] := hD
      refine lv_aload_n hx hb d_N_countGoodFrames_34 rfl (lv_at hl 0 rfl) ?_
      refine va_get (D := D) (ci := 0) (v := .int (if 100 < (a9 + 1) then 100 else (a9 + 1))) (C := R_N) (T := F_N) (N := 15) hx hb htB uw_N hown hK hP 0 rfl rfl 9 (by decide) (htB _ fl_N_62) (fun _ h9 => h9) rfl d_N_countGoodFrames_35 ?_
      refine lv_bipush (v := 100) hx hb d_N_countGoodFrames_38 (by decide) ?_
      refine lv_icmp_lt (tgt := 48) hx hb d_N_countGoodFrames_40 (by decide) (fun c_5 => ?_) (fun c_5 => ?_)
      · exact W.vret hx hb hr (fun t ht hW => ⟨⟨(a0, a1, a2, a3, a4, a5, a6, a7, a8, (if 100 < (a9 + 1) then 100 else (a9 + 1)), a10, a11, a12, a13, a14), rfl, (hc.trans ((if_pos c_2).trans ((if_pos c_3).trans (if_pos c_5)))).symm, by show va_P _ _ _ t.heap; rw [ht]; exact hP⟩, hS.F ht⟩) hS.2.2 d_N_countGoodFrames_48
      · refine lv_aload_n hx hb d_N_countGoodFrames_43 rfl (lv_at hl 0 rfl) ?_
        refine lv_iconst (v := 0) hx hb d_N_countGoodFrames_44 (by decide) ?_
        refine va_put (D := D) (ci := 0) (v := .int 0) (ty := .int) (C := R_N) (T := F_N) (N := 15) hx hb htB uw_N t_N t_N_ok n_N hown hK hP hD hS 0 rfl rfl 10 (by decide) (htB _ fl_N_71) (fun _ h9 => h9) rfl (t_N_ok 10 (by decide)) rfl rfl (Nat.le_of_ble_eq_true rfl) d_N_countGoodFrames_45 (fun H locs hP hD hS => ?_)
        have hP : va_P D cls_ [(h0, .inr (0, [.int a0, .int a1, .int a2, .int a3, .int a4, .int a5, .int a6, .int a7, .int a8, .int (if 100 < (a9 + 1) then 100 else (a9 + 1)), .int 0, .int a11, .long a12, .int a13, .int a14]))] H := hP
        have hD : va_D (fun q : Nat => q = h0) [(h0, .inr (0, [.int a0, .int a1, .int a2, .int a3, .int a4, .int a5, .int a6, .int a7, .int a8, .int (if 100 < (a9 + 1) then 100 else (a9 + 1)), .int 0, .int a11, .long a12, .int a13, .int a14]))] := hD
        exact W.vret hx hb hr (fun t ht hW => ⟨⟨(a0, a1, a2, a3, a4, a5, a6, a7, a8, (if 100 < (a9 + 1) then 100 else (a9 + 1)), 0, a11, a12, a13, a14), rfl, (hc.trans ((if_pos c_2).trans ((if_pos c_3).trans (if_neg c_5)))).symm, by show va_P _ _ _ t.heap; rw [ht]; exact hP⟩, hS.F ht⟩) hS.2.2 d_N_countGoodFrames_48
  · refine lv_aload_n hx hb d_N_countGoodFrames_7 rfl (lv_at hl 0 rfl) ?_
    refine lv_iconst (v := 0) hx hb d_N_countGoodFrames_8 (by decide) ?_
    refine va_put (D := D) (ci := 0) (v := .int 0) (ty := .int) (C := R_N) (T := F_N) (N := 15) hx hb htB uw_N t_N t_N_ok n_N hown hK hP hD hS 0 rfl rfl 9 (by decide) (htB _ fl_N_62) (fun _ h9 => h9) rfl (t_N_ok 9 (by decide)) rfl rfl (Nat.le_of_ble_eq_true rfl) d_N_countGoodFrames_9 (fun H locs hP hD hS => ?_)
    have hP : va_P D cls_ [(h0, .inr (0, [.int a0, .int a1, .int a2, .int a3, .int a4, .int a5, .int a6, .int a7, .int a8, .int 0, .int a10, .int a11, .long a12, .int a13, .int a14]))] H := hP
    have hD : va_D (fun q : Nat => q = h0) [(h0, .inr (0, [.int a0, .int a1, .int a2, .int a3, .int a4, .int a5, .int a6, .int a7, .int a8, .int 0, .int a10, .int a11, .long a12, .int a13, .int a14]))] := hD
    refine lv_goto (tgt := 34) hx hb d_N_countGoodFrames_12 (by decide) ?_
    refine lv_aload_n hx hb d_N_countGoodFrames_34 rfl (lv_at hl 0 rfl) ?_
    refine va_get (D := D) (ci := 0) (v := .int 0) (C := R_N) (T := F_N) (N := 15) hx hb htB uw_N hown hK hP 0 rfl rfl 9 (by decide) (htB _ fl_N_62) (fun _ h9 => h9) rfl d_N_countGoodFrames_35 ?_
    refine lv_bipush (v := 100) hx hb d_N_countGoodFrames_38 (by decide) ?_
    refine lv_icmp_lt (tgt := 48) hx hb d_N_countGoodFrames_40 (by decide) (fun _ => ?_) (fun c9 => absurd (by decide) c9)
    exact W.vret hx hb hr (fun t ht hW => ⟨⟨(a0, a1, a2, a3, a4, a5, a6, a7, a8, 0, a10, a11, a12, a13, a14), rfl, (hc.trans (if_neg c_2)).symm, by show va_P _ _ _ t.heap; rw [ht]; exact hP⟩, hS.F ht⟩) hS.2.2 d_N_countGoodFrames_48
def f_N_changeFlag (u : NS) (k : Int32) : NS := let a0 := u.1; let a1 := u.2.1; let a2 := u.2.2.1; let a3 := u.2.2.2.1; let a4 := u.2.2.2.2.1; let a5 := u.2.2.2.2.2.1; let a6 := u.2.2.2.2.2.2.1; let a7 := u.2.2.2.2.2.2.2.1; let a8 := u.2.2.2.2.2.2.2.2.1; let a9 := u.2.2.2.2.2.2.2.2.2.1; let a10 := u.2.2.2.2.2.2.2.2.2.2.1; let a11 := u.2.2.2.2.2.2.2.2.2.2.2.1; let a12 := u.2.2.2.2.2.2.2.2.2.2.2.2.1; let a13 := u.2.2.2.2.2.2.2.2.2.2.2.2.2.1; let a14 := u.2.2.2.2.2.2.2.2.2.2.2.2.2.2; if k = 0 then (a0, a1, a2, 0, a4, a5, a6, a7, a8, a9, a10, a11, a12, a13, a14) else (if (f_X_isError k) = 0 then (if a3 ≤ 0 then (a0, a1, a2, a3, a4, a5, a6, a7, a8, a9, a10, a11, a12, a13, a14) else (if k = 8 then (a0, a1, a2, (if 10000 < (a3 + 8) then 10000 else (a3 + 8)), a4, a5, a6, a7, a8, a9, a10, a11, a12, a13, a14) else (a0, a1, a2, (if 10000 < (a3 + 1) then 10000 else (a3 + 1)), a4, a5, a6, a7, a8, a9, a10, a11, a12, a13, a14))) else (a0, a1, a2, 6, a4, a5, a6, a7, a8, a9, a10, a11, a12, a13, a14))
set_option maxHeartbeats 4000000 in
set_option maxRecDepth 100000 in
theorem c_N_changeFlag (l : Launch) (D : va_G) (h0 : Nat) (u : NS) (k : Int32) : Met l y_N_changeFlag (cw_N_changeFlag :: BIG) ((rmk 2 0 0)) (va_Pc [.ref h0, .int k] (fun U => va_P D cls_ [(h0, .inr (0, n_fs u))] U.heap ∧ va_K D cls_ [] U ∧ NK U)) (va_Qv (fun u2 : NS => u2 = f_N_changeFlag u k) (fun (u2 : NS) (t : State) => va_P D cls_ [(h0, .inr (0, n_fs u2))] t.heap) (fun q : Nat => q = h0)) 0 0 (fun q : Nat => q = h0) := by
  obtain ⟨a0, a1, a2, a3, a4, a5, a6, a7, a8, a9, a10, a11, a12, a13, a14⟩ := u
  refine Met.ofW (cc := b_N_changeFlag) (maxL := 3) (ret := none) (by decide) rfl ?_
  intro p e s m args below meth c s₁ B hml hv
  obtain ⟨rfl, hP, hK, hN⟩ := hv
  have hx := B.exec
  have hb := B.bytes
  have hr := B.returns
  have htB : ∀ w ∈ BIG, w.before _ s = true := fun w h => atoms_spec (ws := cw_N_changeFlag :: BIG) B.pre w (List.mem_cons_of_mem _ h)
  have hown : s.vm.findClass R_N = some m.cls := findClass_of_methodNamed B.named
  have hlocks := B.notSynchronized
  have hP : va_P D cls_ [(h0, .inr (0, [.int a0, .int a1, .int a2, .int a3, .int a4, .int a5, .int a6, .int a7, .int a8, .int a9, .int a10, .int a11, .long a12, .int a13, .int a14]))] s.heap := hP
  have hD : va_D (fun q : Nat => q = h0) [(h0, .inr (0, [.int a0, .int a1, .int a2, .int a3, .int a4, .int a5, .int a6, .int a7, .int a8, .int a9, .int a10, .int a11, .long a12, .int a13, .int a14]))] := nD
  have hS : va_S (fun q : Nat => q = h0) s.heap s.heap [] := va_S.rf
  have hl := lv_entry ([.ref h0, .int k]) (n := 3) (Nat.le_of_ble_eq_true rfl)
  rw [lg_entry_eq]
  generalize (lg_sl ([.ref h0, .int k]) ++ List.replicate (3 - (lg_sl ([.ref h0, .int k])).length) Slot.unset).toArray = ls at hl ⊢
  have hl : lv_has ls 3 [(0, .ref h0), (1, .int k)] := hl
  have hc : f_N_changeFlag (a0, a1, a2, a3, a4, a5, a6, a7, a8, a9, a10, a11, a12, a13, a14) k = f_N_changeFlag (a0, a1, a2, a3, a4, a5, a6, a7, a8, a9, a10, a11, a12, a13, a14) k := rfl
  refine lv_iload_n hx hb d_N_changeFlag_0 rfl (lv_at hl 1 rfl) ?_
  refine lv_if_ne (tgt := 12) hx hb d_N_changeFlag_1 (by decide) (fun c_1 => ?_) (fun c_1 => ?_)
  · refine lv_iload_n hx hb d_N_changeFlag_12 rfl (lv_at hl 1 rfl) ?_
    refine vp_callSi (va_Run.run (va_runSN (As := [.int k]) (rest := []) ⟨hx, hb, hml, hown, htB⟩ (c_X_isError l k) ⟨va_cnB 1 htB gd_X_isError rfl rfl rfl hN.n_N_32 (htB _ in_X) (by decide +kernel) ⟨Nat.le_of_ble_eq_true rfl, Nat.le_of_ble_eq_true rfl⟩, htB _ sta_X_isError, trivial⟩ (preN hN) rfl rfl hl.1 rfl (lv_room (Nat.le_of_ble_eq_true rfl)) d_N_changeFlag_13 ⟨Nat.le_of_ble_eq_true rfl, Nat.le_of_ble_eq_true rfl⟩)) (fun r_2 hr_2 => ?_)
    subst hr_2
    refine lv_if_eq (tgt := 28) hx hb d_N_changeFlag_16 (by decide) (fun c_3 => ?_) (fun c_3 => ?_)
    · refine lv_aload_n hx hb d_N_changeFlag_28 rfl (lv_at hl 0 rfl) ?_
      refine va_get (D := D) (ci := 0) (v := .int a3) (C := R_N) (T := F_N) (N := 15) hx hb htB uw_N hown hK hP 0 rfl rfl 3 (by decide) (htB _ fl_N_91) (fun _ h9 => h9) rfl d_N_changeFlag_29 ?_
      refine lv_if_le (tgt := 64) hx hb d_N_changeFlag_32 (by decide) (fun c_4 => ?_) (fun c_4 => ?_)
      · exact W.vret hx hb hr (fun t ht hW => ⟨⟨(a0, a1, a2, a3, a4, a5, a6, a7, a8, a9, a10, a11, a12, a13, a14), rfl, (hc.trans ((if_neg c_1).trans ((if_pos c_3).trans (if_pos c_4)))).symm, by show va_P _ _ _ t.heap; rw [ht]; exact hP⟩, hS.F ht⟩) hS.2.2 d_N_changeFlag_64
      · refine lv_iload_n hx hb d_N_changeFlag_35 rfl (lv_at hl 1 rfl) ?_
        refine lv_bipush (v := 8) hx hb d_N_changeFlag_36 (by decide) ?_
        refine lv_icmp_ne (tgt := 46) hx hb d_N_changeFlag_38 (by decide) (fun c_5 => ?_) (fun c_5 => ?_)
        · refine lv_iconst (v := 1) hx hb d_N_changeFlag_46 (by decide) ?_
          refine lv_istore_n (lv' := [(2, .int 1), (0, .ref h0), (1, .int k)]) hx hb d_N_changeFlag_47 rfl hl (by decide) rfl (fun ls hl => ?_)
          refine lv_aload_n hx hb d_N_changeFlag_48 rfl (lv_at hl 1 rfl) ?_
          refine lv_aload_n hx hb d_N_changeFlag_49 rfl (lv_at hl 1 rfl) ?_
          refine va_get (D := D) (ci := 0) (v := .int a3) (C := R_N) (T := F_N) (N := 15) hx hb htB uw_N hown hK hP 0 rfl rfl 3 (by decide) (htB _ fl_N_91) (fun _ h9 => h9) rfl d_N_changeFlag_50 ?_
          refine lv_iload_n hx hb d_N_changeFlag_53 rfl (lv_at hl 0 rfl) ?_
          refine lv_iadd hx hb d_N_changeFlag_54 ?_
          refine lv_sipush (v := 10000) hx hb d_N_changeFlag_55 (by decide) ?_
          refine va_mmin hx hb (hml.trans hl.1.symm) hown (htB _ ml_N_65) (htB _ st_math_min) (htB _ in_math) (htB _ co_math_min) (Nat.le_of_ble_eq_true rfl) (Nat.le_of_ble_eq_true rfl) (Nat.le_of_ble_eq_true rfl) (Nat.le_of_ble_eq_true rfl) d_N_changeFlag_58 ?_
          refine va_put (D := D) (ci := 0) (v := .int (if 10000 < (a3 + 1) then 10000 else (a3 + 1))) (ty := .int) (C := R_N) (T := F_N) (N := 15) hx hb htB uw_N t_N t_N_ok n_N hown hK hP hD hS 0 rfl rfl 3 (by decide) (htB _ fl_N_91) (fun _ h9 => h9) rfl (t_N_ok 3 (by decide)) rfl rfl (Nat.le_of_ble_eq_true rfl) d_N_changeFlag_61 (fun H locs hP hD hS => ?_)
          have hP : va_P D cls_ [(h0, .inr (0, [.int a0, .int a1, .int a2, .int (if 10000 < (a3 + 1) then 10000 else (a3 + 1)), .int a4, .int a5, .int a6, .int a7, .int a8, .int a9, .int a10, .int a11, .long a12, .int a13, .int a14]))] H := hP
          have hD : va_D (fun q : Nat => q = h0) [(h0, .inr (0, [.int a0, .int a1, .int a2, .int (if 10000 < (a3 + 1) then 10000 else (a3 + 1)), .int a4, .int a5, .int a6, .int a7, .int a8, .int a9, .int a10, .int a11, .long a12, .int a13, .int a14]))] := hD
          exact W.vret hx hb hr (fun t ht hW => ⟨⟨(a0, a1, a2, (if 10000 < (a3 + 1) then 10000 else (a3 + 1)), a4, a5, a6, a7, a8, a9, a10, a11, a12, a13, a14), rfl, (hc.trans ((if_neg c_1).trans ((if_pos c_3).trans ((if_neg c_4).trans (if_neg c_5))))).symm, by show va_P _ _ _ t.heap; rw [ht]; exact hP⟩, hS.F ht⟩) hS.2.2 d_N_changeFlag_64
        · refine lv_bipush (v := 8) hx hb d_N_changeFlag_41 (by decide) ?_
          refine lv_goto (tgt := 47) hx hb d_N_changeFlag_43 (by decide) ?_
          refine lv_istore_n (lv' := [(2, .int 8), (0, .ref h0), (1, .int k)]) hx hb d_N_changeFlag_47 rfl hl (by decide) rfl (fun ls hl => ?_)
          refine lv_aload_n hx hb d_N_changeFlag_48 rfl (lv_at hl 1 rfl) ?_
          refine lv_aload_n hx hb d_N_changeFlag_49 rfl (lv_at hl 1 rfl) ?_
          refine va_get (D := D) (ci := 0) (v := .int a3) (C := R_N) (T := F_N) (N := 15) hx hb htB uw_N hown hK hP 0 rfl rfl 3 (by decide) (htB _ fl_N_91) (fun _ h9 => h9) rfl d_N_changeFlag_50 ?_
          refine lv_iload_n hx hb d_N_changeFlag_53 rfl (lv_at hl 0 rfl) ?_
          refine lv_iadd hx hb d_N_changeFlag_54 ?_
          refine lv_sipush (v := 10000) hx hb d_N_changeFlag_55 (by decide) ?_
          refine va_mmin hx hb (hml.trans hl.1.symm) hown (htB _ ml_N_65) (htB _ st_math_min) (htB _ in_math) (htB _ co_math_min) (Nat.le_of_ble_eq_true rfl) (Nat.le_of_ble_eq_true rfl) (Nat.le_of_ble_eq_true rfl) (Nat.le_of_ble_eq_true rfl) d_N_changeFlag_58 ?_
          refine va_put (D := D) (ci := 0) (v := .int (if 10000 < (a3 + 8) then 10000 else (a3 + 8))) (ty := .int) (C := R_N) (T := F_N) (N := 15) hx hb htB uw_N t_N t_N_ok n_N hown hK hP hD hS 0 rfl rfl 3 (by decide) (htB _ fl_N_91) (fun _ h9 => h9) rfl (t_N_ok 3 (by decide)) rfl rfl (Nat.le_of_ble_eq_true rfl) d_N_changeFlag_61 (fun H locs hP hD hS => ?_)
          have hP : va_P D cls_ [(h0, .inr (0, [.int a0, .int a1, .int a2, .int (if 10000 < (a3 + 8) then 10000 else (a3 + 8)), .int a4, .int a5, .int a6, .int a7, .int a8, .int a9, .int a10, .int a11, .long a12, .int a13, .int a14]))] H := hP
          have hD : va_D (fun q : Nat => q = h0) [(h0, .inr (0, [.int a0, .int a1, .int a2, .int (if 10000 < (a3 + 8) then 10000 else (a3 + 8)), .int a4, .int a5, .int a6, .int a7, .int a8, .int a9, .int a10, .int a11, .long a12, .int a13, .int a14]))] := hD
          exact W.vret hx hb hr (fun t ht hW => ⟨⟨(a0, a1, a2, (if 10000 < (a3 + 8) then 10000 else (a3 + 8)), a4, a5, a6, a7, a8, a9, a10, a11, a12, a13, a14), rfl, (hc.trans ((if_neg c_1).trans ((if_pos c_3).trans ((if_neg c_4).trans (if_pos c_5))))).symm, by show va_P _ _ _ t.heap; rw [ht]; exact hP⟩, hS.F ht⟩) hS.2.2 d_N_changeFlag_64
    · refine lv_aload_n hx hb d_N_changeFlag_19 rfl (lv_at hl 0 rfl) ?_
      refine lv_bipush (v := 6) hx hb d_N_changeFlag_20 (by decide) ?_
      refine va_put (D := D) (ci := 0) (v := .int 6) (ty := .int) (C := R_N) (T := F_N) (N := 15) hx hb htB uw_N t_N t_N_ok n_N hown hK hP hD hS 0 rfl rfl 3 (by decide) (htB _ fl_N_91) (fun _ h9 => h9) rfl (t_N_ok 3 (by decide)) rfl rfl (Nat.le_of_ble_eq_true rfl) d_N_changeFlag_22 (fun H locs hP hD hS => ?_)
      have hP : va_P D cls_ [(h0, .inr (0, [.int a0, .int a1, .int a2, .int 6, .int a4, .int a5, .int a6, .int a7, .int a8, .int a9, .int a10, .int a11, .long a12, .int a13, .int a14]))] H := hP
      have hD : va_D (fun q : Nat => q = h0) [(h0, .inr (0, [.int a0, .int a1, .int a2, .int 6, .int a4, .int a5, .int a6, .int a7, .int a8, .int a9, .int a10, .int a11, .long a12, .int a13, .int a14]))] := hD
      refine lv_goto (tgt := 64) hx hb d_N_changeFlag_25 (by decide) ?_
      exact W.vret hx hb hr (fun t ht hW => ⟨⟨(a0, a1, a2, 6, a4, a5, a6, a7, a8, a9, a10, a11, a12, a13, a14), rfl, (hc.trans ((if_neg c_1).trans (if_neg c_3))).symm, by show va_P _ _ _ t.heap; rw [ht]; exact hP⟩, hS.F ht⟩) hS.2.2 d_N_changeFlag_64
  · refine lv_aload_n hx hb d_N_changeFlag_4 rfl (lv_at hl 0 rfl) ?_
    refine lv_iconst (v := 0) hx hb d_N_changeFlag_5 (by decide) ?_
    refine va_put (D := D) (ci := 0) (v := .int 0) (ty := .int) (C := R_N) (T := F_N) (N := 15) hx hb htB uw_N t_N t_N_ok n_N hown hK hP hD hS 0 rfl rfl 3 (by decide) (htB _ fl_N_91) (fun _ h9 => h9) rfl (t_N_ok 3 (by decide)) rfl rfl (Nat.le_of_ble_eq_true rfl) d_N_changeFlag_6 (fun H locs hP hD hS => ?_)
    have hP : va_P D cls_ [(h0, .inr (0, [.int a0, .int a1, .int a2, .int 0, .int a4, .int a5, .int a6, .int a7, .int a8, .int a9, .int a10, .int a11, .long a12, .int a13, .int a14]))] H := hP
    have hD : va_D (fun q : Nat => q = h0) [(h0, .inr (0, [.int a0, .int a1, .int a2, .int 0, .int a4, .int a5, .int a6, .int a7, .int a8, .int a9, .int a10, .int a11, .long a12, .int a13, .int a14]))] := hD
    refine lv_goto (tgt := 64) hx hb d_N_changeFlag_9 (by decide) ?_
    exact W.vret hx hb hr (fun t ht hW => ⟨⟨(a0, a1, a2, 0, a4, a5, a6, a7, a8, a9, a10, a11, a12, a13, a14), rfl, (hc.trans (if_pos c_1)).symm, by show va_P _ _ _ t.heap; rw [ht]; exact hP⟩, hS.F ht⟩) hS.2.2 d_N_changeFlag_64
def f_N_mayComeBack (u : NS) (tt : Int64) : Int32 × NS := let a0 := u.1; let a1 := u.2.1; let a2 := u.2.2.1; let a3 := u.2.2.2.1; let a4 := u.2.2.2.2.1; let a5 := u.2.2.2.2.2.1; let a6 := u.2.2.2.2.2.2.1; let a7 := u.2.2.2.2.2.2.2.1; let a8 := u.2.2.2.2.2.2.2.2.1; let a9 := u.2.2.2.2.2.2.2.2.2.1; let a10 := u.2.2.2.2.2.2.2.2.2.2.1; let a11 := u.2.2.2.2.2.2.2.2.2.2.2.1; let a12 := u.2.2.2.2.2.2.2.2.2.2.2.2.1; let a13 := u.2.2.2.2.2.2.2.2.2.2.2.2.2.1; let a14 := u.2.2.2.2.2.2.2.2.2.2.2.2.2.2; if a2 = 0 then (1, (a0, a1, a2, a3, a4, a5, a6, a7, a8, a9, a10, a11, a12, a13, a14)) else (if a11 = 0 then (0, (a0, a1, a2, a3, a4, a5, a6, a7, a8, a9, a10, 1, tt, a13, a14)) else (if (lg_cmp (tt - a12) (f_N_delay (a0, a1, a2, a3, a4, a5, a6, a7, a8, a9, a10, a11, a12, a13, a14))) < 0 then (a13, (a0, a1, a2, a3, a4, a5, a6, a7, a8, a9, a10, a11, a12, a13, a14)) else (1, (a0, a1, a2, a3, a4, a5, a6, a7, a8, a9, a10, a11, a12, 1, a14))))
set_option maxHeartbeats 4000000 in
set_option maxRecDepth 100000 in
theorem c_N_mayComeBack (l : Launch) (D : va_G) (h0 : Nat) (u : NS) (tt : Int64) (hb_a13 : u.2.2.2.2.2.2.2.2.2.2.2.2.2.1 = 0 ∨ u.2.2.2.2.2.2.2.2.2.2.2.2.2.1 = 1) : Met l y_N_mayComeBack (cw_N_mayComeBack :: BIG) ((rmk 1 0 0)) (va_Pc [.ref h0, .long tt] (fun U => va_P D cls_ [(h0, .inr (0, n_fs u))] U.heap ∧ va_K D cls_ [] U ∧ NK U)) (va_Qi (fun (r : Int32) (u2 : NS) => r = (f_N_mayComeBack u tt).1 ∧ u2 = (f_N_mayComeBack u tt).2) (fun (u2 : NS) (t : State) => va_P D cls_ [(h0, .inr (0, n_fs u2))] t.heap) (fun q : Nat => q = h0)) 0 0 (fun q : Nat => q = h0) := by
  obtain ⟨a0, a1, a2, a3, a4, a5, a6, a7, a8, a9, a10, a11, a12, a13, a14⟩ := u
  have hb_a13 : a13 = 0 ∨ a13 = 1 := hb_a13
  refine Met.ofW (cc := b_N_mayComeBack) (maxL := 3) (ret := (some .boolean)) (by decide) rfl ?_
  intro p e s m args below meth c s₁ B hml hv
  obtain ⟨rfl, hP, hK, hN⟩ := hv
  have hx := B.exec
  have hb := B.bytes
  have hr := B.returns
  have htB : ∀ w ∈ BIG, w.before _ s = true := fun w h => atoms_spec (ws := cw_N_mayComeBack :: BIG) B.pre w (List.mem_cons_of_mem _ h)
  have hown : s.vm.findClass R_N = some m.cls := findClass_of_methodNamed B.named
  have hlocks := B.notSynchronized
  have hP : va_P D cls_ [(h0, .inr (0, [.int a0, .int a1, .int a2, .int a3, .int a4, .int a5, .int a6, .int a7, .int a8, .int a9, .int a10, .int a11, .long a12, .int a13, .int a14]))] s.heap := hP
  have hD : va_D (fun q : Nat => q = h0) [(h0, .inr (0, [.int a0, .int a1, .int a2, .int a3, .int a4, .int a5, .int a6, .int a7, .int a8, .int a9, .int a10, .int a11, .long a12, .int a13, .int a14]))] := nD
  have hS : va_S (fun q : Nat => q = h0) s.heap s.heap [] := va_S.rf
  have hl := lv_entry ([.ref h0, .long tt]) (n := 3) (Nat.le_of_ble_eq_true rfl)
  rw [lg_entry_eq]
  generalize (lg_sl ([.ref h0, .long tt]) ++ List.replicate (3 - (lg_sl ([.ref h0, .long tt])).length) Slot.unset).toArray = ls at hl ⊢
  have hl : lv_has ls 3 [(0, .ref h0), (1, .long tt)] := hl
  have hc : f_N_mayComeBack (a0, a1, a2, a3, a4, a5, a6, a7, a8, a9, a10, a11, a12, a13, a14) tt = f_N_mayComeBack (a0, a1, a2, a3, a4, a5, a6, a7, a8, a9, a10, a11, a12, a13, a14) tt := rfl
  refine lv_aload_n hx hb d_N_mayComeBack_0 rfl (lv_at hl 0 rfl) ?_
  refine va_get (D := D) (ci := 0) (v := .int a2) (C := R_N) (T := F_N) (N := 15) hx hb htB uw_N hown hK hP 0 rfl rfl 2 (by decide) (htB _ fl_N_9) (fun _ h9 => h9) rfl d_N_mayComeBack_1 ?_
  refine lv_if_ne (tgt := 9) hx hb d_N_mayComeBack_4 (by decide) (fun c_1 => ?_) (fun c_1 => ?_)
  · refine lv_aload_n hx hb d_N_mayComeBack_9 rfl (lv_at hl 0 rfl) ?_
    refine va_get (D := D) (ci := 0) (v := .int a11) (C := R_N) (T := F_N) (N := 15) hx hb htB uw_N hown hK hP 0 rfl rfl 11 (by decide) (htB _ fl_N_94) (fun _ h9 => h9) rfl d_N_mayComeBack_10 ?_
    refine lv_if_ne (tgt := 28) hx hb d_N_mayComeBack_13 (by decide) (fun c_2 => ?_) (fun c_2 => ?_)
    · refine lv_lload_n hx hb d_N_mayComeBack_28 rfl (lv_at hl 1 rfl) ?_
      refine lv_aload_n hx hb d_N_mayComeBack_29 rfl (lv_at hl 0 rfl) ?_
      refine va_get (D := D) (ci := 0) (v := .long a12) (C := R_N) (T := F_N) (N := 15) hx hb htB uw_N hown hK hP 0 rfl rfl 12 (by decide) (htB _ fl_N_103) (fun _ h9 => h9) rfl d_N_mayComeBack_30 ?_
      refine lv_lsub hx hb d_N_mayComeBack_33 ?_
      refine lv_aload_n hx hb d_N_mayComeBack_34 rfl (lv_at hl 0 rfl) ?_
      refine vp_callSl (va_Run.run (va_runV (As := []) (rest := [.long (tt - a12)]) ⟨hx, hb, hml, hown, htB⟩ (c_N_delay l D h0 (a0, a1, a2, a3, a4, a5, a6, a7, a8, a9, a10, a11, a12, a13, a14)) (cwV 0 htB g_N_107 rfl rfl rfl (by decide +kernel) ⟨Nat.le_of_ble_eq_true rfl, Nat.le_of_ble_eq_true rfl⟩) (preV hP hK hN (va_recv hK hP (ci := 0) (q0 := 0) rfl rfl)) rfl rfl hl.1 rfl (lv_room (Nat.le_of_ble_eq_true rfl)) d_N_mayComeBack_35 ⟨Nat.le_of_ble_eq_true rfl, Nat.le_of_ble_eq_true rfl⟩)) (fun r_3 hr_3 => ?_)
      subst hr_3
      refine W.lcmp hx hb d_N_mayComeBack_38 ?_
      refine lv_if_lt (tgt := 47) hx hb d_N_mayComeBack_39 (by decide) (fun c_4 => ?_) (fun c_4 => ?_)
      · refine lv_aload_n hx hb d_N_mayComeBack_47 rfl (lv_at hl 0 rfl) ?_
        refine va_get (D := D) (ci := 0) (v := .int a13) (C := R_N) (T := F_N) (N := 15) hx hb htB uw_N hown hK hP 0 rfl rfl 13 (by decide) (htB _ fl_N_97) (fun _ h9 => h9) rfl d_N_mayComeBack_48 ?_
        have he : f_N_mayComeBack (a0, a1, a2, a3, a4, a5, a6, a7, a8, a9, a10, a11, a12, a13, a14) tt = (a13, (a0, a1, a2, a3, a4, a5, a6, a7, a8, a9, a10, a11, a12, a13, a14)) := hc.trans ((if_neg c_1).trans ((if_neg c_2).trans (if_pos c_4)))
        exact W.zret (ty := .boolean) hx hb hr (nbp hb_a13) (fun t ht hW => ⟨⟨a13, (a0, a1, a2, a3, a4, a5, a6, a7, a8, a9, a10, a11, a12, a13, a14), rfl, ⟨(congrArg Prod.fst he).symm, (congrArg Prod.snd he).symm⟩, by show va_P _ _ _ t.heap; rw [ht]; exact hP⟩, hS.F ht⟩) hS.2.2 d_N_mayComeBack_51
      · refine lv_aload_n hx hb d_N_mayComeBack_42 rfl (lv_at hl 0 rfl) ?_
        refine lv_iconst (v := 1) hx hb d_N_mayComeBack_43 (by decide) ?_
        refine va_put (D := D) (ci := 0) (v := .int 1) (ty := .boolean) (C := R_N) (T := F_N) (N := 15) hx hb htB uw_N t_N t_N_ok n_N hown hK hP hD hS 0 rfl rfl 13 (by decide) (htB _ fl_N_97) (fun _ h9 => h9) rfl (t_N_ok 13 (by decide)) nb1 fb1 (Nat.le_of_ble_eq_true rfl) d_N_mayComeBack_44 (fun H locs hP hD hS => ?_)
        have hP : va_P D cls_ [(h0, .inr (0, [.int a0, .int a1, .int a2, .int a3, .int a4, .int a5, .int a6, .int a7, .int a8, .int a9, .int a10, .int a11, .long a12, .int 1, .int a14]))] H := hP
        have hD : va_D (fun q : Nat => q = h0) [(h0, .inr (0, [.int a0, .int a1, .int a2, .int a3, .int a4, .int a5, .int a6, .int a7, .int a8, .int a9, .int a10, .int a11, .long a12, .int 1, .int a14]))] := hD
        refine lv_aload_n hx hb d_N_mayComeBack_47 rfl (lv_at hl 0 rfl) ?_
        refine va_get (D := D) (ci := 0) (v := .int 1) (C := R_N) (T := F_N) (N := 15) hx hb htB uw_N hown hK hP 0 rfl rfl 13 (by decide) (htB _ fl_N_97) (fun _ h9 => h9) rfl d_N_mayComeBack_48 ?_
        have he : f_N_mayComeBack (a0, a1, a2, a3, a4, a5, a6, a7, a8, a9, a10, a11, a12, a13, a14) tt = (1, (a0, a1, a2, a3, a4, a5, a6, a7, a8, a9, a10, a11, a12, 1, a14)) := hc.trans ((if_neg c_1).trans ((if_neg c_2).trans (if_neg c_4)))
        exact W.zret (ty := .boolean) hx hb hr nb1 (fun t ht hW => ⟨⟨1, (a0, a1, a2, a3, a4, a5, a6, a7, a8, a9, a10, a11, a12, 1, a14), rfl, ⟨(congrArg Prod.fst he).symm, (congrArg Prod.snd he).symm⟩, by show va_P _ _ _ t.heap; rw [ht]; exact hP⟩, hS.F ht⟩) hS.2.2 d_N_mayComeBack_51
    · refine lv_aload_n hx hb d_N_mayComeBack_16 rfl (lv_at hl 0 rfl) ?_
      refine lv_iconst (v := 1) hx hb d_N_mayComeBack_17 (by decide) ?_
      refine va_put (D := D) (ci := 0) (v := .int 1) (ty := .boolean) (C := R_N) (T := F_N) (N := 15) hx hb htB uw_N t_N t_N_ok n_N hown hK hP hD hS 0 rfl rfl 11 (by decide) (htB _ fl_N_94) (fun _ h9 => h9) rfl (t_N_ok 11 (by decide)) nb1 fb1 (Nat.le_of_ble_eq_true rfl) d_N_mayComeBack_18 (fun H locs hP hD hS => ?_)
      have hP : va_P D cls_ [(h0, .inr (0, [.int a0, .int a1, .int a2, .int a3, .int a4, .int a5, .int a6, .int a7, .int a8, .int a9, .int a10, .int 1, .long a12, .int a13, .int a14]))] H := hP
      have hD : va_D (fun q : Nat => q = h0) [(h0, .inr (0, [.int a0, .int a1, .int a2, .int a3, .int a4, .int a5, .int a6, .int a7, .int a8, .int a9, .int a10, .int 1, .long a12, .int a13, .int a14]))] := hD
      refine lv_aload_n hx hb d_N_mayComeBack_21 rfl (lv_at hl 0 rfl) ?_
      refine lv_lload_n hx hb d_N_mayComeBack_22 rfl (lv_at hl 1 rfl) ?_
      refine va_put (D := D) (ci := 0) (v := .long tt) (ty := .long) (C := R_N) (T := F_N) (N := 15) hx hb htB uw_N t_N t_N_ok n_N hown hK hP hD hS 0 rfl rfl 12 (by decide) (htB _ fl_N_103) (fun _ h9 => h9) rfl (t_N_ok 12 (by decide)) rfl rfl (Nat.le_of_ble_eq_true rfl) d_N_mayComeBack_23 (fun H locs hP hD hS => ?_)
      have hP : va_P D cls_ [(h0, .inr (0, [.int a0, .int a1, .int a2, .int a3, .int a4, .int a5, .int a6, .int a7, .int a8, .int a9, .int a10, .int 1, .long tt, .int a13, .int a14]))] H := hP
      have hD : va_D (fun q : Nat => q = h0) [(h0, .inr (0, [.int a0, .int a1, .int a2, .int a3, .int a4, .int a5, .int a6, .int a7, .int a8, .int a9, .int a10, .int 1, .long tt, .int a13, .int a14]))] := hD
      refine lv_iconst (v := 0) hx hb d_N_mayComeBack_26 (by decide) ?_
      have he : f_N_mayComeBack (a0, a1, a2, a3, a4, a5, a6, a7, a8, a9, a10, a11, a12, a13, a14) tt = (0, (a0, a1, a2, a3, a4, a5, a6, a7, a8, a9, a10, 1, tt, a13, a14)) := hc.trans ((if_neg c_1).trans (if_pos c_2))
      exact W.zret (ty := .boolean) hx hb hr nb0 (fun t ht hW => ⟨⟨0, (a0, a1, a2, a3, a4, a5, a6, a7, a8, a9, a10, 1, tt, a13, a14), rfl, ⟨(congrArg Prod.fst he).symm, (congrArg Prod.snd he).symm⟩, by show va_P _ _ _ t.heap; rw [ht]; exact hP⟩, hS.F ht⟩) hS.2.2 d_N_mayComeBack_27
  · refine lv_iconst (v := 1) hx hb d_N_mayComeBack_7 (by decide) ?_
    have he : f_N_mayComeBack (a0, a1, a2, a3, a4, a5, a6, a7, a8, a9, a10, a11, a12, a13, a14) tt = (1, (a0, a1, a2, a3, a4, a5, a6, a7, a8, a9, a10, a11, a12, a13, a14)) := hc.trans (if_pos c_1)
    exact W.zret (ty := .boolean) hx hb hr nb1 (fun t ht hW => ⟨⟨1, (a0, a1, a2, a3, a4, a5, a6, a7, a8, a9, a10, a11, a12, a13, a14), rfl, ⟨(congrArg Prod.fst he).symm, (congrArg Prod.snd he).symm⟩, by show va_P _ _ _ t.heap; rw [ht]; exact hP⟩, hS.F ht⟩) hS.2.2 d_N_mayComeBack_8

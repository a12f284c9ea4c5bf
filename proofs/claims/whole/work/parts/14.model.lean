def f_M_error (k : Int32) : Int32 := if k ≤ 0 then (if k ≤ 8 then 0 else 1) else (if k < 6 then 1 else (if k ≤ 8 then 0 else 1))
set_option maxHeartbeats 4000000 in
set_option maxRecDepth 100000 in
theorem c_M_error (l : Launch) (k : Int32) : Met l y_M_error (cw_M_error :: BIG) ((rmk 0 0 0)) (va_Pc [.int k] (fun U => NK U)) (vp_Si (fun r : Int32 => r = f_M_error k)) 0 0 (fun _ => False) := by
  refine Met.ofW (cc := b_M_error) (maxL := 1) (ret := (some .boolean)) (by decide) rfl ?_
  intro p e s m args below meth c s₁ B hml hv
  obtain ⟨rfl, hN⟩ := hv
  have hx := B.exec
  have hb := B.bytes
  have hr := B.returns
  have htB : ∀ w ∈ BIG, w.before _ s = true := fun w h => atoms_spec (ws := cw_M_error :: BIG) B.pre w (List.mem_cons_of_mem _ h)
  have hown : s.vm.findClass R_M = some m.cls := findClass_of_methodNamed B.named
  have hlocks := B.notSynchronized
  have hl := lv_entry ([.int k]) (n := 1) (Nat.le_of_ble_eq_true rfl)
  rw [lg_entry_eq]
  generalize (lg_sl ([.int k]) ++ List.replicate (1 - (lg_sl ([.int k])).length) Slot.unset).toArray = ls at hl ⊢
  have hl : lv_has ls 1 [(0, .int k)] := hl
  have hc : f_M_error k = f_M_error k := rfl
  refine lv_iload_n hx hb d_M_error_0 rfl (lv_at hl 0 rfl) ?_
  refine lv_if_le (tgt := 10) hx hb d_M_error_1 (by decide) (fun c_1 => ?_) (fun c_1 => ?_)
  · refine lv_iload_n hx hb d_M_error_10 rfl (lv_at hl 0 rfl) ?_
    refine lv_bipush (v := 8) hx hb d_M_error_11 (by decide) ?_
    refine lv_icmp_le (tgt := 20) hx hb d_M_error_13 (by decide) (fun c_2 => ?_) (fun c_2 => ?_)
    · refine lv_iconst (v := 0) hx hb d_M_error_20 (by decide) ?_
      exact W.zret (ty := .boolean) hx hb hr nb0 (fun t ht hW => ⟨_, rfl, (hc.trans ((if_pos c_1).trans (if_pos c_2))).symm, ht⟩) (fun _ h => by cases h) d_M_error_21
    · refine lv_iconst (v := 1) hx hb d_M_error_16 (by decide) ?_
      refine lv_goto (tgt := 21) hx hb d_M_error_17 (by decide) ?_
      exact W.zret (ty := .boolean) hx hb hr nb1 (fun t ht hW => ⟨_, rfl, (hc.trans ((if_pos c_1).trans (if_neg c_2))).symm, ht⟩) (fun _ h => by cases h) d_M_error_21
  · refine lv_iload_n hx hb d_M_error_4 rfl (lv_at hl 0 rfl) ?_
    refine lv_bipush (v := 6) hx hb d_M_error_5 (by decide) ?_
    refine lv_icmp_lt (tgt := 16) hx hb d_M_error_7 (by decide) (fun c_3 => ?_) (fun c_3 => ?_)
    · refine lv_iconst (v := 1) hx hb d_M_error_16 (by decide) ?_
      refine lv_goto (tgt := 21) hx hb d_M_error_17 (by decide) ?_
      exact W.zret (ty := .boolean) hx hb hr nb1 (fun t ht hW => ⟨_, rfl, (hc.trans ((if_neg c_1).trans (if_pos c_3))).symm, ht⟩) (fun _ h => by cases h) d_M_error_21
    · refine lv_iload_n hx hb d_M_error_10 rfl (lv_at hl 0 rfl) ?_
      refine lv_bipush (v := 8) hx hb d_M_error_11 (by decide) ?_
      refine lv_icmp_le (tgt := 20) hx hb d_M_error_13 (by decide) (fun c_4 => ?_) (fun c_4 => ?_)
      · refine lv_iconst (v := 0) hx hb d_M_error_20 (by decide) ?_
        exact W.zret (ty := .boolean) hx hb hr nb0 (fun t ht hW => ⟨_, rfl, (hc.trans ((if_neg c_1).trans ((if_neg c_3).trans (if_pos c_4)))).symm, ht⟩) (fun _ h => by cases h) d_M_error_21
      · refine lv_iconst (v := 1) hx hb d_M_error_16 (by decide) ?_
        refine lv_goto (tgt := 21) hx hb d_M_error_17 (by decide) ?_
        exact W.zret (ty := .boolean) hx hb hr nb1 (fun t ht hW => ⟨_, rfl, (hc.trans ((if_neg c_1).trans ((if_neg c_3).trans (if_neg c_4)))).symm, ht⟩) (fun _ h => by cases h) d_M_error_21
def f_M_is (u : MN) : Int32 := let a0 := u.1; let a1 := u.2.1; let a2 := u.2.2.1; if a2 = 0 then (if 127 < a0 then 1 else (if a1 ≤ 127 then 0 else 1)) else 2
set_option maxHeartbeats 4000000 in
set_option maxRecDepth 100000 in
theorem c_M_is (l : Launch) (D : va_G) (h0 : Nat) (qq : Nat → Nat) (cc : Nat → ClassId) (ff : Nat → Nat → Int32) (fl : Nat → Int64) (c0 nn : Int32) (lt : Int64) (n : Int32) (hin : vp_in n 101) (u : MN) : Met l y_M_is (cw_M_is :: BIG) (rmk 0 0 0) (va_Pc [.ref h0, .int n] (fun U => va_P D cls_ (wM h0 qq cc ff fl n.toNatClampNeg c0 nn lt u) U.heap ∧ va_K D cls_ (tM cc) U ∧ NK U)) (vp_Si (fun r : Int32 => r = f_M_is u)) 0 0 (fun _ => False) := by
  obtain ⟨a0, a1, a2, a3, a4, a5, a6, a7, a8, a9, a10, a11, a12, a13⟩ := u
  refine Met.ofW (cc := b_M_is) (maxL := 2) (ret := (some .int)) (by decide) rfl ?_
  intro p e s m args below meth c s₁ B hml hv
  obtain ⟨rfl, hP, hK, hN⟩ := hv
  have hx := B.exec
  have hb := B.bytes
  have hr := B.returns
  have htB : ∀ w ∈ BIG, w.before _ s = true := fun w h => atoms_spec (ws := cw_M_is :: BIG) B.pre w (List.mem_cons_of_mem _ h)
  have hown : s.vm.findClass R_M = some m.cls := findClass_of_methodNamed B.named
  have hlocks := B.notSynchronized
  have hl := lv_entry ([.ref h0, .int n]) (n := 2) (Nat.le_of_ble_eq_true rfl)
  rw [lg_entry_eq]
  generalize (lg_sl ([.ref h0, .int n]) ++ List.replicate (2 - (lg_sl ([.ref h0, .int n])).length) Slot.unset).toArray = ls at hl ⊢
  have hl : lv_has ls 2 [(0, .ref h0), (1, .int n)] := hl
  have hc : f_M_is (a0, a1, a2, a3, a4, a5, a6, a7, a8, a9, a10, a11, a12, a13) = f_M_is (a0, a1, a2, a3, a4, a5, a6, a7, a8, a9, a10, a11, a12, a13) := rfl
  refine lv_aload_n hx hb d_M_is_0 rfl (lv_at hl 0 rfl) ?_
  refine va_get (D := D) (ci := 2) (v := .ref (qq 2)) (C := R_M) (T := F_M) (N := 17) hx hb htB uw_M hown hK hP 0 rfl rfl 4 (by decide) (htB _ fl_M_16) (fun _ h9 => h9) rfl d_M_is_1 ?_
  refine lv_iload_n hx hb d_M_is_4 rfl (lv_at hl 1 rfl) ?_
  refine va_zald hx hb hK hP 3 2 rfl rfl hin d_M_is_5 ?_
  refine tpi a2 pk_us ?_
  refine lv_if_eq (tgt := 11) hx hb d_M_is_6 (by decide) (fun c_1 => ?_) (fun c_1 => ?_)
  · refine lv_aload_n hx hb d_M_is_11 rfl (lv_at hl 0 rfl) ?_
    refine va_get (D := D) (ci := 2) (v := .ref (qq 0)) (C := R_M) (T := F_M) (N := 17) hx hb htB uw_M hown hK hP 0 rfl rfl 2 (by decide) (htB _ fl_M_7) (fun _ h9 => h9) rfl d_M_is_12 ?_
    refine lv_iload_n hx hb d_M_is_15 rfl (lv_at hl 1 rfl) ?_
    refine va_iald hx hb hK hP 1 0 rfl rfl hin d_M_is_16 ?_
    refine tpi a0 pk_us ?_
    refine lv_bipush (v := 127) hx hb d_M_is_17 (by decide) ?_
    refine lv_icmp_gt (tgt := 33) hx hb d_M_is_19 (by decide) (fun c_2 => ?_) (fun c_2 => ?_)
    · refine lv_iconst (v := 1) hx hb d_M_is_33 (by decide) ?_
      refine lv_goto (tgt := 38) hx hb d_M_is_34 (by decide) ?_
      exact W.iret hx hb hr (fun t ht hW => ⟨_, rfl, (hc.trans ((if_pos c_1).trans (if_pos c_2))).symm, ht⟩) (fun _ h => by cases h) d_M_is_38
    · refine lv_aload_n hx hb d_M_is_22 rfl (lv_at hl 0 rfl) ?_
      refine va_get (D := D) (ci := 2) (v := .ref (qq 1)) (C := R_M) (T := F_M) (N := 17) hx hb htB uw_M hown hK hP 0 rfl rfl 3 (by decide) (htB _ fl_M_13) (fun _ h9 => h9) rfl d_M_is_23 ?_
      refine lv_iload_n hx hb d_M_is_26 rfl (lv_at hl 1 rfl) ?_
      refine va_iald hx hb hK hP 2 1 rfl rfl hin d_M_is_27 ?_
      refine tpi a1 pk_us ?_
      refine lv_bipush (v := 127) hx hb d_M_is_28 (by decide) ?_
      refine lv_icmp_le (tgt := 37) hx hb d_M_is_30 (by decide) (fun c_3 => ?_) (fun c_3 => ?_)
      · refine lv_iconst (v := 0) hx hb d_M_is_37 (by decide) ?_
        exact W.iret hx hb hr (fun t ht hW => ⟨_, rfl, (hc.trans ((if_pos c_1).trans ((if_neg c_2).trans (if_pos c_3)))).symm, ht⟩) (fun _ h => by cases h) d_M_is_38
      · refine lv_iconst (v := 1) hx hb d_M_is_33 (by decide) ?_
        refine lv_goto (tgt := 38) hx hb d_M_is_34 (by decide) ?_
        exact W.iret hx hb hr (fun t ht hW => ⟨_, rfl, (hc.trans ((if_pos c_1).trans ((if_neg c_2).trans (if_neg c_3)))).symm, ht⟩) (fun _ h => by cases h) d_M_is_38
  · refine lv_iconst (v := 2) hx hb d_M_is_9 (by decide) ?_
    exact W.iret hx hb hr (fun t ht hW => ⟨_, rfl, (hc.trans (if_neg c_1)).symm, ht⟩) (fun _ h => by cases h) d_M_is_10
def f_M_more (u : MN) (k : Int32) (w : Int32) : Int32 := let a0 := u.1; let a1 := u.2.1; let a2 := u.2.2.1; let a3 := u.2.2.2.1; let a4 := u.2.2.2.2.1; let a5 := u.2.2.2.2.2.1; let a6 := u.2.2.2.2.2.2.1; let a7 := u.2.2.2.2.2.2.2.1; let a8 := u.2.2.2.2.2.2.2.2.1; let a9 := u.2.2.2.2.2.2.2.2.2.1; let a10 := u.2.2.2.2.2.2.2.2.2.2.1; let a11 := u.2.2.2.2.2.2.2.2.2.2.2.1; let a12 := u.2.2.2.2.2.2.2.2.2.2.2.2.1; let a13 := u.2.2.2.2.2.2.2.2.2.2.2.2.2; if k = 0 then (-1) else (if k = 7 then 8 else (if k = 8 then 8 else (if w = 0 then (if k = 6 then 8 else 1) else (if k = 6 then 0 else (if k = 9 then 0 else (if k = 5 then (if (f_M_is (a0, a1, a2, a3, a4, a5, a6, a7, a8, a9, a10, a11, a12, a13)) = 1 then 0 else 8) else 8))))))
set_option maxHeartbeats 4000000 in
set_option maxRecDepth 100000 in
theorem c_M_more (l : Launch) (D : va_G) (h0 : Nat) (qq : Nat → Nat) (cc : Nat → ClassId) (ff : Nat → Nat → Int32) (fl : Nat → Int64) (c0 nn : Int32) (lt : Int64) (n : Int32) (hin : vp_in n 101) (u : MN) (k : Int32) (w : Int32) : Met l y_M_more (cw_M_more :: BIG) (rmk 1 0 0) (va_Pc [.ref h0, .int n, .int k, .int w] (fun U => va_P D cls_ (wM h0 qq cc ff fl n.toNatClampNeg c0 nn lt u) U.heap ∧ va_K D cls_ (tM cc) U ∧ NK U)) (vp_Si (fun r : Int32 => r = f_M_more u k w)) 0 0 (fun _ => False) := by
  obtain ⟨a0, a1, a2, a3, a4, a5, a6, a7, a8, a9, a10, a11, a12, a13⟩ := u
  refine Met.ofW (cc := b_M_more) (maxL := 4) (ret := (some .int)) (by decide) rfl ?_
  intro p e s m args below meth c s₁ B hml hv
  obtain ⟨rfl, hP, hK, hN⟩ := hv
  have hx := B.exec
  have hb := B.bytes
  have hr := B.returns
  have htB : ∀ w ∈ BIG, w.before _ s = true := fun w h => atoms_spec (ws := cw_M_more :: BIG) B.pre w (List.mem_cons_of_mem _ h)
  have hown : s.vm.findClass R_M = some m.cls := findClass_of_methodNamed B.named
  have hlocks := B.notSynchronized
  have hl := lv_entry ([.ref h0, .int n, .int k, .int w]) (n := 4) (Nat.le_of_ble_eq_true rfl)
  rw [lg_entry_eq]
  generalize (lg_sl ([.ref h0, .int n, .int k, .int w]) ++ List.replicate (4 - (lg_sl ([.ref h0, .int n, .int k, .int w])).length) Slot.unset).toArray = ls at hl ⊢
  have hl : lv_has ls 4 [(0, .ref h0), (1, .int n), (2, .int k), (3, .int w)] := hl
  have hc : f_M_more (a0, a1, a2, a3, a4, a5, a6, a7, a8, a9, a10, a11, a12, a13) k w = f_M_more (a0, a1, a2, a3, a4, a5, a6, a7, a8, a9, a10, a11, a12, a13) k w := rfl
  refine lv_iload_n hx hb d_M_more_0 rfl (lv_at hl 2 rfl) ?_
  refine lv_if_ne (tgt := 6) hx hb d_M_more_1 (by decide) (fun c_1 => ?_) (fun c_1 => ?_)
  · refine lv_iload_n hx hb d_M_more_6 rfl (lv_at hl 2 rfl) ?_
    refine lv_bipush (v := 7) hx hb d_M_more_7 (by decide) ?_
    refine lv_icmp_eq (tgt := 18) hx hb d_M_more_9 (by decide) (fun c_2 => ?_) (fun c_2 => ?_)
    · refine lv_bipush (v := 8) hx hb d_M_more_18 (by decide) ?_
      exact W.iret hx hb hr (fun t ht hW => ⟨_, rfl, (hc.trans ((if_neg c_1).trans (if_pos c_2))).symm, ht⟩) (fun _ h => by cases h) d_M_more_20
    · refine lv_iload_n hx hb d_M_more_12 rfl (lv_at hl 2 rfl) ?_
      refine lv_bipush (v := 8) hx hb d_M_more_13 (by decide) ?_
      refine lv_icmp_ne (tgt := 21) hx hb d_M_more_15 (by decide) (fun c_3 => ?_) (fun c_3 => ?_)
      · refine lv_iload_n hx hb d_M_more_21 rfl (lv_at hl 3 rfl) ?_
        refine lv_if_ne (tgt := 38) hx hb d_M_more_22 (by decide) (fun c_4 => ?_) (fun c_4 => ?_)
        · refine lv_iload_n hx hb d_M_more_38 rfl (lv_at hl 2 rfl) ?_
          refine lv_bipush (v := 6) hx hb d_M_more_39 (by decide) ?_
          refine lv_icmp_eq (tgt := 50) hx hb d_M_more_41 (by decide) (fun c_5 => ?_) (fun c_5 => ?_)
          · refine lv_iconst (v := 0) hx hb d_M_more_50 (by decide) ?_
            exact W.iret hx hb hr (fun t ht hW => ⟨_, rfl, (hc.trans ((if_neg c_1).trans ((if_neg c_2).trans ((if_neg c_3).trans ((if_neg c_4).trans (if_pos c_5)))))).symm, ht⟩) (fun _ h => by cases h) d_M_more_51
          · refine lv_iload_n hx hb d_M_more_44 rfl (lv_at hl 2 rfl) ?_
            refine lv_bipush (v := 9) hx hb d_M_more_45 (by decide) ?_
            refine lv_icmp_ne (tgt := 52) hx hb d_M_more_47 (by decide) (fun c_6 => ?_) (fun c_6 => ?_)
            · refine lv_iload_n hx hb d_M_more_52 rfl (lv_at hl 2 rfl) ?_
              refine lv_iconst (v := 5) hx hb d_M_more_53 (by decide) ?_
              refine lv_icmp_ne (tgt := 70) hx hb d_M_more_54 (by decide) (fun c_7 => ?_) (fun c_7 => ?_)
              · refine lv_bipush (v := 8) hx hb d_M_more_70 (by decide) ?_
                exact W.iret hx hb hr (fun t ht hW => ⟨_, rfl, (hc.trans ((if_neg c_1).trans ((if_neg c_2).trans ((if_neg c_3).trans ((if_neg c_4).trans ((if_neg c_5).trans ((if_neg c_6).trans (if_neg c_7)))))))).symm, ht⟩) (fun _ h => by cases h) d_M_more_72
              · refine lv_aload_n hx hb d_M_more_57 rfl (lv_at hl 0 rfl) ?_
                refine lv_iload_n hx hb d_M_more_58 rfl (lv_at hl 1 rfl) ?_
                refine vp_callSi (va_Run.run (va_runV (As := [.int n]) (rest := []) ⟨hx, hb, hml, hown, htB⟩ (c_M_is l D h0 qq cc ff fl c0 nn lt n hin (a0, a1, a2, a3, a4, a5, a6, a7, a8, a9, a10, a11, a12, a13)) (cwV 1 htB g_M_63 rfl rfl rfl (by decide +kernel) ⟨Nat.le_of_ble_eq_true rfl, Nat.le_of_ble_eq_true rfl⟩) (preV hP hK hN (va_recv hK hP (ci := 2) (q0 := 0) rfl rfl)) rfl rfl hl.1 rfl (lv_room (Nat.le_of_ble_eq_true rfl)) d_M_more_59 ⟨Nat.le_of_ble_eq_true rfl, Nat.le_of_ble_eq_true rfl⟩)) (fun r_8 hr_8 => ?_)
                subst hr_8
                refine lv_iconst (v := 1) hx hb d_M_more_62 (by decide) ?_
                refine lv_icmp_ne (tgt := 70) hx hb d_M_more_63 (by decide) (fun c_9 => ?_) (fun c_9 => ?_)
                · refine lv_bipush (v := 8) hx hb d_M_more_70 (by decide) ?_
                  exact W.iret hx hb hr (fun t ht hW => ⟨_, rfl, (hc.trans ((if_neg c_1).trans ((if_neg c_2).trans ((if_neg c_3).trans ((if_neg c_4).trans ((if_neg c_5).trans ((if_neg c_6).trans ((if_pos c_7).trans (if_neg c_9))))))))).symm, ht⟩) (fun _ h => by cases h) d_M_more_72
                · refine lv_iconst (v := 0) hx hb d_M_more_66 (by decide) ?_
                  refine lv_goto (tgt := 72) hx hb d_M_more_67 (by decide) ?_
                  exact W.iret hx hb hr (fun t ht hW => ⟨_, rfl, (hc.trans ((if_neg c_1).trans ((if_neg c_2).trans ((if_neg c_3).trans ((if_neg c_4).trans ((if_neg c_5).trans ((if_neg c_6).trans ((if_pos c_7).trans (if_pos c_9))))))))).symm, ht⟩) (fun _ h => by cases h) d_M_more_72
            · refine lv_iconst (v := 0) hx hb d_M_more_50 (by decide) ?_
              exact W.iret hx hb hr (fun t ht hW => ⟨_, rfl, (hc.trans ((if_neg c_1).trans ((if_neg c_2).trans ((if_neg c_3).trans ((if_neg c_4).trans ((if_neg c_5).trans (if_pos c_6))))))).symm, ht⟩) (fun _ h => by cases h) d_M_more_51
        · refine lv_iload_n hx hb d_M_more_25 rfl (lv_at hl 2 rfl) ?_
          refine lv_bipush (v := 6) hx hb d_M_more_26 (by decide) ?_
          refine lv_icmp_ne (tgt := 36) hx hb d_M_more_28 (by decide) (fun c_10 => ?_) (fun c_10 => ?_)
          · refine lv_iconst (v := 1) hx hb d_M_more_36 (by decide) ?_
            exact W.iret hx hb hr (fun t ht hW => ⟨_, rfl, (hc.trans ((if_neg c_1).trans ((if_neg c_2).trans ((if_neg c_3).trans ((if_pos c_4).trans (if_neg c_10)))))).symm, ht⟩) (fun _ h => by cases h) d_M_more_37
          · refine lv_bipush (v := 8) hx hb d_M_more_31 (by decide) ?_
            refine lv_goto (tgt := 37) hx hb d_M_more_33 (by decide) ?_
            exact W.iret hx hb hr (fun t ht hW => ⟨_, rfl, (hc.trans ((if_neg c_1).trans ((if_neg c_2).trans ((if_neg c_3).trans ((if_pos c_4).trans (if_pos c_10)))))).symm, ht⟩) (fun _ h => by cases h) d_M_more_37
      · refine lv_bipush (v := 8) hx hb d_M_more_18 (by decide) ?_
        exact W.iret hx hb hr (fun t ht hW => ⟨_, rfl, (hc.trans ((if_neg c_1).trans ((if_neg c_2).trans (if_pos c_3)))).symm, ht⟩) (fun _ h => by cases h) d_M_more_20
  · refine lv_iconst (v := (-1)) hx hb d_M_more_4 (by decide) ?_
    exact W.iret hx hb hr (fun t ht hW => ⟨_, rfl, (hc.trans (if_pos c_1)).symm, ht⟩) (fun _ h => by cases h) d_M_more_5

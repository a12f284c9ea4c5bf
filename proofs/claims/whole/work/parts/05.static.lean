def f_X_isKind (k : Int32) : Int32 := if k < 0 then 0 else (if 10 < k then 0 else 1)
set_option maxHeartbeats 4000000 in
set_option maxRecDepth 100000 in
theorem c_X_isKind (l : Launch) (k : Int32) : Met l y_X_isKind (cw_X_isKind :: BIG) ((rmk 0 0 0)) (va_Pc [.int k] (fun U => NK U)) (vp_Si (fun r : Int32 => r = f_X_isKind k)) 0 0 (fun _ => False) := by
  refine Met.ofW (cc := b_X_isKind) (maxL := 1) (ret := (some .boolean)) (by decide) rfl ?_
  intro p e s m args below meth c s₁ B hml hv
  obtain ⟨rfl, hN⟩ := hv
  have hx := B.exec
  have hb := B.bytes
  have hr := B.returns
  have htB : ∀ w ∈ BIG, w.before _ s = true := fun w h => atoms_spec (ws := cw_X_isKind :: BIG) B.pre w (List.mem_cons_of_mem _ h)
  have hown : s.vm.findClass R_X = some m.cls := findClass_of_methodNamed B.named
  have hlocks := B.notSynchronized
  have hl := lv_entry ([.int k]) (n := 1) (Nat.le_of_ble_eq_true rfl)
  rw [lg_entry_eq]
  generalize (lg_sl ([.int k]) ++ List.replicate (1 - (lg_sl ([.int k])).length) Slot.unset).toArray = ls at hl ⊢
  have hl : lv_has ls 1 [(0, .int k)] := hl
  have hc : f_X_isKind k = f_X_isKind k := rfl
  refine lv_iload_n hx hb d_X_isKind_0 rfl (lv_at hl 0 rfl) ?_
  refine lv_if_lt (tgt := 14) hx hb d_X_isKind_1 (by decide) (fun c_1 => ?_) (fun c_1 => ?_)
  · refine lv_iconst (v := 0) hx hb d_X_isKind_14 (by decide) ?_
    exact W.zret (ty := .boolean) hx hb hr nb0 (fun t ht hW => ⟨_, rfl, (hc.trans (if_pos c_1)).symm, ht⟩) (fun _ h => by cases h) d_X_isKind_15
  · refine lv_iload_n hx hb d_X_isKind_4 rfl (lv_at hl 0 rfl) ?_
    refine lv_bipush (v := 10) hx hb d_X_isKind_5 (by decide) ?_
    refine lv_icmp_gt (tgt := 14) hx hb d_X_isKind_7 (by decide) (fun c_2 => ?_) (fun c_2 => ?_)
    · refine lv_iconst (v := 0) hx hb d_X_isKind_14 (by decide) ?_
      exact W.zret (ty := .boolean) hx hb hr nb0 (fun t ht hW => ⟨_, rfl, (hc.trans ((if_neg c_1).trans (if_pos c_2))).symm, ht⟩) (fun _ h => by cases h) d_X_isKind_15
    · refine lv_iconst (v := 1) hx hb d_X_isKind_10 (by decide) ?_
      refine lv_goto (tgt := 15) hx hb d_X_isKind_11 (by decide) ?_
      exact W.zret (ty := .boolean) hx hb hr nb1 (fun t ht hW => ⟨_, rfl, (hc.trans ((if_neg c_1).trans (if_neg c_2))).symm, ht⟩) (fun _ h => by cases h) d_X_isKind_15
def f_X_isAboutFlag (k : Int32) : Int32 := if k = 6 then 1 else (if k = 7 then 1 else (if k = 8 then 1 else 0))
set_option maxHeartbeats 4000000 in
set_option maxRecDepth 100000 in
theorem c_X_isAboutFlag (l : Launch) (k : Int32) : Met l y_X_isAboutFlag (cw_X_isAboutFlag :: BIG) ((rmk 0 0 0)) (va_Pc [.int k] (fun U => NK U)) (vp_Si (fun r : Int32 => r = f_X_isAboutFlag k)) 0 0 (fun _ => False) := by
  refine Met.ofW (cc := b_X_isAboutFlag) (maxL := 1) (ret := (some .boolean)) (by decide) rfl ?_
  intro p e s m args below meth c s₁ B hml hv
  obtain ⟨rfl, hN⟩ := hv
  have hx := B.exec
  have hb := B.bytes
  have hr := B.returns
  have htB : ∀ w ∈ BIG, w.before _ s = true := fun w h => atoms_spec (ws := cw_X_isAboutFlag :: BIG) B.pre w (List.mem_cons_of_mem _ h)
  have hown : s.vm.findClass R_X = some m.cls := findClass_of_methodNamed B.named
  have hlocks := B.notSynchronized
  have hl := lv_entry ([.int k]) (n := 1) (Nat.le_of_ble_eq_true rfl)
  rw [lg_entry_eq]
  generalize (lg_sl ([.int k]) ++ List.replicate (1 - (lg_sl ([.int k])).length) Slot.unset).toArray = ls at hl ⊢
  have hl : lv_has ls 1 [(0, .int k)] := hl
  have hc : f_X_isAboutFlag k = f_X_isAboutFlag k := rfl
  refine lv_iload_n hx hb d_X_isAboutFlag_0 rfl (lv_at hl 0 rfl) ?_
  refine lv_bipush (v := 6) hx hb d_X_isAboutFlag_1 (by decide) ?_
  refine lv_icmp_eq (tgt := 18) hx hb d_X_isAboutFlag_3 (by decide) (fun c_1 => ?_) (fun c_1 => ?_)
  · refine lv_iconst (v := 1) hx hb d_X_isAboutFlag_18 (by decide) ?_
    refine lv_goto (tgt := 23) hx hb d_X_isAboutFlag_19 (by decide) ?_
    exact W.zret (ty := .boolean) hx hb hr nb1 (fun t ht hW => ⟨_, rfl, (hc.trans (if_pos c_1)).symm, ht⟩) (fun _ h => by cases h) d_X_isAboutFlag_23
  · refine lv_iload_n hx hb d_X_isAboutFlag_6 rfl (lv_at hl 0 rfl) ?_
    refine lv_bipush (v := 7) hx hb d_X_isAboutFlag_7 (by decide) ?_
    refine lv_icmp_eq (tgt := 18) hx hb d_X_isAboutFlag_9 (by decide) (fun c_2 => ?_) (fun c_2 => ?_)
    · refine lv_iconst (v := 1) hx hb d_X_isAboutFlag_18 (by decide) ?_
      refine lv_goto (tgt := 23) hx hb d_X_isAboutFlag_19 (by decide) ?_
      exact W.zret (ty := .boolean) hx hb hr nb1 (fun t ht hW => ⟨_, rfl, (hc.trans ((if_neg c_1).trans (if_pos c_2))).symm, ht⟩) (fun _ h => by cases h) d_X_isAboutFlag_23
    · refine lv_iload_n hx hb d_X_isAboutFlag_12 rfl (lv_at hl 0 rfl) ?_
      refine lv_bipush (v := 8) hx hb d_X_isAboutFlag_13 (by decide) ?_
      refine lv_icmp_ne (tgt := 22) hx hb d_X_isAboutFlag_15 (by decide) (fun c_3 => ?_) (fun c_3 => ?_)
      · refine lv_iconst (v := 0) hx hb d_X_isAboutFlag_22 (by decide) ?_
        exact W.zret (ty := .boolean) hx hb hr nb0 (fun t ht hW => ⟨_, rfl, (hc.trans ((if_neg c_1).trans ((if_neg c_2).trans (if_neg c_3)))).symm, ht⟩) (fun _ h => by cases h) d_X_isAboutFlag_23
      · refine lv_iconst (v := 1) hx hb d_X_isAboutFlag_18 (by decide) ?_
        refine lv_goto (tgt := 23) hx hb d_X_isAboutFlag_19 (by decide) ?_
        exact W.zret (ty := .boolean) hx hb hr nb1 (fun t ht hW => ⟨_, rfl, (hc.trans ((if_neg c_1).trans ((if_neg c_2).trans (if_pos c_3)))).symm, ht⟩) (fun _ h => by cases h) d_X_isAboutFlag_23
def f_X_isError (k : Int32) : Int32 := if (f_X_isKind k) = 0 then 0 else (if k = 0 then 0 else (if (f_X_isAboutFlag k) = 0 then 1 else 0))
set_option maxHeartbeats 4000000 in
set_option maxRecDepth 100000 in
theorem c_X_isError (l : Launch) (k : Int32) : Met l y_X_isError (cw_X_isError :: BIG) ((rmk 1 0 0)) (va_Pc [.int k] (fun U => NK U)) (vp_Si (fun r : Int32 => r = f_X_isError k)) 0 0 (fun _ => False) := by
  refine Met.ofW (cc := b_X_isError) (maxL := 1) (ret := (some .boolean)) (by decide) rfl ?_
  intro p e s m args below meth c s₁ B hml hv
  obtain ⟨rfl, hN⟩ := hv
  have hx := B.exec
  have hb := B.bytes
  have hr := B.returns
  have htB : ∀ w ∈ BIG, w.before _ s = true := fun w h => atoms_spec (ws := cw_X_isError :: BIG) B.pre w (List.mem_cons_of_mem _ h)
  have hown : s.vm.findClass R_X = some m.cls := findClass_of_methodNamed B.named
  have hlocks := B.notSynchronized
  have hl := lv_entry ([.int k]) (n := 1) (Nat.le_of_ble_eq_true rfl)
  rw [lg_entry_eq]
  generalize (lg_sl ([.int k]) ++ List.replicate (1 - (lg_sl ([.int k])).length) Slot.unset).toArray = ls at hl ⊢
  have hl : lv_has ls 1 [(0, .int k)] := hl
  have hc : f_X_isError k = f_X_isError k := rfl
  refine lv_iload_n hx hb d_X_isError_0 rfl (lv_at hl 0 rfl) ?_
  refine vp_callSi (va_Run.run (va_runS (As := [.int k]) (rest := []) ⟨hx, hb, hml, hown, htB⟩ (c_X_isKind l k) (cwS 1 htB g_X_28 rfl rfl rfl (by decide +kernel) ⟨Nat.le_of_ble_eq_true rfl, Nat.le_of_ble_eq_true rfl⟩) (preN hN) rfl rfl hl.1 rfl (lv_room (Nat.le_of_ble_eq_true rfl)) d_X_isError_1 ⟨Nat.le_of_ble_eq_true rfl, Nat.le_of_ble_eq_true rfl⟩)) (fun r_1 hr_1 => ?_)
  subst hr_1
  refine lv_if_eq (tgt := 22) hx hb d_X_isError_4 (by decide) (fun c_2 => ?_) (fun c_2 => ?_)
  · refine lv_iconst (v := 0) hx hb d_X_isError_22 (by decide) ?_
    exact W.zret (ty := .boolean) hx hb hr nb0 (fun t ht hW => ⟨_, rfl, (hc.trans (if_pos c_2)).symm, ht⟩) (fun _ h => by cases h) d_X_isError_23
  · refine lv_iload_n hx hb d_X_isError_7 rfl (lv_at hl 0 rfl) ?_
    refine lv_if_eq (tgt := 22) hx hb d_X_isError_8 (by decide) (fun c_3 => ?_) (fun c_3 => ?_)
    · refine lv_iconst (v := 0) hx hb d_X_isError_22 (by decide) ?_
      exact W.zret (ty := .boolean) hx hb hr nb0 (fun t ht hW => ⟨_, rfl, (hc.trans ((if_neg c_2).trans (if_pos c_3))).symm, ht⟩) (fun _ h => by cases h) d_X_isError_23
    · refine lv_iload_n hx hb d_X_isError_11 rfl (lv_at hl 0 rfl) ?_
      refine vp_callSi (va_Run.run (va_runS (As := [.int k]) (rest := []) ⟨hx, hb, hml, hown, htB⟩ (c_X_isAboutFlag l k) (cwS 1 htB g_X_89 rfl rfl rfl (by decide +kernel) ⟨Nat.le_of_ble_eq_true rfl, Nat.le_of_ble_eq_true rfl⟩) (preN hN) rfl rfl hl.1 rfl (lv_room (Nat.le_of_ble_eq_true rfl)) d_X_isError_12 ⟨Nat.le_of_ble_eq_true rfl, Nat.le_of_ble_eq_true rfl⟩)) (fun r_4 hr_4 => ?_)
      subst hr_4
      refine lv_if_ne (tgt := 22) hx hb d_X_isError_15 (by decide) (fun c_5 => ?_) (fun c_5 => ?_)
      · refine lv_iconst (v := 0) hx hb d_X_isError_22 (by decide) ?_
        exact W.zret (ty := .boolean) hx hb hr nb0 (fun t ht hW => ⟨_, rfl, (hc.trans ((if_neg c_2).trans ((if_neg c_3).trans (if_neg c_5)))).symm, ht⟩) (fun _ h => by cases h) d_X_isError_23
      · refine lv_iconst (v := 1) hx hb d_X_isError_18 (by decide) ?_
        refine lv_goto (tgt := 23) hx hb d_X_isError_19 (by decide) ?_
        exact W.zret (ty := .boolean) hx hb hr nb1 (fun t ht hW => ⟨_, rfl, (hc.trans ((if_neg c_2).trans ((if_neg c_3).trans (if_pos c_5)))).symm, ht⟩) (fun _ h => by cases h) d_X_isError_23

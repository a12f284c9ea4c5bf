def f_M_none (nn n : Int32) : Int32 := if n < 1 then 1 else (if n ≤ nn then 0 else 1)
theorem mn_none {m : Nat} {n : Int32} (h : ix m n = none) : f_M_none (nI m) n = 1 := by
  unfold ix at h
  unfold f_M_none
  by_cases h1 : n < 1
  · rw [if_pos h1]
  · rw [if_neg h1] at h ⊢
    by_cases h2 : nI m < n
    · rw [if_neg (fun q => by
        rw [Int32.lt_iff_toInt_lt] at h2
        rw [Int32.le_iff_toInt_le] at q
        omega)]
    · rw [if_neg h2] at h; cases h
theorem mn_some {m j : Nat} {n : Int32} (h : ix m n = some j) : f_M_none (nI m) n = 0 := by
  unfold ix at h
  unfold f_M_none
  by_cases h1 : n < 1
  · rw [if_pos h1] at h; cases h
  · rw [if_neg h1] at h ⊢
    by_cases h2 : nI m < n
    · rw [if_pos h2] at h; cases h
    · rw [if_pos (by
        rw [Int32.lt_iff_toInt_lt] at h2
        rw [Int32.le_iff_toInt_le]
        omega)]
theorem mfin {F : Nat → MN} {ff : Nat → Nat → Int32} {fl : Nat → Int64} {kk jj : Nat} {a : MN} (h : ∀ k, F k = tupM ff fl k) (hnj : kk = jj) (k9 : Nat) : va_up F jj a k9 = tupM (uff ff kk a) (vp_updL fl kk a.2.2.2.2.2.2.2.2.2.1) k9 := by
  subst hnj
  rw [tup_uff]
  by_cases e : k9 = kk
  · subst e; rw [va_up_self, va_up_self]
  · rw [va_up_ne _ _ e, va_up_ne _ _ e]; exact h k9
set_option maxHeartbeats 4000000 in
set_option maxRecDepth 100000 in
theorem c_M_none (l : Launch) (D : va_G) (h0 : Nat) (qq : Nat → Nat) (c0 nn : Int32) (lt : Int64) (n : Int32) : Met l y_M_none (cw_M_none :: BIG) (rmk 0 0 0) (va_Pc [.ref h0, .int n] (fun U => va_P D cls_ [(h0, .inr (2, oM qq c0 nn lt))] U.heap ∧ va_K D cls_ [] U ∧ NK U)) (va_Qi (fun (r : Int32) (_ : Unit) => r = f_M_none nn n) (fun (_ : Unit) (t : State) => va_P D cls_ [(h0, .inr (2, oM qq 0 nn lt))] t.heap) (fun q : Nat => q = h0)) 0 0 (fun q : Nat => q = h0) := by
  refine Met.ofW (cc := b_M_none) (maxL := 2) (ret := (some .boolean)) (by decide) rfl ?_
  intro p e s m args below meth c s₁ B hml hv
  obtain ⟨rfl, hP, hK, hN⟩ := hv
  have hx := B.exec
  have hb := B.bytes
  have hr := B.returns
  have htB : ∀ w ∈ BIG, w.before _ s = true := fun w h => atoms_spec (ws := cw_M_none :: BIG) B.pre w (List.mem_cons_of_mem _ h)
  have hown : s.vm.findClass R_M = some m.cls := findClass_of_methodNamed B.named
  have hlocks := B.notSynchronized
  have hD : va_D (fun q : Nat => q = h0) [(h0, .inr (2, oM qq c0 nn lt))] := nD
  have hS : va_S (fun q : Nat => q = h0) s.heap s.heap [] := va_S.rf
  have hl := lv_entry ([.ref h0, .int n]) (n := 2) (Nat.le_of_ble_eq_true rfl)
  rw [lg_entry_eq]
  generalize (lg_sl ([.ref h0, .int n]) ++ List.replicate (2 - (lg_sl ([.ref h0, .int n])).length) Slot.unset).toArray = ls at hl ⊢
  have hl : lv_has ls 2 [(0, .ref h0), (1, .int n)] := hl
  refine lv_aload_n hx hb d_M_none_0 rfl (lv_at hl 0 rfl) ?_
  refine lv_iconst (v := 0) hx hb d_M_none_1 (by decide) ?_
  refine va_put (D := D) (ci := 2) (v := .int 0) (ty := .int) (C := R_M) (T := F_M) (N := 17) hx hb htB uw_M t_M t_M_ok n_M hown hK hP hD hS 0 rfl rfl 0 (by decide) (htB _ fl_M_54) (fun _ h9 => h9) rfl (t_M_ok 0 (by decide)) rfl rfl (Nat.le_of_ble_eq_true rfl) d_M_none_2 (fun H locs hP hD hS => ?_)
  have hP : va_P D cls_ [(h0, .inr (2, oM qq 0 nn lt))] H := hP
  have hD : va_D (fun q : Nat => q = h0) [(h0, .inr (2, oM qq 0 nn lt))] := hD
  refine lv_iload_n hx hb d_M_none_5 rfl (lv_at hl 1 rfl) ?_
  refine lv_iconst (v := 1) hx hb d_M_none_6 (by decide) ?_
  refine lv_icmp_lt (tgt := 18) hx hb d_M_none_7 (by decide) (fun c_1 => ?_) (fun c_1 => ?_)
  · refine lv_iconst (v := 1) hx hb d_M_none_18 (by decide) ?_
    refine lv_goto (tgt := 23) hx hb d_M_none_19 (by decide) ?_
    exact W.zret (ty := .boolean) hx hb hr nb1 (fun t ht hW => ⟨⟨1, (), rfl, (if_pos c_1).symm, by show va_P _ _ _ t.heap; rw [ht]; exact hP⟩, hS.F ht⟩) hS.2.2 d_M_none_23
  · refine lv_iload_n hx hb d_M_none_10 rfl (lv_at hl 1 rfl) ?_
    refine lv_aload_n hx hb d_M_none_11 rfl (lv_at hl 0 rfl) ?_
    refine va_get (D := D) (ci := 2) (v := .int nn) (C := R_M) (T := F_M) (N := 17) hx hb htB uw_M hown hK hP 0 rfl rfl 1 (by decide) (htB _ fl_M_58) (fun _ h9 => h9) rfl d_M_none_12 ?_
    refine lv_icmp_le (tgt := 22) hx hb d_M_none_15 (by decide) (fun c_2 => ?_) (fun c_2 => ?_)
    · refine lv_iconst (v := 0) hx hb d_M_none_22 (by decide) ?_
      exact W.zret (ty := .boolean) hx hb hr nb0 (fun t ht hW => ⟨⟨0, (), rfl, ((if_neg c_1).trans (if_pos c_2)).symm, by show va_P _ _ _ t.heap; rw [ht]; exact hP⟩, hS.F ht⟩) hS.2.2 d_M_none_23
    · refine lv_iconst (v := 1) hx hb d_M_none_18 (by decide) ?_
      refine lv_goto (tgt := 23) hx hb d_M_none_19 (by decide) ?_
      exact W.zret (ty := .boolean) hx hb hr nb1 (fun t ht hW => ⟨⟨1, (), rfl, ((if_neg c_1).trans (if_neg c_2)).symm, by show va_P _ _ _ t.heap; rw [ht]; exact hP⟩, hS.F ht⟩) hS.2.2 d_M_none_23
def m_new (a : MN) : MN := (a.1, a.2.1, a.2.2.1, a.2.2.2.1, a.2.2.2.2.1, a.2.2.2.2.2.1, a.2.2.2.2.2.2.1, a.2.2.2.2.2.2.2.1, a.2.2.2.2.2.2.2.2.1, (-1), a.2.2.2.2.2.2.2.2.2.2.1, a.2.2.2.2.2.2.2.2.2.2.2.1, a.2.2.2.2.2.2.2.2.2.2.2.2.1, a.2.2.2.2.2.2.2.2.2.2.2.2.2)
def F_M_node (v : MS) : Int32 × MS := if v.1 = 100 then (-4, v) else (nI (v.1 + 1), (v.1 + 1, v.2.1, va_up v.2.2 (v.1 + 1) (m_new (v.2.2 (v.1 + 1)))))
theorem mfinN {F : Nat → MN} {ff : Nat → Nat → Int32} {fl : Nat → Int64} {kk : Nat} (h : ∀ k, F k = tupM ff fl k) (k9 : Nat) : va_up F kk (m_new (F kk)) k9 = tupM ff (vp_updL fl kk (-1)) k9 := by
  by_cases e : k9 = kk
  · subst e
    rw [va_up_self, h k9]
    simp only [tupM, m_new, vp_updL, if_true]
  · rw [va_up_ne _ _ e, h k9]
    simp only [tupM, vp_updL, if_neg e]
set_option maxHeartbeats 4000000 in
set_option maxRecDepth 100000 in
theorem c_M_node (l : Launch) (D : va_G) (h0 sz : Nat) (v : MS) (w0 : va_W) (tm : List (ClassId × FieldType)) (hI : IM h0 v w0 tm) (hD0 : va_D (fun _ => True) w0) : Met l y_M_node (cw_M_node :: BIG) (rmk 5 0 0) (va_Pc [.ref h0] (fun U => U.heap.size = sz ∧ va_P D cls_ w0 U.heap ∧ va_K D cls_ tm U ∧ NK U)) (va_Qi (fun (r : Int32) (v2 : MS) => r = (F_M_node v).1 ∧ v2 = (F_M_node v).2) (atM D h0 (va_A w0 sz)) (va_A w0 sz)) 0 0 (va_A w0 sz) := by
  refine Met.ofW (cc := b_M_node) (maxL := 1) (ret := (some .int)) (by decide) rfl ?_
  intro p e s m args below meth c s₁ B hml hv
  obtain ⟨rfl, hsz, hP, hK, hN⟩ := hv
  have hx := B.exec
  have hb := B.bytes
  have hr := B.returns
  have htB : ∀ w ∈ BIG, w.before _ s = true := fun w h => atoms_spec (ws := cw_M_node :: BIG) B.pre w (List.mem_cons_of_mem _ h)
  have hown : s.vm.findClass R_M = some m.cls := findClass_of_methodNamed B.named
  have hlocks := B.notSynchronized
  have hD : va_D (va_A w0 sz) w0 := hD0.self
  have hS : va_S (va_A w0 sz) s.heap s.heap [] := va_S.rf
  obtain ⟨qq, cc, ff, fl, c0, hw0, rfl, hvn, hvf⟩ := hI
  have hP : va_P D cls_ (wMg h0 qq cc ff fl c0 (nI v.1) v.2.1) s.heap := by rw [← hw0]; exact hP
  have hD : va_D (va_A w0 sz) (wMg h0 qq cc ff fl c0 (nI v.1) v.2.1) := by rw [← hw0]; exact hD
  have hl := lv_entry ([.ref h0]) (n := 1) (Nat.le_of_ble_eq_true rfl)
  rw [lg_entry_eq]
  generalize (lg_sl ([.ref h0]) ++ List.replicate (1 - (lg_sl ([.ref h0])).length) Slot.unset).toArray = ls at hl ⊢
  have hl : lv_has ls 1 [(0, .ref h0)] := hl
  refine lv_aload_n hx hb d_M_node_0 rfl (lv_at hl 0 rfl) ?_
  refine lv_iconst (v := 0) hx hb d_M_node_1 (by decide) ?_
  refine va_put (D := D) (ci := 2) (v := .int 0) (ty := .int) (C := R_M) (T := F_M) (N := 17) hx hb htB uw_M t_M t_M_ok n_M hown hK hP hD hS 0 rfl rfl 0 (by decide) (htB _ fl_M_54) (fun _ h9 => h9) rfl (t_M_ok 0 (by decide)) rfl rfl (Nat.le_of_ble_eq_true rfl) d_M_node_2 (fun H locs hP hD hS => ?_)
  have hP : va_P D cls_ (wMg h0 qq cc ff fl 0 (nI v.1) v.2.1) _ := hP
  have hD : va_D (va_A w0 sz) (wMg h0 qq cc ff fl 0 (nI v.1) v.2.1) := hD
  refine lv_aload_n hx hb d_M_node_5 rfl (lv_at hl 0 rfl) ?_
  refine va_get (D := D) (ci := 2) (v := .int (nI v.1)) (C := R_M) (T := F_M) (N := 17) hx hb htB uw_M hown hK hP 0 rfl rfl 1 (by decide) (htB _ fl_M_58) (fun _ h9 => h9) rfl d_M_node_6 ?_
  refine lv_bipush (v := 100) hx hb d_M_node_9 (by decide) ?_
  refine lv_icmp_ne (tgt := 17) hx hb d_M_node_11 (by decide) (fun c_1 => ?_) (fun c_1 => ?_)
  · have hne : ¬ v.1 = 100 := fun q => c_1 (by rw [q]; decide)
    refine lv_aload_n hx hb d_M_node_17 rfl (lv_at hl 0 rfl) ?_
    refine lv_dup hx hb d_M_node_18 rfl ?_
    refine va_get (D := D) (ci := 2) (v := .int (nI v.1)) (C := R_M) (T := F_M) (N := 17) hx hb htB uw_M hown hK hP 0 rfl rfl 1 (by decide) (htB _ fl_M_58) (fun _ h9 => h9) rfl d_M_node_19 ?_
    refine lv_iconst (v := 1) hx hb d_M_node_22 (by decide) ?_
    refine lv_iadd hx hb d_M_node_23 ?_
    refine tpi (nI (v.1 + 1)) (nI_1 v.1) ?_
    refine va_put (D := D) (ci := 2) (v := .int (nI (v.1 + 1))) (ty := .int) (C := R_M) (T := F_M) (N := 17) hx hb htB uw_M t_M t_M_ok n_M hown hK hP hD hS 0 rfl rfl 1 (by decide) (htB _ fl_M_58) (fun _ h9 => h9) rfl (t_M_ok 1 (by decide)) rfl rfl (Nat.le_of_ble_eq_true rfl) d_M_node_24 (fun H locs hP hD hS => ?_)
    have hP : va_P D cls_ (wMg h0 qq cc ff fl 0 (nI (v.1 + 1)) v.2.1) _ := hP
    have hD : va_D (va_A w0 sz) (wMg h0 qq cc ff fl 0 (nI (v.1 + 1)) v.2.1) := hD
    refine lv_aload_n hx hb d_M_node_27 rfl (lv_at hl 0 rfl) ?_
    refine va_get (D := D) (ci := 2) (v := .ref (qq 9)) (C := R_M) (T := F_M) (N := 17) hx hb htB uw_M hown hK hP 0 rfl rfl 11 (by decide) (htB _ fl_M_38) (fun _ h9 => h9) rfl d_M_node_28 ?_
    refine lv_aload_n hx hb d_M_node_31 rfl (lv_at hl 0 rfl) ?_
    refine va_get (D := D) (ci := 2) (v := .int (nI (v.1 + 1))) (C := R_M) (T := F_M) (N := 17) hx hb htB uw_M hown hK hP 0 rfl rfl 1 (by decide) (htB _ fl_M_58) (fun _ h9 => h9) rfl d_M_node_32 ?_
    refine lv_ldc2 (v := (-1)) hx hb hown (htB _ k_M_61) d_M_node_35 ?_
    refine va_last hx hb hK hP hD hS 10 9 rfl rfl (vp_in_nI (by omega) (by decide)) d_M_node_38 (fun H locs hP hD hS => ?_)
    rw [nI_clamp (show v.1 + 1 < 2 ^ 31 by omega)] at hP hD
    have hP : va_P D cls_ (wMg h0 qq cc ff (vp_updL fl (v.1 + 1) (-1)) 0 (nI (v.1 + 1)) v.2.1) _ := hP
    have hD : va_D (va_A w0 sz) (wMg h0 qq cc ff (vp_updL fl (v.1 + 1) (-1)) 0 (nI (v.1 + 1)) v.2.1) := hD
    refine lv_aload_n hx hb d_M_node_39 rfl (lv_at hl 0 rfl) ?_
    refine va_get (D := D) (ci := 2) (v := .int (nI (v.1 + 1))) (C := R_M) (T := F_M) (N := 17) hx hb htB uw_M hown hK hP 0 rfl rfl 1 (by decide) (htB _ fl_M_58) (fun _ h9 => h9) rfl d_M_node_40 ?_
    have hF : F_M_node v = (nI (v.1 + 1), (v.1 + 1, v.2.1, va_up v.2.2 (v.1 + 1) (m_new (v.2.2 (v.1 + 1))))) := by unfold F_M_node; rw [if_neg hne]
    exact W.iret hx hb hr (fun t ht hW => ⟨⟨nI (v.1 + 1), (v.1 + 1, v.2.1, va_up v.2.2 (v.1 + 1) (m_new (v.2.2 (v.1 + 1)))), rfl, ⟨(congrArg Prod.fst hF).symm, (congrArg Prod.snd hF).symm⟩, _, _, ⟨qq, cc, ff, vp_updL fl (v.1 + 1) (-1), 0, rfl, rfl, by show v.1 + 1 ≤ 100; omega, fun k9 => mfinN hvf k9⟩, by rw [ht]; exact hP, va_K.moved hW.alike hK, hD⟩, hS.F ht⟩) hS.2.2 d_M_node_43
  · have he : v.1 = 100 := (nI_eq (b := 100) (by omega) (by decide)).mp c_1
    refine lv_bipush (v := (-4)) hx hb d_M_node_14 (by decide) ?_
    have hF : F_M_node v = (-4, v) := by unfold F_M_node; rw [if_pos he]
    exact W.iret hx hb hr (fun t ht hW => ⟨⟨-4, v, rfl, ⟨(congrArg Prod.fst hF).symm, (congrArg Prod.snd hF).symm⟩, _, _, ⟨qq, cc, ff, fl, 0, rfl, rfl, hvn, hvf⟩, by rw [ht]; exact hP, va_K.moved hW.alike hK, hD⟩, hS.F ht⟩) hS.2.2 d_M_node_16
def m_0 : MN := (0, 0, 0, 0, 0, 0, 0, 0, 0, 0, 0, 0, 0, 0)
set_option maxHeartbeats 4000000 in
set_option maxRecDepth 100000 in
theorem c_M_init (l : Launch) (D : va_G) (h0 sz : Nat) : Met l y_M_init (cw_M_init :: BIG) (rmk 1 14 1414) (va_Pc [.ref h0] (fun U => U.heap.size = sz ∧ va_P D cls_ [(h0, .inr (2, [.int 0, .int 0, .null, .null, .null, .null, .null, .null, .null, .null, .null, .null, .null, .null, .null, .null, .long 0]))] U.heap ∧ va_K D cls_ [] U ∧ NK U)) (va_Qv (fun v2 : MS => v2 = (0, 0, fun _ => m_0)) (atM D h0 (va_A [(h0, .inr (2, [.int 0, .int 0, .null, .null, .null, .null, .null, .null, .null, .null, .null, .null, .null, .null, .null, .null, .long 0]))] sz)) (va_A [(h0, .inr (2, [.int 0, .int 0, .null, .null, .null, .null, .null, .null, .null, .null, .null, .null, .null, .null, .null, .null, .long 0]))] sz)) 14 1414 (va_A [(h0, .inr (2, [.int 0, .int 0, .null, .null, .null, .null, .null, .null, .null, .null, .null, .null, .null, .null, .null, .null, .long 0]))] sz) := by
  refine Met.ofW (cc := b_M_init) (maxL := 1) (ret := none) (by decide) rfl ?_
  intro p e s m args below meth c s₁ B hml hv
  obtain ⟨rfl, hsz, hP, hK, hN⟩ := hv
  have hx := B.exec
  have hb := B.bytes
  have hr := B.returns
  have htB : ∀ w ∈ BIG, w.before _ s = true := fun w h => atoms_spec (ws := cw_M_init :: BIG) B.pre w (List.mem_cons_of_mem _ h)
  have hown : s.vm.findClass R_M = some m.cls := findClass_of_methodNamed B.named
  have hlocks := B.notSynchronized
  have hin : meth.name = "<init>" := (name_of_methodNamed B.named B.method).1
  subst hsz
  have hD : va_D (va_A [(h0, .inr (2, [.int 0, .int 0, .null, .null, .null, .null, .null, .null, .null, .null, .null, .null, .null, .null, .null, .null, .long 0]))] s.heap.size) [(h0, .inr (2, [.int 0, .int 0, .null, .null, .null, .null, .null, .null, .null, .null, .null, .null, .null, .null, .null, .null, .long 0]))] := nD.self
  generalize hAe : va_A [(h0, .inr (2, [.int 0, .int 0, .null, .null, .null, .null, .null, .null, .null, .null, .null, .null, .null, .null, .null, .null, .long 0]))] s.heap.size = A at hD ⊢
  have hA : ∀ q : Nat, s.heap.size ≤ q → A q := fun q h => by rw [← hAe]; exact Or.inr h
  have hS : va_S A s.heap s.heap [] := va_S.rf
  have hl := lv_entry ([.ref h0]) (n := 1) (Nat.le_of_ble_eq_true rfl)
  rw [lg_entry_eq]
  generalize (lg_sl ([.ref h0]) ++ List.replicate (1 - (lg_sl ([.ref h0])).length) Slot.unset).toArray = ls at hl ⊢
  have hl : lv_has ls 1 [(0, .ref h0)] := hl
  refine lv_aload_n hx hb d_M_init_0 rfl (lv_at hl 0 rfl) ?_
  refine W.objInit hx hb hown (htB _ ml_M_1) (htB _ im_obj) (htB _ co_obj) rfl (by rw [hml]; exact hl.1) rfl d_M_init_1 (Nat.le_of_ble_eq_true rfl) (Nat.le_of_ble_eq_true rfl) ?_
  refine W.eq (g2 := F0 m 4 ls []) rfl ?_
  refine lv_aload_n hx hb d_M_init_4 rfl (lv_at hl 0 rfl) ?_
  refine lv_bipush (v := 101) hx hb d_M_init_5 (by decide) ?_
  refine va_newa (atype := .int) (ty := .int) (N' := 101) (a0 := (101, .inl (fun _ => 0))) hx hb (htB _ ac_int) rfl hK hP hD hS hA (fun _ => rfl) (by decide) (by decide) (by decide) (Nat.le_of_ble_eq_true rfl) (Nat.le_of_ble_eq_true rfl) d_M_init_7 (fun p0 c0 H hK hP hD hS => ?_)
  have hP : va_P D cls_ [(h0, .inr (2, [.int 0, .int 0, .null, .null, .null, .null, .null, .null, .null, .null, .null, .null, .null, .null, .null, .null, .long 0])), (p0, .inl (c0, 101, .inl (fun _ => 0)))] H := hP
  have hD : va_D A [(h0, .inr (2, [.int 0, .int 0, .null, .null, .null, .null, .null, .null, .null, .null, .null, .null, .null, .null, .null, .null, .long 0])), (p0, .inl (c0, 101, .inl (fun _ => 0)))] := hD
  have hK : va_K D cls_ [(c0, .int)] s := hK
  refine va_putF (D := D) (ci := 2) (v := .ref p0) (ty := .array .int) (C := R_M) (T := F_M) (N := 17) hx hb htB uw_M t_M t_M_ok n_M hown hK hP hD hS 0 rfl rfl 2 (by decide) (htB _ fl_M_7) (fun _ h9 => h9) rfl hin rfl (t_M_ok 2 (by decide)) rfl rfl (Nat.le_of_ble_eq_true rfl) d_M_init_9 (fun H locs hP hD hS => ?_)
  have hP : va_P D cls_ [(h0, .inr (2, [.int 0, .int 0, .ref p0, .null, .null, .null, .null, .null, .null, .null, .null, .null, .null, .null, .null, .null, .long 0])), (p0, .inl (c0, 101, .inl (fun _ => 0)))] H := hP
  have hD : va_D A [(h0, .inr (2, [.int 0, .int 0, .ref p0, .null, .null, .null, .null, .null, .null, .null, .null, .null, .null, .null, .null, .null, .long 0])), (p0, .inl (c0, 101, .inl (fun _ => 0)))] := hD
  refine lv_aload_n hx hb d_M_init_12 rfl (lv_at hl 0 rfl) ?_
  refine lv_bipush (v := 101) hx hb d_M_init_13 (by decide) ?_
  refine va_newa (atype := .int) (ty := .int) (N' := 101) (a0 := (101, .inl (fun _ => 0))) hx hb (htB _ ac_int) rfl hK hP hD hS hA (fun _ => rfl) (by decide) (by decide) (by decide) (Nat.le_of_ble_eq_true rfl) (Nat.le_of_ble_eq_true rfl) d_M_init_15 (fun p1 c1 H hK hP hD hS => ?_)
  have hP : va_P D cls_ [(h0, .inr (2, [.int 0, .int 0, .ref p0, .null, .null, .null, .null, .null, .null, .null, .null, .null, .null, .null, .null, .null, .long 0])), (p0, .inl (c0, 101, .inl (fun _ => 0))), (p1, .inl (c1, 101, .inl (fun _ => 0)))] H := hP
  have hD : va_D A [(h0, .inr (2, [.int 0, .int 0, .ref p0, .null, .null, .null, .null, .null, .null, .null, .null, .null, .null, .null, .null, .null, .long 0])), (p0, .inl (c0, 101, .inl (fun _ => 0))), (p1, .inl (c1, 101, .inl (fun _ => 0)))] := hD
  have hK : va_K D cls_ [(c0, .int), (c1, .int)] s := hK
  refine va_putF (D := D) (ci := 2) (v := .ref p1) (ty := .array .int) (C := R_M) (T := F_M) (N := 17) hx hb htB uw_M t_M t_M_ok n_M hown hK hP hD hS 0 rfl rfl 3 (by decide) (htB _ fl_M_13) (fun _ h9 => h9) rfl hin rfl (t_M_ok 3 (by decide)) rfl rfl (Nat.le_of_ble_eq_true rfl) d_M_init_17 (fun H locs hP hD hS => ?_)
  have hP : va_P D cls_ [(h0, .inr (2, [.int 0, .int 0, .ref p0, .ref p1, .null, .null, .null, .null, .null, .null, .null, .null, .null, .null, .null, .null, .long 0])), (p0, .inl (c0, 101, .inl (fun _ => 0))), (p1, .inl (c1, 101, .inl (fun _ => 0)))] H := hP
  have hD : va_D A [(h0, .inr (2, [.int 0, .int 0, .ref p0, .ref p1, .null, .null, .null, .null, .null, .null, .null, .null, .null, .null, .null, .null, .long 0])), (p0, .inl (c0, 101, .inl (fun _ => 0))), (p1, .inl (c1, 101, .inl (fun _ => 0)))] := hD
  refine lv_aload_n hx hb d_M_init_20 rfl (lv_at hl 0 rfl) ?_
  refine lv_bipush (v := 101) hx hb d_M_init_21 (by decide) ?_
  refine va_newa (atype := .boolean) (ty := .boolean) (N' := 101) (a0 := (101, .inl (fun _ => 0))) hx hb (htB _ ac_boolean) rfl hK hP hD hS hA (fun _ => rfl) (by decide) (by decide) (by decide) (Nat.le_of_ble_eq_true rfl) (Nat.le_of_ble_eq_true rfl) d_M_init_23 (fun p2 c2 H hK hP hD hS => ?_)
  have hP : va_P D cls_ [(h0, .inr (2, [.int 0, .int 0, .ref p0, .ref p1, .null, .null, .null, .null, .null, .null, .null, .null, .null, .null, .null, .null, .long 0])), (p0, .inl (c0, 101, .inl (fun _ => 0))), (p1, .inl (c1, 101, .inl (fun _ => 0))), (p2, .inl (c2, 101, .inl (fun _ => 0)))] H := hP
  have hD : va_D A [(h0, .inr (2, [.int 0, .int 0, .ref p0, .ref p1, .null, .null, .null, .null, .null, .null, .null, .null, .null, .null, .null, .null, .long 0])), (p0, .inl (c0, 101, .inl (fun _ => 0))), (p1, .inl (c1, 101, .inl (fun _ => 0))), (p2, .inl (c2, 101, .inl (fun _ => 0)))] := hD
  have hK : va_K D cls_ [(c0, .int), (c1, .int), (c2, .boolean)] s := hK
  refine va_putF (D := D) (ci := 2) (v := .ref p2) (ty := .array .boolean) (C := R_M) (T := F_M) (N := 17) hx hb htB uw_M t_M t_M_ok n_M hown hK hP hD hS 0 rfl rfl 4 (by decide) (htB _ fl_M_16) (fun _ h9 => h9) rfl hin rfl (t_M_ok 4 (by decide)) rfl rfl (Nat.le_of_ble_eq_true rfl) d_M_init_25 (fun H locs hP hD hS => ?_)
  have hP : va_P D cls_ [(h0, .inr (2, [.int 0, .int 0, .ref p0, .ref p1, .ref p2, .null, .null, .null, .null, .null, .null, .null, .null, .null, .null, .null, .long 0])), (p0, .inl (c0, 101, .inl (fun _ => 0))), (p1, .inl (c1, 101, .inl (fun _ => 0))), (p2, .inl (c2, 101, .inl (fun _ => 0)))] H := hP
  have hD : va_D A [(h0, .inr (2, [.int 0, .int 0, .ref p0, .ref p1, .ref p2, .null, .null, .null, .null, .null, .null, .null, .null, .null, .null, .null, .long 0])), (p0, .inl (c0, 101, .inl (fun _ => 0))), (p1, .inl (c1, 101, .inl (fun _ => 0))), (p2, .inl (c2, 101, .inl (fun _ => 0)))] := hD
  refine lv_aload_n hx hb d_M_init_28 rfl (lv_at hl 0 rfl) ?_
  refine lv_bipush (v := 101) hx hb d_M_init_29 (by decide) ?_
  refine va_newa (atype := .int) (ty := .int) (N' := 101) (a0 := (101, .inl (fun _ => 0))) hx hb (htB _ ac_int) rfl hK hP hD hS hA (fun _ => rfl) (by decide) (by decide) (by decide) (Nat.le_of_ble_eq_true rfl) (Nat.le_of_ble_eq_true rfl) d_M_init_31 (fun p3 c3 H hK hP hD hS => ?_)
  have hP : va_P D cls_ [(h0, .inr (2, [.int 0, .int 0, .ref p0, .ref p1, .ref p2, .null, .null, .null, .null, .null, .null, .null, .null, .null, .null, .null, .long 0])), (p0, .inl (c0, 101, .inl (fun _ => 0))), (p1, .inl (c1, 101, .inl (fun _ => 0))), (p2, .inl (c2, 101, .inl (fun _ => 0))), (p3, .inl (c3, 101, .inl (fun _ => 0)))] H := hP
  have hD : va_D A [(h0, .inr (2, [.int 0, .int 0, .ref p0, .ref p1, .ref p2, .null, .null, .null, .null, .null, .null, .null, .null, .null, .null, .null, .long 0])), (p0, .inl (c0, 101, .inl (fun _ => 0))), (p1, .inl (c1, 101, .inl (fun _ => 0))), (p2, .inl (c2, 101, .inl (fun _ => 0))), (p3, .inl (c3, 101, .inl (fun _ => 0)))] := hD
  have hK : va_K D cls_ [(c0, .int), (c1, .int), (c2, .boolean), (c3, .int)] s := hK
  refine va_putF (D := D) (ci := 2) (v := .ref p3) (ty := .array .int) (C := R_M) (T := F_M) (N := 17) hx hb htB uw_M t_M t_M_ok n_M hown hK hP hD hS 0 rfl rfl 5 (by decide) (htB _ fl_M_20) (fun _ h9 => h9) rfl hin rfl (t_M_ok 5 (by decide)) rfl rfl (Nat.le_of_ble_eq_true rfl) d_M_init_33 (fun H locs hP hD hS => ?_)
  have hP : va_P D cls_ [(h0, .inr (2, [.int 0, .int 0, .ref p0, .ref p1, .ref p2, .ref p3, .null, .null, .null, .null, .null, .null, .null, .null, .null, .null, .long 0])), (p0, .inl (c0, 101, .inl (fun _ => 0))), (p1, .inl (c1, 101, .inl (fun _ => 0))), (p2, .inl (c2, 101, .inl (fun _ => 0))), (p3, .inl (c3, 101, .inl (fun _ => 0)))] H := hP
  have hD : va_D A [(h0, .inr (2, [.int 0, .int 0, .ref p0, .ref p1, .ref p2, .ref p3, .null, .null, .null, .null, .null, .null, .null, .null, .null, .null, .long 0])), (p0, .inl (c0, 101, .inl (fun _ => 0))), (p1, .inl (c1, 101, .inl (fun _ => 0))), (p2, .inl (c2, 101, .inl (fun _ => 0))), (p3, .inl (c3, 101, .inl (fun _ => 0)))] := hD
  refine lv_aload_n hx hb d_M_init_36 rfl (lv_at hl 0 rfl) ?_
  refine lv_bipush (v := 101) hx hb d_M_init_37 (by decide) ?_
  refine va_newa (atype := .int) (ty := .int) (N' := 101) (a0 := (101, .inl (fun _ => 0))) hx hb (htB _ ac_int) rfl hK hP hD hS hA (fun _ => rfl) (by decide) (by decide) (by decide) (Nat.le_of_ble_eq_true rfl) (Nat.le_of_ble_eq_true rfl) d_M_init_39 (fun p4 c4 H hK hP hD hS => ?_)
  have hP : va_P D cls_ [(h0, .inr (2, [.int 0, .int 0, .ref p0, .ref p1, .ref p2, .ref p3, .null, .null, .null, .null, .null, .null, .null, .null, .null, .null, .long 0])), (p0, .inl (c0, 101, .inl (fun _ => 0))), (p1, .inl (c1, 101, .inl (fun _ => 0))), (p2, .inl (c2, 101, .inl (fun _ => 0))), (p3, .inl (c3, 101, .inl (fun _ => 0))), (p4, .inl (c4, 101, .inl (fun _ => 0)))] H := hP
  have hD : va_D A [(h0, .inr (2, [.int 0, .int 0, .ref p0, .ref p1, .ref p2, .ref p3, .null, .null, .null, .null, .null, .null, .null, .null, .null, .null, .long 0])), (p0, .inl (c0, 101, .inl (fun _ => 0))), (p1, .inl (c1, 101, .inl (fun _ => 0))), (p2, .inl (c2, 101, .inl (fun _ => 0))), (p3, .inl (c3, 101, .inl (fun _ => 0))), (p4, .inl (c4, 101, .inl (fun _ => 0)))] := hD
  have hK : va_K D cls_ [(c0, .int), (c1, .int), (c2, .boolean), (c3, .int), (c4, .int)] s := hK
  refine va_putF (D := D) (ci := 2) (v := .ref p4) (ty := .array .int) (C := R_M) (T := F_M) (N := 17) hx hb htB uw_M t_M t_M_ok n_M hown hK hP hD hS 0 rfl rfl 6 (by decide) (htB _ fl_M_23) (fun _ h9 => h9) rfl hin rfl (t_M_ok 6 (by decide)) rfl rfl (Nat.le_of_ble_eq_true rfl) d_M_init_41 (fun H locs hP hD hS => ?_)
  have hP : va_P D cls_ [(h0, .inr (2, [.int 0, .int 0, .ref p0, .ref p1, .ref p2, .ref p3, .ref p4, .null, .null, .null, .null, .null, .null, .null, .null, .null, .long 0])), (p0, .inl (c0, 101, .inl (fun _ => 0))), (p1, .inl (c1, 101, .inl (fun _ => 0))), (p2, .inl (c2, 101, .inl (fun _ => 0))), (p3, .inl (c3, 101, .inl (fun _ => 0))), (p4, .inl (c4, 101, .inl (fun _ => 0)))] H := hP
  have hD : va_D A [(h0, .inr (2, [.int 0, .int 0, .ref p0, .ref p1, .ref p2, .ref p3, .ref p4, .null, .null, .null, .null, .null, .null, .null, .null, .null, .long 0])), (p0, .inl (c0, 101, .inl (fun _ => 0))), (p1, .inl (c1, 101, .inl (fun _ => 0))), (p2, .inl (c2, 101, .inl (fun _ => 0))), (p3, .inl (c3, 101, .inl (fun _ => 0))), (p4, .inl (c4, 101, .inl (fun _ => 0)))] := hD
  refine lv_aload_n hx hb d_M_init_44 rfl (lv_at hl 0 rfl) ?_
  refine lv_bipush (v := 101) hx hb d_M_init_45 (by decide) ?_
  refine va_newa (atype := .boolean) (ty := .boolean) (N' := 101) (a0 := (101, .inl (fun _ => 0))) hx hb (htB _ ac_boolean) rfl hK hP hD hS hA (fun _ => rfl) (by decide) (by decide) (by decide) (Nat.le_of_ble_eq_true rfl) (Nat.le_of_ble_eq_true rfl) d_M_init_47 (fun p5 c5 H hK hP hD hS => ?_)
  have hP : va_P D cls_ [(h0, .inr (2, [.int 0, .int 0, .ref p0, .ref p1, .ref p2, .ref p3, .ref p4, .null, .null, .null, .null, .null, .null, .null, .null, .null, .long 0])), (p0, .inl (c0, 101, .inl (fun _ => 0))), (p1, .inl (c1, 101, .inl (fun _ => 0))), (p2, .inl (c2, 101, .inl (fun _ => 0))), (p3, .inl (c3, 101, .inl (fun _ => 0))), (p4, .inl (c4, 101, .inl (fun _ => 0))), (p5, .inl (c5, 101, .inl (fun _ => 0)))] H := hP
  have hD : va_D A [(h0, .inr (2, [.int 0, .int 0, .ref p0, .ref p1, .ref p2, .ref p3, .ref p4, .null, .null, .null, .null, .null, .null, .null, .null, .null, .long 0])), (p0, .inl (c0, 101, .inl (fun _ => 0))), (p1, .inl (c1, 101, .inl (fun _ => 0))), (p2, .inl (c2, 101, .inl (fun _ => 0))), (p3, .inl (c3, 101, .inl (fun _ => 0))), (p4, .inl (c4, 101, .inl (fun _ => 0))), (p5, .inl (c5, 101, .inl (fun _ => 0)))] := hD
  have hK : va_K D cls_ [(c0, .int), (c1, .int), (c2, .boolean), (c3, .int), (c4, .int), (c5, .boolean)] s := hK
  refine va_putF (D := D) (ci := 2) (v := .ref p5) (ty := .array .boolean) (C := R_M) (T := F_M) (N := 17) hx hb htB uw_M t_M t_M_ok n_M hown hK hP hD hS 0 rfl rfl 7 (by decide) (htB _ fl_M_26) (fun _ h9 => h9) rfl hin rfl (t_M_ok 7 (by decide)) rfl rfl (Nat.le_of_ble_eq_true rfl) d_M_init_49 (fun H locs hP hD hS => ?_)
  have hP : va_P D cls_ [(h0, .inr (2, [.int 0, .int 0, .ref p0, .ref p1, .ref p2, .ref p3, .ref p4, .ref p5, .null, .null, .null, .null, .null, .null, .null, .null, .long 0])), (p0, .inl (c0, 101, .inl (fun _ => 0))), (p1, .inl (c1, 101, .inl (fun _ => 0))), (p2, .inl (c2, 101, .inl (fun _ => 0))), (p3, .inl (c3, 101, .inl (fun _ => 0))), (p4, .inl (c4, 101, .inl (fun _ => 0))), (p5, .inl (c5, 101, .inl (fun _ => 0)))] H := hP
  have hD : va_D A [(h0, .inr (2, [.int 0, .int 0, .ref p0, .ref p1, .ref p2, .ref p3, .ref p4, .ref p5, .null, .null, .null, .null, .null, .null, .null, .null, .long 0])), (p0, .inl (c0, 101, .inl (fun _ => 0))), (p1, .inl (c1, 101, .inl (fun _ => 0))), (p2, .inl (c2, 101, .inl (fun _ => 0))), (p3, .inl (c3, 101, .inl (fun _ => 0))), (p4, .inl (c4, 101, .inl (fun _ => 0))), (p5, .inl (c5, 101, .inl (fun _ => 0)))] := hD
  refine lv_aload_n hx hb d_M_init_52 rfl (lv_at hl 0 rfl) ?_
  refine lv_bipush (v := 101) hx hb d_M_init_53 (by decide) ?_
  refine va_newa (atype := .boolean) (ty := .boolean) (N' := 101) (a0 := (101, .inl (fun _ => 0))) hx hb (htB _ ac_boolean) rfl hK hP hD hS hA (fun _ => rfl) (by decide) (by decide) (by decide) (Nat.le_of_ble_eq_true rfl) (Nat.le_of_ble_eq_true rfl) d_M_init_55 (fun p6 c6 H hK hP hD hS => ?_)
  have hP : va_P D cls_ [(h0, .inr (2, [.int 0, .int 0, .ref p0, .ref p1, .ref p2, .ref p3, .ref p4, .ref p5, .null, .null, .null, .null, .null, .null, .null, .null, .long 0])), (p0, .inl (c0, 101, .inl (fun _ => 0))), (p1, .inl (c1, 101, .inl (fun _ => 0))), (p2, .inl (c2, 101, .inl (fun _ => 0))), (p3, .inl (c3, 101, .inl (fun _ => 0))), (p4, .inl (c4, 101, .inl (fun _ => 0))), (p5, .inl (c5, 101, .inl (fun _ => 0))), (p6, .inl (c6, 101, .inl (fun _ => 0)))] H := hP
  have hD : va_D A [(h0, .inr (2, [.int 0, .int 0, .ref p0, .ref p1, .ref p2, .ref p3, .ref p4, .ref p5, .null, .null, .null, .null, .null, .null, .null, .null, .long 0])), (p0, .inl (c0, 101, .inl (fun _ => 0))), (p1, .inl (c1, 101, .inl (fun _ => 0))), (p2, .inl (c2, 101, .inl (fun _ => 0))), (p3, .inl (c3, 101, .inl (fun _ => 0))), (p4, .inl (c4, 101, .inl (fun _ => 0))), (p5, .inl (c5, 101, .inl (fun _ => 0))), (p6, .inl (c6, 101, .inl (fun _ => 0)))] := hD
  have hK : va_K D cls_ [(c0, .int), (c1, .int), (c2, .boolean), (c3, .int), (c4, .int), (c5, .boolean), (c6, .boolean)] s := hK
  refine va_putF (D := D) (ci := 2) (v := .ref p6) (ty := .array .boolean) (C := R_M) (T := F_M) (N := 17) hx hb htB uw_M t_M t_M_ok n_M hown hK hP hD hS 0 rfl rfl 8 (by decide) (htB _ fl_M_29) (fun _ h9 => h9) rfl hin rfl (t_M_ok 8 (by decide)) rfl rfl (Nat.le_of_ble_eq_true rfl) d_M_init_57 (fun H locs hP hD hS => ?_)
  have hP : va_P D cls_ [(h0, .inr (2, [.int 0, .int 0, .ref p0, .ref p1, .ref p2, .ref p3, .ref p4, .ref p5, .ref p6, .null, .null, .null, .null, .null, .null, .null, .long 0])), (p0, .inl (c0, 101, .inl (fun _ => 0))), (p1, .inl (c1, 101, .inl (fun _ => 0))), (p2, .inl (c2, 101, .inl (fun _ => 0))), (p3, .inl (c3, 101, .inl (fun _ => 0))), (p4, .inl (c4, 101, .inl (fun _ => 0))), (p5, .inl (c5, 101, .inl (fun _ => 0))), (p6, .inl (c6, 101, .inl (fun _ => 0)))] H := hP
  have hD : va_D A [(h0, .inr (2, [.int 0, .int 0, .ref p0, .ref p1, .ref p2, .ref p3, .ref p4, .ref p5, .ref p6, .null, .null, .null, .null, .null, .null, .null, .long 0])), (p0, .inl (c0, 101, .inl (fun _ => 0))), (p1, .inl (c1, 101, .inl (fun _ => 0))), (p2, .inl (c2, 101, .inl (fun _ => 0))), (p3, .inl (c3, 101, .inl (fun _ => 0))), (p4, .inl (c4, 101, .inl (fun _ => 0))), (p5, .inl (c5, 101, .inl (fun _ => 0))), (p6, .inl (c6, 101, .inl (fun _ => 0)))] := hD
  refine lv_aload_n hx hb d_M_init_60 rfl (lv_at hl 0 rfl) ?_
  refine lv_bipush (v := 101) hx hb d_M_init_61 (by decide) ?_
  refine va_newa (atype := .int) (ty := .int) (N' := 101) (a0 := (101, .inl (fun _ => 0))) hx hb (htB _ ac_int) rfl hK hP hD hS hA (fun _ => rfl) (by decide) (by decide) (by decide) (Nat.le_of_ble_eq_true rfl) (Nat.le_of_ble_eq_true rfl) d_M_init_63 (fun p7 c7 H hK hP hD hS => ?_)
  have hP : va_P D cls_ [(h0, .inr (2, [.int 0, .int 0, .ref p0, .ref p1, .ref p2, .ref p3, .ref p4, .ref p5, .ref p6, .null, .null, .null, .null, .null, .null, .null, .long 0])), (p0, .inl (c0, 101, .inl (fun _ => 0))), (p1, .inl (c1, 101, .inl (fun _ => 0))), (p2, .inl (c2, 101, .inl (fun _ => 0))), (p3, .inl (c3, 101, .inl (fun _ => 0))), (p4, .inl (c4, 101, .inl (fun _ => 0))), (p5, .inl (c5, 101, .inl (fun _ => 0))), (p6, .inl (c6, 101, .inl (fun _ => 0))), (p7, .inl (c7, 101, .inl (fun _ => 0)))] H := hP
  have hD : va_D A [(h0, .inr (2, [.int 0, .int 0, .ref p0, .ref p1, .ref p2, .ref p3, .ref p4, .ref p5, .ref p6, .null, .null, .null, .null, .null, .null, .null, .long 0])), (p0, .inl (c0, 101, .inl (fun _ => 0))), (p1, .inl (c1, 101, .inl (fun _ => 0))), (p2, .inl (c2, 101, .inl (fun _ => 0))), (p3, .inl (c3, 101, .inl (fun _ => 0))), (p4, .inl (c4, 101, .inl (fun _ => 0))), (p5, .inl (c5, 101, .inl (fun _ => 0))), (p6, .inl (c6, 101, .inl (fun _ => 0))), (p7, .inl (c7, 101, .inl (fun _ => 0)))] := hD
  have hK : va_K D cls_ [(c0, .int), (c1, .int), (c2, .boolean), (c3, .int), (c4, .int), (c5, .boolean), (c6, .boolean), (c7, .int)] s := hK
  refine va_putF (D := D) (ci := 2) (v := .ref p7) (ty := .array .int) (C := R_M) (T := F_M) (N := 17) hx hb htB uw_M t_M t_M_ok n_M hown hK hP hD hS 0 rfl rfl 9 (by decide) (htB _ fl_M_32) (fun _ h9 => h9) rfl hin rfl (t_M_ok 9 (by decide)) rfl rfl (Nat.le_of_ble_eq_true rfl) d_M_init_65 (fun H locs hP hD hS => ?_)
  have hP : va_P D cls_ [(h0, .inr (2, [.int 0, .int 0, .ref p0, .ref p1, .ref p2, .ref p3, .ref p4, .ref p5, .ref p6, .ref p7, .null, .null, .null, .null, .null, .null, .long 0])), (p0, .inl (c0, 101, .inl (fun _ => 0))), (p1, .inl (c1, 101, .inl (fun _ => 0))), (p2, .inl (c2, 101, .inl (fun _ => 0))), (p3, .inl (c3, 101, .inl (fun _ => 0))), (p4, .inl (c4, 101, .inl (fun _ => 0))), (p5, .inl (c5, 101, .inl (fun _ => 0))), (p6, .inl (c6, 101, .inl (fun _ => 0))), (p7, .inl (c7, 101, .inl (fun _ => 0)))] H := hP
  have hD : va_D A [(h0, .inr (2, [.int 0, .int 0, .ref p0, .ref p1, .ref p2, .ref p3, .ref p4, .ref p5, .ref p6, .ref p7, .null, .null, .null, .null, .null, .null, .long 0])), (p0, .inl (c0, 101, .inl (fun _ => 0))), (p1, .inl (c1, 101, .inl (fun _ => 0))), (p2, .inl (c2, 101, .inl (fun _ => 0))), (p3, .inl (c3, 101, .inl (fun _ => 0))), (p4, .inl (c4, 101, .inl (fun _ => 0))), (p5, .inl (c5, 101, .inl (fun _ => 0))), (p6, .inl (c6, 101, .inl (fun _ => 0))), (p7, .inl (c7, 101, .inl (fun _ => 0)))] := hD
  refine lv_aload_n hx hb d_M_init_68 rfl (lv_at hl 0 rfl) ?_
  refine lv_bipush (v := 101) hx hb d_M_init_69 (by decide) ?_
  refine va_newa (atype := .boolean) (ty := .boolean) (N' := 101) (a0 := (101, .inl (fun _ => 0))) hx hb (htB _ ac_boolean) rfl hK hP hD hS hA (fun _ => rfl) (by decide) (by decide) (by decide) (Nat.le_of_ble_eq_true rfl) (Nat.le_of_ble_eq_true rfl) d_M_init_71 (fun p8 c8 H hK hP hD hS => ?_)
  have hP : va_P D cls_ [(h0, .inr (2, [.int 0, .int 0, .ref p0, .ref p1, .ref p2, .ref p3, .ref p4, .ref p5, .ref p6, .ref p7, .null, .null, .null, .null, .null, .null, .long 0])), (p0, .inl (c0, 101, .inl (fun _ => 0))), (p1, .inl (c1, 101, .inl (fun _ => 0))), (p2, .inl (c2, 101, .inl (fun _ => 0))), (p3, .inl (c3, 101, .inl (fun _ => 0))), (p4, .inl (c4, 101, .inl (fun _ => 0))), (p5, .inl (c5, 101, .inl (fun _ => 0))), (p6, .inl (c6, 101, .inl (fun _ => 0))), (p7, .inl (c7, 101, .inl (fun _ => 0))), (p8, .inl (c8, 101, .inl (fun _ => 0)))] H := hP
  have hD : va_D A [(h0, .inr (2, [.int 0, .int 0, .ref p0, .ref p1, .ref p2, .ref p3, .ref p4, .ref p5, .ref p6, .ref p7, .null, .null, .null, .null, .null, .null, .long 0])), (p0, .inl (c0, 101, .inl (fun _ => 0))), (p1, .inl (c1, 101, .inl (fun _ => 0))), (p2, .inl (c2, 101, .inl (fun _ => 0))), (p3, .inl (c3, 101, .inl (fun _ => 0))), (p4, .inl (c4, 101, .inl (fun _ => 0))), (p5, .inl (c5, 101, .inl (fun _ => 0))), (p6, .inl (c6, 101, .inl (fun _ => 0))), (p7, .inl (c7, 101, .inl (fun _ => 0))), (p8, .inl (c8, 101, .inl (fun _ => 0)))] := hD
  have hK : va_K D cls_ [(c0, .int), (c1, .int), (c2, .boolean), (c3, .int), (c4, .int), (c5, .boolean), (c6, .boolean), (c7, .int), (c8, .boolean)] s := hK
  refine va_putF (D := D) (ci := 2) (v := .ref p8) (ty := .array .boolean) (C := R_M) (T := F_M) (N := 17) hx hb htB uw_M t_M t_M_ok n_M hown hK hP hD hS 0 rfl rfl 10 (by decide) (htB _ fl_M_35) (fun _ h9 => h9) rfl hin rfl (t_M_ok 10 (by decide)) rfl rfl (Nat.le_of_ble_eq_true rfl) d_M_init_73 (fun H locs hP hD hS => ?_)
  have hP : va_P D cls_ [(h0, .inr (2, [.int 0, .int 0, .ref p0, .ref p1, .ref p2, .ref p3, .ref p4, .ref p5, .ref p6, .ref p7, .ref p8, .null, .null, .null, .null, .null, .long 0])), (p0, .inl (c0, 101, .inl (fun _ => 0))), (p1, .inl (c1, 101, .inl (fun _ => 0))), (p2, .inl (c2, 101, .inl (fun _ => 0))), (p3, .inl (c3, 101, .inl (fun _ => 0))), (p4, .inl (c4, 101, .inl (fun _ => 0))), (p5, .inl (c5, 101, .inl (fun _ => 0))), (p6, .inl (c6, 101, .inl (fun _ => 0))), (p7, .inl (c7, 101, .inl (fun _ => 0))), (p8, .inl (c8, 101, .inl (fun _ => 0)))] H := hP
  have hD : va_D A [(h0, .inr (2, [.int 0, .int 0, .ref p0, .ref p1, .ref p2, .ref p3, .ref p4, .ref p5, .ref p6, .ref p7, .ref p8, .null, .null, .null, .null, .null, .long 0])), (p0, .inl (c0, 101, .inl (fun _ => 0))), (p1, .inl (c1, 101, .inl (fun _ => 0))), (p2, .inl (c2, 101, .inl (fun _ => 0))), (p3, .inl (c3, 101, .inl (fun _ => 0))), (p4, .inl (c4, 101, .inl (fun _ => 0))), (p5, .inl (c5, 101, .inl (fun _ => 0))), (p6, .inl (c6, 101, .inl (fun _ => 0))), (p7, .inl (c7, 101, .inl (fun _ => 0))), (p8, .inl (c8, 101, .inl (fun _ => 0)))] := hD
  refine lv_aload_n hx hb d_M_init_76 rfl (lv_at hl 0 rfl) ?_
  refine lv_bipush (v := 101) hx hb d_M_init_77 (by decide) ?_
  refine va_newa (atype := .long) (ty := .long) (N' := 101) (a0 := (101, .inr (.inl (fun _ => 0)))) hx hb (htB _ ac_long) rfl hK hP hD hS hA (fun _ => rfl) (by decide) (by decide) (by decide) (Nat.le_of_ble_eq_true rfl) (Nat.le_of_ble_eq_true rfl) d_M_init_79 (fun p9 c9 H hK hP hD hS => ?_)
  have hP : va_P D cls_ [(h0, .inr (2, [.int 0, .int 0, .ref p0, .ref p1, .ref p2, .ref p3, .ref p4, .ref p5, .ref p6, .ref p7, .ref p8, .null, .null, .null, .null, .null, .long 0])), (p0, .inl (c0, 101, .inl (fun _ => 0))), (p1, .inl (c1, 101, .inl (fun _ => 0))), (p2, .inl (c2, 101, .inl (fun _ => 0))), (p3, .inl (c3, 101, .inl (fun _ => 0))), (p4, .inl (c4, 101, .inl (fun _ => 0))), (p5, .inl (c5, 101, .inl (fun _ => 0))), (p6, .inl (c6, 101, .inl (fun _ => 0))), (p7, .inl (c7, 101, .inl (fun _ => 0))), (p8, .inl (c8, 101, .inl (fun _ => 0))), (p9, .inl (c9, 101, .inr (.inl (fun _ => 0))))] H := hP
  have hD : va_D A [(h0, .inr (2, [.int 0, .int 0, .ref p0, .ref p1, .ref p2, .ref p3, .ref p4, .ref p5, .ref p6, .ref p7, .ref p8, .null, .null, .null, .null, .null, .long 0])), (p0, .inl (c0, 101, .inl (fun _ => 0))), (p1, .inl (c1, 101, .inl (fun _ => 0))), (p2, .inl (c2, 101, .inl (fun _ => 0))), (p3, .inl (c3, 101, .inl (fun _ => 0))), (p4, .inl (c4, 101, .inl (fun _ => 0))), (p5, .inl (c5, 101, .inl (fun _ => 0))), (p6, .inl (c6, 101, .inl (fun _ => 0))), (p7, .inl (c7, 101, .inl (fun _ => 0))), (p8, .inl (c8, 101, .inl (fun _ => 0))), (p9, .inl (c9, 101, .inr (.inl (fun _ => 0))))] := hD
  have hK : va_K D cls_ [(c0, .int), (c1, .int), (c2, .boolean), (c3, .int), (c4, .int), (c5, .boolean), (c6, .boolean), (c7, .int), (c8, .boolean), (c9, .long)] s := hK
  refine va_putF (D := D) (ci := 2) (v := .ref p9) (ty := .array .long) (C := R_M) (T := F_M) (N := 17) hx hb htB uw_M t_M t_M_ok n_M hown hK hP hD hS 0 rfl rfl 11 (by decide) (htB _ fl_M_38) (fun _ h9 => h9) rfl hin rfl (t_M_ok 11 (by decide)) rfl rfl (Nat.le_of_ble_eq_true rfl) d_M_init_81 (fun H locs hP hD hS => ?_)
  have hP : va_P D cls_ [(h0, .inr (2, [.int 0, .int 0, .ref p0, .ref p1, .ref p2, .ref p3, .ref p4, .ref p5, .ref p6, .ref p7, .ref p8, .ref p9, .null, .null, .null, .null, .long 0])), (p0, .inl (c0, 101, .inl (fun _ => 0))), (p1, .inl (c1, 101, .inl (fun _ => 0))), (p2, .inl (c2, 101, .inl (fun _ => 0))), (p3, .inl (c3, 101, .inl (fun _ => 0))), (p4, .inl (c4, 101, .inl (fun _ => 0))), (p5, .inl (c5, 101, .inl (fun _ => 0))), (p6, .inl (c6, 101, .inl (fun _ => 0))), (p7, .inl (c7, 101, .inl (fun _ => 0))), (p8, .inl (c8, 101, .inl (fun _ => 0))), (p9, .inl (c9, 101, .inr (.inl (fun _ => 0))))] H := hP
  have hD : va_D A [(h0, .inr (2, [.int 0, .int 0, .ref p0, .ref p1, .ref p2, .ref p3, .ref p4, .ref p5, .ref p6, .ref p7, .ref p8, .ref p9, .null, .null, .null, .null, .long 0])), (p0, .inl (c0, 101, .inl (fun _ => 0))), (p1, .inl (c1, 101, .inl (fun _ => 0))), (p2, .inl (c2, 101, .inl (fun _ => 0))), (p3, .inl (c3, 101, .inl (fun _ => 0))), (p4, .inl (c4, 101, .inl (fun _ => 0))), (p5, .inl (c5, 101, .inl (fun _ => 0))), (p6, .inl (c6, 101, .inl (fun _ => 0))), (p7, .inl (c7, 101, .inl (fun _ => 0))), (p8, .inl (c8, 101, .inl (fun _ => 0))), (p9, .inl (c9, 101, .inr (.inl (fun _ => 0))))] := hD
  refine lv_aload_n hx hb d_M_init_84 rfl (lv_at hl 0 rfl) ?_
  refine lv_bipush (v := 101) hx hb d_M_init_85 (by decide) ?_
  refine va_newa (atype := .boolean) (ty := .boolean) (N' := 101) (a0 := (101, .inl (fun _ => 0))) hx hb (htB _ ac_boolean) rfl hK hP hD hS hA (fun _ => rfl) (by decide) (by decide) (by decide) (Nat.le_of_ble_eq_true rfl) (Nat.le_of_ble_eq_true rfl) d_M_init_87 (fun p10 c10 H hK hP hD hS => ?_)
  have hP : va_P D cls_ [(h0, .inr (2, [.int 0, .int 0, .ref p0, .ref p1, .ref p2, .ref p3, .ref p4, .ref p5, .ref p6, .ref p7, .ref p8, .ref p9, .null, .null, .null, .null, .long 0])), (p0, .inl (c0, 101, .inl (fun _ => 0))), (p1, .inl (c1, 101, .inl (fun _ => 0))), (p2, .inl (c2, 101, .inl (fun _ => 0))), (p3, .inl (c3, 101, .inl (fun _ => 0))), (p4, .inl (c4, 101, .inl (fun _ => 0))), (p5, .inl (c5, 101, .inl (fun _ => 0))), (p6, .inl (c6, 101, .inl (fun _ => 0))), (p7, .inl (c7, 101, .inl (fun _ => 0))), (p8, .inl (c8, 101, .inl (fun _ => 0))), (p9, .inl (c9, 101, .inr (.inl (fun _ => 0)))), (p10, .inl (c10, 101, .inl (fun _ => 0)))] H := hP
  have hD : va_D A [(h0, .inr (2, [.int 0, .int 0, .ref p0, .ref p1, .ref p2, .ref p3, .ref p4, .ref p5, .ref p6, .ref p7, .ref p8, .ref p9, .null, .null, .null, .null, .long 0])), (p0, .inl (c0, 101, .inl (fun _ => 0))), (p1, .inl (c1, 101, .inl (fun _ => 0))), (p2, .inl (c2, 101, .inl (fun _ => 0))), (p3, .inl (c3, 101, .inl (fun _ => 0))), (p4, .inl (c4, 101, .inl (fun _ => 0))), (p5, .inl (c5, 101, .inl (fun _ => 0))), (p6, .inl (c6, 101, .inl (fun _ => 0))), (p7, .inl (c7, 101, .inl (fun _ => 0))), (p8, .inl (c8, 101, .inl (fun _ => 0))), (p9, .inl (c9, 101, .inr (.inl (fun _ => 0)))), (p10, .inl (c10, 101, .inl (fun _ => 0)))] := hD
  have hK : va_K D cls_ [(c0, .int), (c1, .int), (c2, .boolean), (c3, .int), (c4, .int), (c5, .boolean), (c6, .boolean), (c7, .int), (c8, .boolean), (c9, .long), (c10, .boolean)] s := hK
  refine va_putF (D := D) (ci := 2) (v := .ref p10) (ty := .array .boolean) (C := R_M) (T := F_M) (N := 17) hx hb htB uw_M t_M t_M_ok n_M hown hK hP hD hS 0 rfl rfl 12 (by decide) (htB _ fl_M_42) (fun _ h9 => h9) rfl hin rfl (t_M_ok 12 (by decide)) rfl rfl (Nat.le_of_ble_eq_true rfl) d_M_init_89 (fun H locs hP hD hS => ?_)
  have hP : va_P D cls_ [(h0, .inr (2, [.int 0, .int 0, .ref p0, .ref p1, .ref p2, .ref p3, .ref p4, .ref p5, .ref p6, .ref p7, .ref p8, .ref p9, .ref p10, .null, .null, .null, .long 0])), (p0, .inl (c0, 101, .inl (fun _ => 0))), (p1, .inl (c1, 101, .inl (fun _ => 0))), (p2, .inl (c2, 101, .inl (fun _ => 0))), (p3, .inl (c3, 101, .inl (fun _ => 0))), (p4, .inl (c4, 101, .inl (fun _ => 0))), (p5, .inl (c5, 101, .inl (fun _ => 0))), (p6, .inl (c6, 101, .inl (fun _ => 0))), (p7, .inl (c7, 101, .inl (fun _ => 0))), (p8, .inl (c8, 101, .inl (fun _ => 0))), (p9, .inl (c9, 101, .inr (.inl (fun _ => 0)))), (p10, .inl (c10, 101, .inl (fun _ => 0)))] H := hP
  have hD : va_D A [(h0, .inr (2, [.int 0, .int 0, .ref p0, .ref p1, .ref p2, .ref p3, .ref p4, .ref p5, .ref p6, .ref p7, .ref p8, .ref p9, .ref p10, .null, .null, .null, .long 0])), (p0, .inl (c0, 101, .inl (fun _ => 0))), (p1, .inl (c1, 101, .inl (fun _ => 0))), (p2, .inl (c2, 101, .inl (fun _ => 0))), (p3, .inl (c3, 101, .inl (fun _ => 0))), (p4, .inl (c4, 101, .inl (fun _ => 0))), (p5, .inl (c5, 101, .inl (fun _ => 0))), (p6, .inl (c6, 101, .inl (fun _ => 0))), (p7, .inl (c7, 101, .inl (fun _ => 0))), (p8, .inl (c8, 101, .inl (fun _ => 0))), (p9, .inl (c9, 101, .inr (.inl (fun _ => 0)))), (p10, .inl (c10, 101, .inl (fun _ => 0)))] := hD
  refine lv_aload_n hx hb d_M_init_92 rfl (lv_at hl 0 rfl) ?_
  refine lv_bipush (v := 101) hx hb d_M_init_93 (by decide) ?_
  refine va_newa (atype := .int) (ty := .int) (N' := 101) (a0 := (101, .inl (fun _ => 0))) hx hb (htB _ ac_int) rfl hK hP hD hS hA (fun _ => rfl) (by decide) (by decide) (by decide) (Nat.le_of_ble_eq_true rfl) (Nat.le_of_ble_eq_true rfl) d_M_init_95 (fun p11 c11 H hK hP hD hS => ?_)
  have hP : va_P D cls_ [(h0, .inr (2, [.int 0, .int 0, .ref p0, .ref p1, .ref p2, .ref p3, .ref p4, .ref p5, .ref p6, .ref p7, .ref p8, .ref p9, .ref p10, .null, .null, .null, .long 0])), (p0, .inl (c0, 101, .inl (fun _ => 0))), (p1, .inl (c1, 101, .inl (fun _ => 0))), (p2, .inl (c2, 101, .inl (fun _ => 0))), (p3, .inl (c3, 101, .inl (fun _ => 0))), (p4, .inl (c4, 101, .inl (fun _ => 0))), (p5, .inl (c5, 101, .inl (fun _ => 0))), (p6, .inl (c6, 101, .inl (fun _ => 0))), (p7, .inl (c7, 101, .inl (fun _ => 0))), (p8, .inl (c8, 101, .inl (fun _ => 0))), (p9, .inl (c9, 101, .inr (.inl (fun _ => 0)))), (p10, .inl (c10, 101, .inl (fun _ => 0))), (p11, .inl (c11, 101, .inl (fun _ => 0)))] H := hP
  have hD : va_D A [(h0, .inr (2, [.int 0, .int 0, .ref p0, .ref p1, .ref p2, .ref p3, .ref p4, .ref p5, .ref p6, .ref p7, .ref p8, .ref p9, .ref p10, .null, .null, .null, .long 0])), (p0, .inl (c0, 101, .inl (fun _ => 0))), (p1, .inl (c1, 101, .inl (fun _ => 0))), (p2, .inl (c2, 101, .inl (fun _ => 0))), (p3, .inl (c3, 101, .inl (fun _ => 0))), (p4, .inl (c4, 101, .inl (fun _ => 0))), (p5, .inl (c5, 101, .inl (fun _ => 0))), (p6, .inl (c6, 101, .inl (fun _ => 0))), (p7, .inl (c7, 101, .inl (fun _ => 0))), (p8, .inl (c8, 101, .inl (fun _ => 0))), (p9, .inl (c9, 101, .inr (.inl (fun _ => 0)))), (p10, .inl (c10, 101, .inl (fun _ => 0))), (p11, .inl (c11, 101, .inl (fun _ => 0)))] := hD
  have hK : va_K D cls_ [(c0, .int), (c1, .int), (c2, .boolean), (c3, .int), (c4, .int), (c5, .boolean), (c6, .boolean), (c7, .int), (c8, .boolean), (c9, .long), (c10, .boolean), (c11, .int)] s := hK
  refine va_putF (D := D) (ci := 2) (v := .ref p11) (ty := .array .int) (C := R_M) (T := F_M) (N := 17) hx hb htB uw_M t_M t_M_ok n_M hown hK hP hD hS 0 rfl rfl 13 (by decide) (htB _ fl_M_45) (fun _ h9 => h9) rfl hin rfl (t_M_ok 13 (by decide)) rfl rfl (Nat.le_of_ble_eq_true rfl) d_M_init_97 (fun H locs hP hD hS => ?_)
  have hP : va_P D cls_ [(h0, .inr (2, [.int 0, .int 0, .ref p0, .ref p1, .ref p2, .ref p3, .ref p4, .ref p5, .ref p6, .ref p7, .ref p8, .ref p9, .ref p10, .ref p11, .null, .null, .long 0])), (p0, .inl (c0, 101, .inl (fun _ => 0))), (p1, .inl (c1, 101, .inl (fun _ => 0))), (p2, .inl (c2, 101, .inl (fun _ => 0))), (p3, .inl (c3, 101, .inl (fun _ => 0))), (p4, .inl (c4, 101, .inl (fun _ => 0))), (p5, .inl (c5, 101, .inl (fun _ => 0))), (p6, .inl (c6, 101, .inl (fun _ => 0))), (p7, .inl (c7, 101, .inl (fun _ => 0))), (p8, .inl (c8, 101, .inl (fun _ => 0))), (p9, .inl (c9, 101, .inr (.inl (fun _ => 0)))), (p10, .inl (c10, 101, .inl (fun _ => 0))), (p11, .inl (c11, 101, .inl (fun _ => 0)))] H := hP
  have hD : va_D A [(h0, .inr (2, [.int 0, .int 0, .ref p0, .ref p1, .ref p2, .ref p3, .ref p4, .ref p5, .ref p6, .ref p7, .ref p8, .ref p9, .ref p10, .ref p11, .null, .null, .long 0])), (p0, .inl (c0, 101, .inl (fun _ => 0))), (p1, .inl (c1, 101, .inl (fun _ => 0))), (p2, .inl (c2, 101, .inl (fun _ => 0))), (p3, .inl (c3, 101, .inl (fun _ => 0))), (p4, .inl (c4, 101, .inl (fun _ => 0))), (p5, .inl (c5, 101, .inl (fun _ => 0))), (p6, .inl (c6, 101, .inl (fun _ => 0))), (p7, .inl (c7, 101, .inl (fun _ => 0))), (p8, .inl (c8, 101, .inl (fun _ => 0))), (p9, .inl (c9, 101, .inr (.inl (fun _ => 0)))), (p10, .inl (c10, 101, .inl (fun _ => 0))), (p11, .inl (c11, 101, .inl (fun _ => 0)))] := hD
  refine lv_aload_n hx hb d_M_init_100 rfl (lv_at hl 0 rfl) ?_
  refine lv_bipush (v := 101) hx hb d_M_init_101 (by decide) ?_
  refine va_newa (atype := .int) (ty := .int) (N' := 101) (a0 := (101, .inl (fun _ => 0))) hx hb (htB _ ac_int) rfl hK hP hD hS hA (fun _ => rfl) (by decide) (by decide) (by decide) (Nat.le_of_ble_eq_true rfl) (Nat.le_of_ble_eq_true rfl) d_M_init_103 (fun p12 c12 H hK hP hD hS => ?_)
  have hP : va_P D cls_ [(h0, .inr (2, [.int 0, .int 0, .ref p0, .ref p1, .ref p2, .ref p3, .ref p4, .ref p5, .ref p6, .ref p7, .ref p8, .ref p9, .ref p10, .ref p11, .null, .null, .long 0])), (p0, .inl (c0, 101, .inl (fun _ => 0))), (p1, .inl (c1, 101, .inl (fun _ => 0))), (p2, .inl (c2, 101, .inl (fun _ => 0))), (p3, .inl (c3, 101, .inl (fun _ => 0))), (p4, .inl (c4, 101, .inl (fun _ => 0))), (p5, .inl (c5, 101, .inl (fun _ => 0))), (p6, .inl (c6, 101, .inl (fun _ => 0))), (p7, .inl (c7, 101, .inl (fun _ => 0))), (p8, .inl (c8, 101, .inl (fun _ => 0))), (p9, .inl (c9, 101, .inr (.inl (fun _ => 0)))), (p10, .inl (c10, 101, .inl (fun _ => 0))), (p11, .inl (c11, 101, .inl (fun _ => 0))), (p12, .inl (c12, 101, .inl (fun _ => 0)))] H := hP
  have hD : va_D A [(h0, .inr (2, [.int 0, .int 0, .ref p0, .ref p1, .ref p2, .ref p3, .ref p4, .ref p5, .ref p6, .ref p7, .ref p8, .ref p9, .ref p10, .ref p11, .null, .null, .long 0])), (p0, .inl (c0, 101, .inl (fun _ => 0))), (p1, .inl (c1, 101, .inl (fun _ => 0))), (p2, .inl (c2, 101, .inl (fun _ => 0))), (p3, .inl (c3, 101, .inl (fun _ => 0))), (p4, .inl (c4, 101, .inl (fun _ => 0))), (p5, .inl (c5, 101, .inl (fun _ => 0))), (p6, .inl (c6, 101, .inl (fun _ => 0))), (p7, .inl (c7, 101, .inl (fun _ => 0))), (p8, .inl (c8, 101, .inl (fun _ => 0))), (p9, .inl (c9, 101, .inr (.inl (fun _ => 0)))), (p10, .inl (c10, 101, .inl (fun _ => 0))), (p11, .inl (c11, 101, .inl (fun _ => 0))), (p12, .inl (c12, 101, .inl (fun _ => 0)))] := hD
  have hK : va_K D cls_ [(c0, .int), (c1, .int), (c2, .boolean), (c3, .int), (c4, .int), (c5, .boolean), (c6, .boolean), (c7, .int), (c8, .boolean), (c9, .long), (c10, .boolean), (c11, .int), (c12, .int)] s := hK
  refine va_putF (D := D) (ci := 2) (v := .ref p12) (ty := .array .int) (C := R_M) (T := F_M) (N := 17) hx hb htB uw_M t_M t_M_ok n_M hown hK hP hD hS 0 rfl rfl 14 (by decide) (htB _ fl_M_48) (fun _ h9 => h9) rfl hin rfl (t_M_ok 14 (by decide)) rfl rfl (Nat.le_of_ble_eq_true rfl) d_M_init_105 (fun H locs hP hD hS => ?_)
  have hP : va_P D cls_ [(h0, .inr (2, [.int 0, .int 0, .ref p0, .ref p1, .ref p2, .ref p3, .ref p4, .ref p5, .ref p6, .ref p7, .ref p8, .ref p9, .ref p10, .ref p11, .ref p12, .null, .long 0])), (p0, .inl (c0, 101, .inl (fun _ => 0))), (p1, .inl (c1, 101, .inl (fun _ => 0))), (p2, .inl (c2, 101, .inl (fun _ => 0))), (p3, .inl (c3, 101, .inl (fun _ => 0))), (p4, .inl (c4, 101, .inl (fun _ => 0))), (p5, .inl (c5, 101, .inl (fun _ => 0))), (p6, .inl (c6, 101, .inl (fun _ => 0))), (p7, .inl (c7, 101, .inl (fun _ => 0))), (p8, .inl (c8, 101, .inl (fun _ => 0))), (p9, .inl (c9, 101, .inr (.inl (fun _ => 0)))), (p10, .inl (c10, 101, .inl (fun _ => 0))), (p11, .inl (c11, 101, .inl (fun _ => 0))), (p12, .inl (c12, 101, .inl (fun _ => 0)))] H := hP
  have hD : va_D A [(h0, .inr (2, [.int 0, .int 0, .ref p0, .ref p1, .ref p2, .ref p3, .ref p4, .ref p5, .ref p6, .ref p7, .ref p8, .ref p9, .ref p10, .ref p11, .ref p12, .null, .long 0])), (p0, .inl (c0, 101, .inl (fun _ => 0))), (p1, .inl (c1, 101, .inl (fun _ => 0))), (p2, .inl (c2, 101, .inl (fun _ => 0))), (p3, .inl (c3, 101, .inl (fun _ => 0))), (p4, .inl (c4, 101, .inl (fun _ => 0))), (p5, .inl (c5, 101, .inl (fun _ => 0))), (p6, .inl (c6, 101, .inl (fun _ => 0))), (p7, .inl (c7, 101, .inl (fun _ => 0))), (p8, .inl (c8, 101, .inl (fun _ => 0))), (p9, .inl (c9, 101, .inr (.inl (fun _ => 0)))), (p10, .inl (c10, 101, .inl (fun _ => 0))), (p11, .inl (c11, 101, .inl (fun _ => 0))), (p12, .inl (c12, 101, .inl (fun _ => 0)))] := hD
  refine lv_aload_n hx hb d_M_init_108 rfl (lv_at hl 0 rfl) ?_
  refine lv_bipush (v := 101) hx hb d_M_init_109 (by decide) ?_
  refine va_newa (atype := .int) (ty := .int) (N' := 101) (a0 := (101, .inl (fun _ => 0))) hx hb (htB _ ac_int) rfl hK hP hD hS hA (fun _ => rfl) (by decide) (by decide) (by decide) (Nat.le_of_ble_eq_true rfl) (Nat.le_of_ble_eq_true rfl) d_M_init_111 (fun p13 c13 H hK hP hD hS => ?_)
  have hP : va_P D cls_ [(h0, .inr (2, [.int 0, .int 0, .ref p0, .ref p1, .ref p2, .ref p3, .ref p4, .ref p5, .ref p6, .ref p7, .ref p8, .ref p9, .ref p10, .ref p11, .ref p12, .null, .long 0])), (p0, .inl (c0, 101, .inl (fun _ => 0))), (p1, .inl (c1, 101, .inl (fun _ => 0))), (p2, .inl (c2, 101, .inl (fun _ => 0))), (p3, .inl (c3, 101, .inl (fun _ => 0))), (p4, .inl (c4, 101, .inl (fun _ => 0))), (p5, .inl (c5, 101, .inl (fun _ => 0))), (p6, .inl (c6, 101, .inl (fun _ => 0))), (p7, .inl (c7, 101, .inl (fun _ => 0))), (p8, .inl (c8, 101, .inl (fun _ => 0))), (p9, .inl (c9, 101, .inr (.inl (fun _ => 0)))), (p10, .inl (c10, 101, .inl (fun _ => 0))), (p11, .inl (c11, 101, .inl (fun _ => 0))), (p12, .inl (c12, 101, .inl (fun _ => 0))), (p13, .inl (c13, 101, .inl (fun _ => 0)))] H := hP
  have hD : va_D A [(h0, .inr (2, [.int 0, .int 0, .ref p0, .ref p1, .ref p2, .ref p3, .ref p4, .ref p5, .ref p6, .ref p7, .ref p8, .ref p9, .ref p10, .ref p11, .ref p12, .null, .long 0])), (p0, .inl (c0, 101, .inl (fun _ => 0))), (p1, .inl (c1, 101, .inl (fun _ => 0))), (p2, .inl (c2, 101, .inl (fun _ => 0))), (p3, .inl (c3, 101, .inl (fun _ => 0))), (p4, .inl (c4, 101, .inl (fun _ => 0))), (p5, .inl (c5, 101, .inl (fun _ => 0))), (p6, .inl (c6, 101, .inl (fun _ => 0))), (p7, .inl (c7, 101, .inl (fun _ => 0))), (p8, .inl (c8, 101, .inl (fun _ => 0))), (p9, .inl (c9, 101, .inr (.inl (fun _ => 0)))), (p10, .inl (c10, 101, .inl (fun _ => 0))), (p11, .inl (c11, 101, .inl (fun _ => 0))), (p12, .inl (c12, 101, .inl (fun _ => 0))), (p13, .inl (c13, 101, .inl (fun _ => 0)))] := hD
  have hK : va_K D cls_ [(c0, .int), (c1, .int), (c2, .boolean), (c3, .int), (c4, .int), (c5, .boolean), (c6, .boolean), (c7, .int), (c8, .boolean), (c9, .long), (c10, .boolean), (c11, .int), (c12, .int), (c13, .int)] s := hK
  refine va_putF (D := D) (ci := 2) (v := .ref p13) (ty := .array .int) (C := R_M) (T := F_M) (N := 17) hx hb htB uw_M t_M t_M_ok n_M hown hK hP hD hS 0 rfl rfl 15 (by decide) (htB _ fl_M_51) (fun _ h9 => h9) rfl hin rfl (t_M_ok 15 (by decide)) rfl rfl (Nat.le_of_ble_eq_true rfl) d_M_init_113 (fun H locs hP hD hS => ?_)
  have hP : va_P D cls_ [(h0, .inr (2, [.int 0, .int 0, .ref p0, .ref p1, .ref p2, .ref p3, .ref p4, .ref p5, .ref p6, .ref p7, .ref p8, .ref p9, .ref p10, .ref p11, .ref p12, .ref p13, .long 0])), (p0, .inl (c0, 101, .inl (fun _ => 0))), (p1, .inl (c1, 101, .inl (fun _ => 0))), (p2, .inl (c2, 101, .inl (fun _ => 0))), (p3, .inl (c3, 101, .inl (fun _ => 0))), (p4, .inl (c4, 101, .inl (fun _ => 0))), (p5, .inl (c5, 101, .inl (fun _ => 0))), (p6, .inl (c6, 101, .inl (fun _ => 0))), (p7, .inl (c7, 101, .inl (fun _ => 0))), (p8, .inl (c8, 101, .inl (fun _ => 0))), (p9, .inl (c9, 101, .inr (.inl (fun _ => 0)))), (p10, .inl (c10, 101, .inl (fun _ => 0))), (p11, .inl (c11, 101, .inl (fun _ => 0))), (p12, .inl (c12, 101, .inl (fun _ => 0))), (p13, .inl (c13, 101, .inl (fun _ => 0)))] H := hP
  have hD : va_D A [(h0, .inr (2, [.int 0, .int 0, .ref p0, .ref p1, .ref p2, .ref p3, .ref p4, .ref p5, .ref p6, .ref p7, .ref p8, .ref p9, .ref p10, .ref p11, .ref p12, .ref p13, .long 0])), (p0, .inl (c0, 101, .inl (fun _ => 0))), (p1, .inl (c1, 101, .inl (fun _ => 0))), (p2, .inl (c2, 101, .inl (fun _ => 0))), (p3, .inl (c3, 101, .inl (fun _ => 0))), (p4, .inl (c4, 101, .inl (fun _ => 0))), (p5, .inl (c5, 101, .inl (fun _ => 0))), (p6, .inl (c6, 101, .inl (fun _ => 0))), (p7, .inl (c7, 101, .inl (fun _ => 0))), (p8, .inl (c8, 101, .inl (fun _ => 0))), (p9, .inl (c9, 101, .inr (.inl (fun _ => 0)))), (p10, .inl (c10, 101, .inl (fun _ => 0))), (p11, .inl (c11, 101, .inl (fun _ => 0))), (p12, .inl (c12, 101, .inl (fun _ => 0))), (p13, .inl (c13, 101, .inl (fun _ => 0)))] := hD
  refine W.widen (k := 14) (n := 1414) (by decide) (by decide) ?_
  exact W.vret hx hb hr (fun t ht hW => ⟨⟨((0, 0, fun _ => m_0) : MS), rfl, rfl, _, _, ⟨(fun i => match i with | 0 => p0 | 1 => p1 | 2 => p2 | 3 => p3 | 4 => p4 | 5 => p5 | 6 => p6 | 7 => p7 | 8 => p8 | 9 => p9 | 10 => p10 | 11 => p11 | 12 => p12 | 13 => p13 | _ => 0), (fun i => match i with | 0 => c0 | 1 => c1 | 2 => c2 | 3 => c3 | 4 => c4 | 5 => c5 | 6 => c6 | 7 => c7 | 8 => c8 | 9 => c9 | 10 => c10 | 11 => c11 | 12 => c12 | 13 => c13 | _ => c0), (fun _ _ => 0), (fun _ => 0), 0, rfl, rfl, by decide, fun _ => rfl⟩, by rw [ht]; exact hP, va_K.moved hW.alike hK, hD⟩, hS.F ht⟩) hS.2.2 d_M_init_116

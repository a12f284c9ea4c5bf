-- general rows of mine: worlds of one cell, a cell put back into a list of cells, two worlds side by side
theorem nb0 : narrow .boolean (.int 0) = .int 0 := by decide
theorem nb1 : narrow .boolean (.int 1) = .int 1 := by decide
theorem fb0 : fits .boolean (.int 0) = true := by decide
theorem fb1 : fits .boolean (.int 1) = true := by decide
theorem nbp {p : Int32} (h : p = 0 ∨ p = 1) : narrow .boolean (.int p) = .int p := by
  rcases h with rfl | rfl
  · exact nb0
  · exact nb1
theorem fbp {p : Int32} (h : p = 0 ∨ p = 1) : fits .boolean (.int p) = true := by
  rcases h with rfl | rfl
  · exact fb0
  · exact fb1
theorem one_ix {q0 q : Nat × va_E} {k : Nat} (h : ([q0] : va_W)[k]? = some q) : k = 0 ∧ q = q0 := by
  cases k with
  | zero => exact ⟨rfl, (Option.some.inj h).symm⟩
  | succ k => simp at h
theorem nD {h0 : Nat} {e : va_E} : va_D (fun q : Nat => q = h0) [(h0, e)] :=
  ⟨fun i j p q hi hj _ => (one_ix hi).1.trans (one_ix hj).1.symm, fun k q hk => by rw [(one_ix hk).2]⟩
theorem sg {ws : va_W} {k : Nat} {x y : Nat × va_E} (h : ws[k]? = some x) : (ws.set k y)[k]? = some y :=
  List.getElem?_set_self (List.getElem?_eq_some_iff.mp h).1
theorem sn {ws : va_W} {k j : Nat} {x y : Nat × va_E} (hne : j ≠ k) (h : ws[j]? = some x) : (ws.set k y)[j]? = some x := by
  rw [List.getElem?_set_ne (Ne.symm hne)]; exact h
theorem ss {ws : va_W} {k : Nat} {x : Nat × va_E} (h : ws[k]? = some x) : ws.set k x = ws := by
  apply List.ext_getElem?
  intro j
  by_cases hj : j = k
  · subst hj; rw [sg h, h]
  · rw [List.getElem?_set_ne (Ne.symm hj)]
/-- which place of a list with one place changed holds what -/
theorem si {ws : va_W} {k j : Nat} {y q : Nat × va_E} (h : (ws.set k y)[j]? = some q) : (j = k ∧ q = y) ∨ (j ≠ k ∧ ws[j]? = some q) := by
  by_cases hj : j = k
  · subst hj
    have hl : j < ws.length := by
      have := (List.getElem?_eq_some_iff.mp h).1
      rwa [List.length_set] at this
    rw [List.getElem?_set_self hl] at h
    exact Or.inl ⟨rfl, (Option.some.inj h).symm⟩
  · rw [List.getElem?_set_ne (Ne.symm hj)] at h
    exact Or.inr ⟨hj, h⟩
/-- behind a call that had one cell of the list alone -/
theorem pcall {A0 : Nat → Prop} {D : va_G} {cl : List vw_C} {ws : va_W} {H H1 : Heap} {k a : Nat} {e e2 : va_E} (hP : va_P D cl ws H) (hD : va_D A0 ws) (hk : ws[k]? = some (a, e))
    (ho : ∀ q : Nat, q < H.size → ¬ q = a → H1[q]? = H[q]?) (h1 : va_P D cl [(a, e2)] H1) : va_P D cl (ws.set k (a, e2)) H1 ∧ va_D A0 (ws.set k (a, e2)) := by
  refine ⟨fun j q hj => ?_, fun i j p q hi hj hpq => ?_, fun j q hj => ?_⟩
  · rcases si hj with ⟨-, rfl⟩ | ⟨hne, hj⟩
    · exact h1 0 _ rfl
    · refine (hP j q hj).kept (ho q.1 ((hP j q hj).lt) (fun ha => hne ?_))
      exact hD.1 j k q (a, e) hj hk ha
  · rcases si hi with ⟨h2, rfl⟩ | ⟨hi1, hi⟩ <;> rcases si hj with ⟨h3, rfl⟩ | ⟨hj1, hj⟩
    · exact h2.trans h3.symm
    · exact absurd (hD.1 k j (a, e) q hk hj hpq).symm hj1
    · exact absurd (hD.1 i k p (a, e) hi hk hpq) hi1
    · exact hD.1 i j p q hi hj hpq
  · rcases si hj with ⟨-, rfl⟩ | ⟨-, hj⟩
    · exact hD.2 k (a, e) hk
    · exact hD.2 j q hj
/-- two worlds that have no cell in common -/
def apart (wx wm : va_W) : Prop := ∀ (i j : Nat) (p q : Nat × va_E), wx[i]? = some p → wm[j]? = some q → p.1 ≠ q.1
theorem apart.symm {wx wm : va_W} (h : apart wx wm) : apart wm wx := fun i j p q hp hq e => h j i q p hq hp e.symm
/-- behind a call that had the one world: the other one stands as it was -/
theorem twoc {A0 : Nat → Prop} {D : va_G} {cl : List vw_C} {wx wm w1 : va_W} {H H1 : Heap} (hPm : va_P D cl wm H) (hne : apart wx wm)
    (hk : ∀ q : Nat, q < H.size → ¬ va_A wx H.size q → H1[q]? = H[q]?) (hF : ∀ q, va_A wx H.size q → A0 q) (hD1 : va_D (va_A wx H.size) w1) : va_P D cl wm H1 ∧ va_D A0 w1 ∧ apart w1 wm := by
  have out : ∀ (j : Nat) (q : Nat × va_E), wm[j]? = some q → q.1 < H.size ∧ ¬ va_A wx H.size q.1 := by
    intro j q hj
    have hl := (hPm j q hj).lt
    refine ⟨hl, fun h => ?_⟩
    rcases h with ⟨k, e, h⟩ | h
    · exact hne k j (q.1, e) q h hj rfl
    · omega
  refine ⟨fun j q hj => (hPm j q hj).kept (hk q.1 (out j q hj).1 (out j q hj).2), hD1.weaken (fun k q _ h => hF q.1 h), fun i j p q hi hj e => ?_⟩
  exact (out j q hj).2 (by rw [← e]; exact hD1.2 i p hi)
/-- what a call may change lies in the caller's own -/
theorem freew {A0 : Nat → Prop} {ws : va_W} {H0 H : Heap} {locs : List Loc} (hD : va_D A0 ws) (hS : va_S A0 H0 H locs) (hA : ∀ q, H0.size ≤ q → A0 q) : ∀ q, va_A ws H.size q → A0 q := by
  intro q h
  rcases h with ⟨k, e, h⟩ | h
  · exact hD.2 k (q, e) h
  · exact hA q (Nat.le_trans hS.1 h)
section PRE
variable {s : State} {H : Heap} {D : va_G} {cl : List vw_C} {ws : va_W} {tys : List (ClassId × FieldType)} {As : List Value} {C : String} {b : Addr}
theorem preN (hN : NK s) : PreS s H (va_Pc As (fun U => NK U)) As := ⟨fun a U g mk q => ⟨q.1, NK.same (u := U) (U := U.calling g mk a) rfl q.2⟩, fun U _ hW => ⟨rfl, hN.warm hW⟩⟩
theorem blindW {av : List Value} : FrameBlind (va_Pc av (fun U => va_P D cl ws U.heap ∧ va_K D cl tys U ∧ NK U)) := fun a U g mk q => ⟨q.1, q.2.1, va_K.moved (u := U) (U := U.calling g mk a) (Vm.Alike.refl U.vm) q.2.2.1, NK.same (u := U) (U := U.calling g mk a) rfl q.2.2.2⟩
theorem preV (hP : va_P D cl ws H) (hK : va_K D cl tys s) (hN : NK s) (hr : ∃ cell : Cell, H[b]? = some cell ∧ cell.vm.isStatics = false ∧ s.vm.findClass C = some cell.cls) : PreV s H C b (va_Pc (.ref b :: As) (fun U => va_P D cl ws U.heap ∧ va_K D cl tys U ∧ NK U)) As :=
  ⟨blindW, hr, fun U hU hW => ⟨rfl, by rw [hU]; exact hP, va_K.moved hW.alike hK, hN.warm hW⟩⟩
theorem preI (hP : va_P D cl ws H) (hK : va_K D cl tys s) (hN : NK s) : PreS s H (va_Pc As (fun U => va_P D cl ws U.heap ∧ va_K D cl tys U ∧ NK U)) As :=
  ⟨blindW, fun U hU hW => ⟨rfl, by rw [hU]; exact hP, va_K.moved hW.alike hK, hN.warm hW⟩⟩
theorem blindZ {av : List Value} {sz : Nat} : FrameBlind (va_Pc av (fun U => U.heap.size = sz ∧ va_P D cl ws U.heap ∧ va_K D cl tys U ∧ NK U)) := fun a U g mk q => ⟨q.1, q.2.1, q.2.2.1, va_K.moved (u := U) (U := U.calling g mk a) (Vm.Alike.refl U.vm) q.2.2.2.1, NK.same (u := U) (U := U.calling g mk a) rfl q.2.2.2.2⟩
theorem preVZ (hP : va_P D cl ws H) (hK : va_K D cl tys s) (hN : NK s) (hr : ∃ cell : Cell, H[b]? = some cell ∧ cell.vm.isStatics = false ∧ s.vm.findClass C = some cell.cls) : PreV s H C b (va_Pc (.ref b :: As) (fun U => U.heap.size = H.size ∧ va_P D cl ws U.heap ∧ va_K D cl tys U ∧ NK U)) As :=
  ⟨blindZ, hr, fun U hU hW => ⟨rfl, by rw [hU], by rw [hU]; exact hP, va_K.moved hW.alike hK, hN.warm hW⟩⟩
theorem preIZ (hP : va_P D cl ws H) (hK : va_K D cl tys s) (hN : NK s) : PreS s H (va_Pc As (fun U => U.heap.size = H.size ∧ va_P D cl ws U.heap ∧ va_K D cl tys U ∧ NK U)) As :=
  ⟨blindZ, fun U hU hW => ⟨rfl, by rw [hU], by rw [hU]; exact hP, va_K.moved hW.alike hK, hN.warm hW⟩⟩
end PRE
-- words: all that any method needs stands in ONE list, BIG
theorem gdw {cw : Cond} (h : cw ∈ BIG) : GoodIn BIG (cw :: BIG) := fun w hw => by
  rcases List.mem_cons.mp hw with rfl | hw
  · exact ⟨h, (big_tbl _ h).2⟩
  · exact ⟨hw, (big_tbl _ hw).2⟩
theorem gvw {cw : Cond} {own C : String} {idx : Nat} {y : MethodName} (h : cw ∈ BIG) (h1 : Cond.methodLink own idx y ∈ BIG) (h2 : Cond.instanceMethod y ∈ BIG) (h3 : Cond.selects C y y ∈ BIG) (h4 : Cond.initialized C ∈ BIG) : GoodIn BIG (wsV own idx C y (cw :: BIG)) := fun w hw => by
  unfold wsV at hw
  rcases List.mem_append.mp hw with hw | hw
  · have : w ∈ BIG := by
      simp only [List.mem_cons, List.not_mem_nil, or_false] at hw
      rcases hw with rfl | rfl | rfl | rfl <;> assumption
    exact ⟨this, (big_tbl _ this).2⟩
  · exact gdw h w hw
theorem gsw {cw : Cond} {own : String} {idx : Nat} {y : MethodName} (h : cw ∈ BIG) (h1 : Cond.methodLink own idx y ∈ BIG) (h2 : Cond.static y ∈ BIG) (h4 : Cond.initialized own ∈ BIG) : GoodIn BIG (wsS own idx y (cw :: BIG)) := fun w hw => by
  unfold wsS at hw
  rcases List.mem_append.mp hw with hw | hw
  · have : w ∈ BIG := by
      simp only [List.mem_cons, List.not_mem_nil, or_false] at hw
      rcases hw with rfl | rfl | rfl <;> assumption
    exact ⟨this, (big_tbl _ this).2⟩
  · exact gdw h w hw
/-- the law's own words hold BIG -/
theorem gvL {cw : Cond} {own C : String} {idx : Nat} {y : MethodName} (h : cw ∈ BIG) (h1 : Cond.methodLink own idx y ∈ BIG) (h2 : Cond.instanceMethod y ∈ BIG) (h3 : Cond.selects C y y ∈ BIG) (h4 : Cond.initialized C ∈ BIG) : GoodIn lw_tbl (wsV own idx C y (cw :: BIG)) := fun w hw => big_tbl w (gvw h h1 h2 h3 h4 w hw).1
theorem g_N_28 : GoodIn BIG (wsV R_N 28 R_N y_N_undergo (cw_N_undergo :: BIG)) := gvw co_N_undergo ml_N_28 im_N_undergo sel_N_undergo in_N
theorem g_N_36 : GoodIn BIG (wsV R_N 36 R_N y_N_countGoodFrames (cw_N_countGoodFrames :: BIG)) := gvw co_N_countGoodFrames ml_N_36 im_N_countGoodFrames sel_N_countGoodFrames in_N
theorem g_N_46 : GoodIn BIG (wsV R_N 46 R_N y_N_countErrors (cw_N_countErrors :: BIG)) := gvw co_N_countErrors ml_N_46 im_N_countErrors sel_N_countErrors in_N
theorem g_N_49 : GoodIn BIG (wsV R_N 49 R_N y_N_changeFlag (cw_N_changeFlag :: BIG)) := gvw co_N_changeFlag ml_N_49 im_N_changeFlag sel_N_changeFlag in_N
theorem g_N_52 : GoodIn BIG (wsV R_N 52 R_N y_N_condition (cw_N_condition :: BIG)) := gvw co_N_condition ml_N_52 im_N_condition sel_N_condition in_N
theorem g_N_59 : GoodIn BIG (wsV R_N 59 R_N y_N_goOff (cw_N_goOff :: BIG)) := gvw co_N_goOff ml_N_59 im_N_goOff sel_N_goOff in_N
theorem g_N_74 : GoodIn BIG (wsV R_N 74 R_N y_N_lowerCounter (cw_N_lowerCounter :: BIG)) := gvw co_N_lowerCounter ml_N_74 im_N_lowerCounter sel_N_lowerCounter in_N
theorem g_N_78 : GoodIn BIG (wsV R_N 78 R_N y_N_senderPenalty (cw_N_senderPenalty :: BIG)) := gvw co_N_senderPenalty ml_N_78 im_N_senderPenalty sel_N_senderPenalty in_N
theorem g_N_82 : GoodIn BIG (wsV R_N 82 R_N y_N_receiverPenalty (cw_N_receiverPenalty :: BIG)) := gvw co_N_receiverPenalty ml_N_82 im_N_receiverPenalty sel_N_receiverPenalty in_N
theorem g_N_107 : GoodIn BIG (wsV R_N 107 R_N y_N_delay (cw_N_delay :: BIG)) := gvw co_N_delay ml_N_107 im_N_delay sel_N_delay in_N
theorem g_N_115 : GoodIn BIG (wsV R_N 115 R_N y_N_comeBack (cw_N_comeBack :: BIG)) := gvw co_N_comeBack ml_N_115 im_N_comeBack sel_N_comeBack in_N
theorem g_X_24 : GoodIn BIG (wsV R_X 24 R_X y_X_find (cw_X_find :: BIG)) := gvw co_X_find ml_X_24 im_X_find sel_X_find in_X
theorem g_X_28 : GoodIn BIG (wsS R_X 28 y_X_isKind (cw_X_isKind :: BIG)) := gsw co_X_isKind ml_X_28 sta_X_isKind in_X
theorem g_X_39 : GoodIn BIG (wsV R_X 39 R_N y_N_undergo (cw_N_undergo :: BIG)) := gvw co_N_undergo ml_X_39 im_N_undergo sel_N_undergo in_N
theorem g_X_43 : GoodIn BIG (wsV R_X 43 R_N y_N_condition (cw_N_condition :: BIG)) := gvw co_N_condition ml_X_43 im_N_condition sel_N_condition in_N
theorem g_X_56 : GoodIn BIG (wsV R_X 56 R_N y_N_countRows (cw_N_countRows :: BIG)) := gvw co_N_countRows ml_X_56 im_N_countRows sel_N_countRows in_N
theorem g_X_63 : GoodIn BIG (wsV R_X 63 R_N y_N_mayComeBack (cw_N_mayComeBack :: BIG)) := gvw co_N_mayComeBack ml_X_63 im_N_mayComeBack sel_N_mayComeBack in_N
theorem g_X_82 : GoodIn BIG (wsV R_X 82 R_N y_N_undergoBoth (cw_N_undergoBoth :: BIG)) := gvw co_N_undergoBoth ml_X_82 im_N_undergoBoth sel_N_undergoBoth in_N
theorem g_X_89 : GoodIn BIG (wsS R_X 89 y_X_isAboutFlag (cw_X_isAboutFlag :: BIG)) := gsw co_X_isAboutFlag ml_X_89 sta_X_isAboutFlag in_X
theorem g_M_63 : GoodIn BIG (wsV R_M 63 R_M y_M_is (cw_M_is :: BIG)) := gvw co_M_is ml_M_63 im_M_is sel_M_is in_M
theorem g_M_67 : GoodIn BIG (wsV R_M 67 R_M y_M_more (cw_M_more :: BIG)) := gvw co_M_more ml_M_67 im_M_more sel_M_more in_M
theorem g_M_71 : GoodIn BIG (wsS R_M 71 y_M_error (cw_M_error :: BIG)) := gsw co_M_error ml_M_71 sta_M_error in_M
theorem g_M_75 : GoodIn BIG (wsV R_M 75 R_M y_M_none (cw_M_none :: BIG)) := gvw co_M_none ml_M_75 im_M_none sel_M_none in_M
theorem g_M_78 : GoodIn BIG (wsV R_M 78 R_M y_M_happens (cw_M_happens :: BIG)) := gvw co_M_happens ml_M_78 im_M_happens sel_M_happens in_M
theorem gL_13 : GoodIn lw_tbl (wsV R_L 13 R_X y_X_node (cw_X_node :: BIG)) := gvL co_X_node ml_L_13 im_X_node sel_X_node in_X
theorem gL_17 : GoodIn lw_tbl (wsV R_L 17 R_M y_M_node (cw_M_node :: BIG)) := gvL co_M_node ml_L_17 im_M_node sel_M_node in_M
theorem gL_18 : GoodIn lw_tbl (wsV R_L 18 R_X y_X_event (cw_X_event :: BIG)) := gvL co_X_event ml_L_18 im_X_event sel_X_event in_X
theorem gL_22 : GoodIn lw_tbl (wsV R_L 22 R_M y_M_event (cw_M_event :: BIG)) := gvL co_M_event ml_L_22 im_M_event sel_M_event in_M
theorem gL_23 : GoodIn lw_tbl (wsV R_L 23 R_X y_X_counter (cw_X_counter :: BIG)) := gvL co_X_counter ml_L_23 im_X_counter sel_X_counter in_X
theorem gL_27 : GoodIn lw_tbl (wsV R_L 27 R_M y_M_counter (cw_M_counter :: BIG)) := gvL co_M_counter ml_L_27 im_M_counter sel_M_counter in_M
theorem gL_28 : GoodIn lw_tbl (wsV R_L 28 R_X y_X_state (cw_X_state :: BIG)) := gvL co_X_state ml_L_28 im_X_state sel_X_state in_X
theorem gL_32 : GoodIn lw_tbl (wsV R_L 32 R_M y_M_state (cw_M_state :: BIG)) := gvL co_M_state ml_L_32 im_M_state sel_M_state in_M
theorem gL_33 : GoodIn lw_tbl (wsV R_L 33 R_X y_X_recover (cw_X_recover :: BIG)) := gvL co_X_recover ml_L_33 im_X_recover sel_X_recover in_X
theorem gL_37 : GoodIn lw_tbl (wsV R_L 37 R_M y_M_recover (cw_M_recover :: BIG)) := gvL co_M_recover ml_L_37 im_M_recover sel_M_recover in_M
theorem gL_38 : GoodIn lw_tbl (wsV R_L 38 R_X y_X_flag (cw_X_flag :: BIG)) := gvL co_X_flag ml_L_38 im_X_flag sel_X_flag in_X
theorem gL_41 : GoodIn lw_tbl (wsV R_L 41 R_M y_M_flag (cw_M_flag :: BIG)) := gvL co_M_flag ml_L_41 im_M_flag sel_M_flag in_M
theorem gL_44 : GoodIn lw_tbl (wsV R_L 44 R_X y_X_manager (cw_X_manager :: BIG)) := gvL co_X_manager ml_L_44 im_X_manager sel_X_manager in_X
theorem gL_48 : GoodIn lw_tbl (wsV R_L 48 R_M y_M_manager (cw_M_manager :: BIG)) := gvL co_M_manager ml_L_48 im_M_manager sel_M_manager in_M
theorem gL_49 : GoodIn lw_tbl (wsV R_L 49 R_X y_X_shot (cw_X_shot :: BIG)) := gvL co_X_shot ml_L_49 im_X_shot sel_X_shot in_X
theorem gL_52 : GoodIn lw_tbl (wsV R_L 52 R_M y_M_shot (cw_M_shot :: BIG)) := gvL co_M_shot ml_L_52 im_M_shot sel_M_shot in_M
theorem gL_53 : GoodIn lw_tbl (wsV R_L 53 R_X y_X_listen (cw_X_listen :: BIG)) := gvL co_X_listen ml_L_53 im_X_listen sel_X_listen in_X
theorem gL_56 : GoodIn lw_tbl (wsV R_L 56 R_M y_M_listen (cw_M_listen :: BIG)) := gvL co_M_listen ml_L_56 im_M_listen sel_M_listen in_M
theorem gL_57 : GoodIn lw_tbl (wsV R_L 57 R_X y_X_two (cw_X_two :: BIG)) := gvL co_X_two ml_L_57 im_X_two sel_X_two in_X
theorem gL_61 : GoodIn lw_tbl (wsV R_L 61 R_M y_M_two (cw_M_two :: BIG)) := gvL co_M_two ml_L_61 im_M_two sel_M_two in_M
theorem gL_62 : GoodIn lw_tbl (wsV R_L 62 R_X y_X_suspended (cw_X_suspended :: BIG)) := gvL co_X_suspended ml_L_62 im_X_suspended sel_X_suspended in_X
theorem gL_65 : GoodIn lw_tbl (wsV R_L 65 R_M y_M_suspended (cw_M_suspended :: BIG)) := gvL co_M_suspended ml_L_65 im_M_suspended sel_M_suspended in_M
theorem gd_X_init : GoodIn BIG (cw_X_init :: BIG) := gdw co_X_init
theorem gd_X_node : GoodIn BIG (cw_X_node :: BIG) := gdw co_X_node
theorem gd_N_init : GoodIn BIG (cw_N_init :: BIG) := gdw co_N_init
theorem gd_X_event : GoodIn BIG (cw_X_event :: BIG) := gdw co_X_event
theorem gd_X_find : GoodIn BIG (cw_X_find :: BIG) := gdw co_X_find
theorem gd_X_isKind : GoodIn BIG (cw_X_isKind :: BIG) := gdw co_X_isKind
theorem gd_N_undergo : GoodIn BIG (cw_N_undergo :: BIG) := gdw co_N_undergo
theorem gd_N_countGoodFrames : GoodIn BIG (cw_N_countGoodFrames :: BIG) := gdw co_N_countGoodFrames
theorem gd_X_isError : GoodIn BIG (cw_X_isError :: BIG) := gdw co_X_isError
theorem gd_X_isAboutFlag : GoodIn BIG (cw_X_isAboutFlag :: BIG) := gdw co_X_isAboutFlag
theorem gd_N_countErrors : GoodIn BIG (cw_N_countErrors :: BIG) := gdw co_N_countErrors
theorem gd_N_lowerCounter : GoodIn BIG (cw_N_lowerCounter :: BIG) := gdw co_N_lowerCounter
theorem gd_N_senderPenalty : GoodIn BIG (cw_N_senderPenalty :: BIG) := gdw co_N_senderPenalty
theorem gd_N_condition : GoodIn BIG (cw_N_condition :: BIG) := gdw co_N_condition
theorem gd_N_receiverPenalty : GoodIn BIG (cw_N_receiverPenalty :: BIG) := gdw co_N_receiverPenalty
theorem gd_N_changeFlag : GoodIn BIG (cw_N_changeFlag :: BIG) := gdw co_N_changeFlag
theorem gd_N_goOff : GoodIn BIG (cw_N_goOff :: BIG) := gdw co_N_goOff
theorem gd_X_counter : GoodIn BIG (cw_X_counter :: BIG) := gdw co_X_counter
theorem gd_X_state : GoodIn BIG (cw_X_state :: BIG) := gdw co_X_state
theorem gd_X_recover : GoodIn BIG (cw_X_recover :: BIG) := gdw co_X_recover
theorem gd_N_countRows : GoodIn BIG (cw_N_countRows :: BIG) := gdw co_N_countRows
theorem gd_N_comeBack : GoodIn BIG (cw_N_comeBack :: BIG) := gdw co_N_comeBack
theorem gd_X_flag : GoodIn BIG (cw_X_flag :: BIG) := gdw co_X_flag
theorem gd_X_manager : GoodIn BIG (cw_X_manager :: BIG) := gdw co_X_manager
theorem gd_N_mayComeBack : GoodIn BIG (cw_N_mayComeBack :: BIG) := gdw co_N_mayComeBack
theorem gd_N_delay : GoodIn BIG (cw_N_delay :: BIG) := gdw co_N_delay
theorem gd_X_shot : GoodIn BIG (cw_X_shot :: BIG) := gdw co_X_shot
theorem gd_X_listen : GoodIn BIG (cw_X_listen :: BIG) := gdw co_X_listen
theorem gd_X_two : GoodIn BIG (cw_X_two :: BIG) := gdw co_X_two
theorem gd_N_undergoBoth : GoodIn BIG (cw_N_undergoBoth :: BIG) := gdw co_N_undergoBoth
theorem gd_X_suspended : GoodIn BIG (cw_X_suspended :: BIG) := gdw co_X_suspended
theorem gd_M_init : GoodIn BIG (cw_M_init :: BIG) := gdw co_M_init
theorem gd_M_node : GoodIn BIG (cw_M_node :: BIG) := gdw co_M_node
theorem gd_M_event : GoodIn BIG (cw_M_event :: BIG) := gdw co_M_event
theorem gd_M_none : GoodIn BIG (cw_M_none :: BIG) := gdw co_M_none
theorem gd_M_happens : GoodIn BIG (cw_M_happens :: BIG) := gdw co_M_happens
theorem gd_M_more : GoodIn BIG (cw_M_more :: BIG) := gdw co_M_more
theorem gd_M_is : GoodIn BIG (cw_M_is :: BIG) := gdw co_M_is
theorem gd_M_error : GoodIn BIG (cw_M_error :: BIG) := gdw co_M_error
theorem gd_M_counter : GoodIn BIG (cw_M_counter :: BIG) := gdw co_M_counter
theorem gd_M_state : GoodIn BIG (cw_M_state :: BIG) := gdw co_M_state
theorem gd_M_recover : GoodIn BIG (cw_M_recover :: BIG) := gdw co_M_recover
theorem gd_M_flag : GoodIn BIG (cw_M_flag :: BIG) := gdw co_M_flag
theorem gd_M_manager : GoodIn BIG (cw_M_manager :: BIG) := gdw co_M_manager
theorem gd_M_shot : GoodIn BIG (cw_M_shot :: BIG) := gdw co_M_shot
theorem gd_M_listen : GoodIn BIG (cw_M_listen :: BIG) := gdw co_M_listen
theorem gd_M_two : GoodIn BIG (cw_M_two :: BIG) := gdw co_M_two
theorem gd_M_suspended : GoodIn BIG (cw_M_suspended :: BIG) := gdw co_M_suspended

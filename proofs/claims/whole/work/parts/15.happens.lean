def f_M_happens_j446 (u : MN) (k : Int32) (w : Int32) : MN := let j446_0 := u.1; let j446_1 := u.2.1; let j446_2 := u.2.2.1; let j446_3 := u.2.2.2.1; let j446_4 := u.2.2.2.2.1; let j446_5 := u.2.2.2.2.2.1; let j446_6 := u.2.2.2.2.2.2.1; let j446_7 := u.2.2.2.2.2.2.2.1; let j446_8 := u.2.2.2.2.2.2.2.2.1; let j446_9 := u.2.2.2.2.2.2.2.2.2.1; let j446_10 := u.2.2.2.2.2.2.2.2.2.2.1; let j446_11 := u.2.2.2.2.2.2.2.2.2.2.2.1; let j446_12 := u.2.2.2.2.2.2.2.2.2.2.2.2.1; let j446_13 := u.2.2.2.2.2.2.2.2.2.2.2.2.2; if w = 0 then (j446_0, j446_1, j446_2, j446_3, 3, j446_5, j446_6, j446_7, j446_8, j446_9, j446_10, j446_11, j446_12, j446_13) else (if (f_M_is (j446_0, j446_1, j446_2, j446_3, j446_4, j446_5, j446_6, j446_7, j446_8, j446_9, j446_10, j446_11, j446_12, j446_13)) = 1 then (j446_0, j446_1, j446_2, j446_3, 11, j446_5, j446_6, j446_7, j446_8, j446_9, j446_10, j446_11, j446_12, j446_13) else (j446_0, j446_1, j446_2, j446_3, 3, j446_5, j446_6, j446_7, j446_8, j446_9, j446_10, j446_11, j446_12, j446_13))
def f_M_happens_j380 (u : MN) (k : Int32) (w : Int32) : MN := let j380_0 := u.1; let j380_1 := u.2.1; let j380_2 := u.2.2.1; let j380_3 := u.2.2.2.1; let j380_4 := u.2.2.2.2.1; let j380_5 := u.2.2.2.2.2.1; let j380_6 := u.2.2.2.2.2.2.1; let j380_7 := u.2.2.2.2.2.2.2.1; let j380_8 := u.2.2.2.2.2.2.2.2.1; let j380_9 := u.2.2.2.2.2.2.2.2.2.1; let j380_10 := u.2.2.2.2.2.2.2.2.2.2.1; let j380_11 := u.2.2.2.2.2.2.2.2.2.2.2.1; let j380_12 := u.2.2.2.2.2.2.2.2.2.2.2.2.1; let j380_13 := u.2.2.2.2.2.2.2.2.2.2.2.2.2; if j380_0 = 256 then (f_M_happens_j446 (j380_0, j380_1, 1, 0, j380_4, j380_5, j380_6, j380_7, j380_8, (-1), 0, 0, j380_12 + 1, 0) k w) else (f_M_happens_j446 (j380_0, j380_1, j380_2, j380_3, j380_4, j380_5, j380_6, j380_7, j380_8, j380_9, j380_10, j380_11, j380_12, j380_13) k w)
def f_M_happens_j355 (u : MN) (k : Int32) (w : Int32) : MN := let j355_0 := u.1; let j355_1 := u.2.1; let j355_2 := u.2.2.1; let j355_3 := u.2.2.2.1; let j355_4 := u.2.2.2.2.1; let j355_5 := u.2.2.2.2.2.1; let j355_6 := u.2.2.2.2.2.2.1; let j355_7 := u.2.2.2.2.2.2.2.1; let j355_8 := u.2.2.2.2.2.2.2.2.1; let j355_9 := u.2.2.2.2.2.2.2.2.2.1; let j355_10 := u.2.2.2.2.2.2.2.2.2.2.1; let j355_11 := u.2.2.2.2.2.2.2.2.2.2.2.1; let j355_12 := u.2.2.2.2.2.2.2.2.2.2.2.2.1; let j355_13 := u.2.2.2.2.2.2.2.2.2.2.2.2.2; if j355_13 = 100 then (f_M_happens_j380 (j355_0, j355_1, j355_2, j355_3, j355_4, j355_5, j355_6, j355_7, j355_8, j355_9, j355_10, j355_11, 0, 0) k w) else (f_M_happens_j380 (j355_0, j355_1, j355_2, j355_3, j355_4, j355_5, j355_6, j355_7, j355_8, j355_9, j355_10, j355_11, j355_12, j355_13) k w)
def f_M_happens_j317 (u : MN) (k : Int32) (w : Int32) : MN := let j317_0 := u.1; let j317_1 := u.2.1; let j317_2 := u.2.2.1; let j317_3 := u.2.2.2.1; let j317_4 := u.2.2.2.2.1; let j317_5 := u.2.2.2.2.2.1; let j317_6 := u.2.2.2.2.2.2.1; let j317_7 := u.2.2.2.2.2.2.2.1; let j317_8 := u.2.2.2.2.2.2.2.2.1; let j317_9 := u.2.2.2.2.2.2.2.2.2.1; let j317_10 := u.2.2.2.2.2.2.2.2.2.2.1; let j317_11 := u.2.2.2.2.2.2.2.2.2.2.2.1; let j317_12 := u.2.2.2.2.2.2.2.2.2.2.2.2.1; let j317_13 := u.2.2.2.2.2.2.2.2.2.2.2.2.2; if (f_M_error k) = 0 then (if k = 0 then (f_M_happens_j355 (j317_0, j317_1, j317_2, j317_3, j317_4, j317_5, j317_6, j317_7, j317_8, j317_9, j317_10, j317_11, j317_12, j317_13 + 1) k w) else (f_M_happens_j355 (j317_0, j317_1, j317_2, j317_3, j317_4, j317_5, j317_6, j317_7, j317_8, j317_9, j317_10, j317_11, j317_12, j317_13) k w)) else (f_M_happens_j355 (j317_0, j317_1, j317_2, j317_3, j317_4, j317_5, j317_6, j317_7, j317_8, j317_9, j317_10, j317_11, j317_12, 0) k w)
def f_M_happens_j280 (u : MN) (k : Int32) (w : Int32) : MN := let j280_0 := u.1; let j280_1 := u.2.1; let j280_2 := u.2.2.1; let j280_3 := u.2.2.2.1; let j280_4 := u.2.2.2.2.1; let j280_6 := u.2.2.2.2.2.2.1; let j280_7 := u.2.2.2.2.2.2.2.1; let j280_8 := u.2.2.2.2.2.2.2.2.1; let j280_9 := u.2.2.2.2.2.2.2.2.2.1; let j280_10 := u.2.2.2.2.2.2.2.2.2.2.1; let j280_11 := u.2.2.2.2.2.2.2.2.2.2.2.1; let j280_12 := u.2.2.2.2.2.2.2.2.2.2.2.2.1; let j280_13 := u.2.2.2.2.2.2.2.2.2.2.2.2.2; if (f_M_error k) = 0 then (f_M_happens_j317 (j280_0, j280_1, j280_2, j280_3, j280_4, w, j280_6, j280_7, j280_8, j280_9, j280_10, j280_11, j280_12, j280_13) k w) else (if w = 0 then (f_M_happens_j317 (j280_0, j280_1, j280_2, j280_3, j280_4, w, j280_6, j280_7, j280_8, j280_9, j280_10, j280_11, j280_12, j280_13) k w) else (if j280_6 = 0 then (f_M_happens_j317 (j280_0, j280_1, j280_2, j280_3, j280_4, w, j280_6, j280_7, j280_8, j280_9, j280_10, j280_11, j280_12, j280_13) k w) else (f_M_happens_j317 (j280_0, j280_1, j280_2, j280_3, j280_4, w, j280_6, j280_7 + 1, j280_8, j280_9, j280_10, j280_11, j280_12, j280_13) k w)))
def f_M_happens_j174 (u : MN) (k : Int32) (w : Int32) : MN := let j174_0 := u.1; let j174_1 := u.2.1; let j174_2 := u.2.2.1; let j174_3 := u.2.2.2.1; let j174_4 := u.2.2.2.2.1; let j174_5 := u.2.2.2.2.2.1; let j174_6 := u.2.2.2.2.2.2.1; let j174_7 := u.2.2.2.2.2.2.2.1; let j174_8 := u.2.2.2.2.2.2.2.2.1; let j174_9 := u.2.2.2.2.2.2.2.2.2.1; let j174_10 := u.2.2.2.2.2.2.2.2.2.2.1; let j174_11 := u.2.2.2.2.2.2.2.2.2.2.2.1; let j174_12 := u.2.2.2.2.2.2.2.2.2.2.2.2.1; let j174_13 := u.2.2.2.2.2.2.2.2.2.2.2.2.2; if k = 0 then (f_M_happens_j280 (j174_0, j174_1, j174_2, 0, j174_4, j174_5, j174_6, j174_7, j174_8, j174_9, j174_10, j174_11, j174_12, j174_13) k w) else (if j174_8 = 0 then (if (f_M_error k) = 0 then (if j174_3 ≤ 0 then (f_M_happens_j280 (j174_0, j174_1, j174_2, j174_3, j174_4, j174_5, j174_6, j174_7, j174_8, j174_9, j174_10, j174_11, j174_12, j174_13) k w) else (if k = 8 then (if (j174_3 + 8) ≤ 10000 then (if k = 8 then (f_M_happens_j280 (j174_0, j174_1, j174_2, j174_3 + 8, j174_4, j174_5, j174_6, j174_7, j174_8, j174_9, j174_10, j174_11, j174_12, j174_13) k w) else (f_M_happens_j280 (j174_0, j174_1, j174_2, j174_3 + 1, j174_4, j174_5, j174_6, j174_7, j174_8, j174_9, j174_10, j174_11, j174_12, j174_13) k w)) else (f_M_happens_j280 (j174_0, j174_1, j174_2, 10000, j174_4, j174_5, j174_6, j174_7, j174_8, j174_9, j174_10, j174_11, j174_12, j174_13) k w)) else (if (j174_3 + 1) ≤ 10000 then (if k = 8 then (f_M_happens_j280 (j174_0, j174_1, j174_2, j174_3 + 8, j174_4, j174_5, j174_6, j174_7, j174_8, j174_9, j174_10, j174_11, j174_12, j174_13) k w) else (f_M_happens_j280 (j174_0, j174_1, j174_2, j174_3 + 1, j174_4, j174_5, j174_6, j174_7, j174_8, j174_9, j174_10, j174_11, j174_12, j174_13) k w)) else (f_M_happens_j280 (j174_0, j174_1, j174_2, 10000, j174_4, j174_5, j174_6, j174_7, j174_8, j174_9, j174_10, j174_11, j174_12, j174_13) k w)))) else (f_M_happens_j280 (j174_0, j174_1, j174_2, 6, j174_4, j174_5, j174_6, j174_7, j174_8, j174_9, j174_10, j174_11, j174_12, j174_13) k w)) else (f_M_happens_j280 (j174_0, j174_1, j174_2, 0, j174_4, j174_5, j174_6, j174_7, j174_8, j174_9, j174_10, j174_11, j174_12, j174_13) k w))
def f_M_happens (u : MN) (k : Int32) (w : Int32) : MN := let a0 := u.1; let a1 := u.2.1; let a2 := u.2.2.1; let a3 := u.2.2.2.1; let a4 := u.2.2.2.2.1; let a5 := u.2.2.2.2.2.1; let a6 := u.2.2.2.2.2.2.1; let a7 := u.2.2.2.2.2.2.2.1; let a8 := u.2.2.2.2.2.2.2.2.1; let a9 := u.2.2.2.2.2.2.2.2.2.1; let a10 := u.2.2.2.2.2.2.2.2.2.2.1; let a11 := u.2.2.2.2.2.2.2.2.2.2.2.1; let a12 := u.2.2.2.2.2.2.2.2.2.2.2.2.1; let a13 := u.2.2.2.2.2.2.2.2.2.2.2.2.2; if a8 = 0 then (if w = 0 then (if k = 0 then (if a1 ≤ 127 then (if 0 ≤ (a1 + (f_M_more (a0, a1, a2, a3, a4, a5, a6, a7, a8, a9, a10, a11, a12, a13) k 0)) then (if (a1 + (f_M_more (a0, a1, a2, a3, a4, a5, a6, a7, a8, a9, a10, a11, a12, a13) k 0)) ≤ 255 then (f_M_happens_j174 (a0, a1 + (f_M_more (a0, a1, a2, a3, a4, a5, a6, a7, a8, a9, a10, a11, a12, a13) k 0), a2, a3, a4, a5, a6, a7, a8, a9, a10, a11, a12, a13) k w) else (f_M_happens_j174 (a0, 255, a2, a3, a4, a5, a6, a7, a8, a9, a10, a11, a12, a13) k w)) else (f_M_happens_j174 (a0, 0, a2, a3, a4, a5, a6, a7, a8, a9, a10, a11, a12, a13) k w)) else (f_M_happens_j174 (a0, 119, a2, a3, a4, a5, a6, a7, a8, a9, a10, a11, a12, a13) k w)) else (if 0 ≤ (a1 + (f_M_more (a0, a1, a2, a3, a4, a5, a6, a7, a8, a9, a10, a11, a12, a13) k 0)) then (if (a1 + (f_M_more (a0, a1, a2, a3, a4, a5, a6, a7, a8, a9, a10, a11, a12, a13) k 0)) ≤ 255 then (f_M_happens_j174 (a0, a1 + (f_M_more (a0, a1, a2, a3, a4, a5, a6, a7, a8, a9, a10, a11, a12, a13) k 0), a2, a3, a4, a5, a6, a7, a8, a9, a10, a11, a12, a13) k w) else (f_M_happens_j174 (a0, 255, a2, a3, a4, a5, a6, a7, a8, a9, a10, a11, a12, a13) k w)) else (f_M_happens_j174 (a0, 0, a2, a3, a4, a5, a6, a7, a8, a9, a10, a11, a12, a13) k w))) else (if 0 ≤ (a0 + (f_M_more (a0, a1, a2, a3, a4, a5, a6, a7, a8, a9, a10, a11, a12, a13) k 1)) then (if (a0 + (f_M_more (a0, a1, a2, a3, a4, a5, a6, a7, a8, a9, a10, a11, a12, a13) k 1)) ≤ 256 then (f_M_happens_j174 (a0 + (f_M_more (a0, a1, a2, a3, a4, a5, a6, a7, a8, a9, a10, a11, a12, a13) k 1), a1, a2, a3, a4, a5, a6, a7, a8, a9, a10, a11, a12, a13) k w) else (f_M_happens_j174 (256, a1, a2, a3, a4, a5, a6, a7, a8, a9, a10, a11, a12, a13) k w)) else (f_M_happens_j174 (0, a1, a2, a3, a4, a5, a6, a7, a8, a9, a10, a11, a12, a13) k w))) else (f_M_happens_j174 (a0, a1, a2, a3, a4, a5, a6, a7, a8, a9, a10, a11, a12, a13) k w)
set_option maxHeartbeats 4000000 in
set_option maxRecDepth 100000 in
theorem c_M_happens (l : Launch) (D : va_G) (h0 : Nat) (qq : Nat → Nat) (cc : Nat → ClassId) (ff : Nat → Nat → Int32) (fl : Nat → Int64) (c0 nn : Int32) (lt : Int64) (n : Int32) (hin : vp_in n 101) (u : MN) (k : Int32) (w : Int32) (hb_w : w = 0 ∨ w = 1) (A : Nat → Prop) (hD : va_D A (wM h0 qq cc ff fl n.toNatClampNeg c0 nn lt u)) : Met l y_M_happens (cw_M_happens :: BIG) (rmk 2 0 0) (va_Pc [.ref h0, .int n, .int k, .int w] (fun U => va_P D cls_ (wM h0 qq cc ff fl n.toNatClampNeg c0 nn lt u) U.heap ∧ va_K D cls_ (tM cc) U ∧ NK U)) (va_Qv (fun u2 : MN => u2 = f_M_happens u k w) (fun (u2 : MN) (t : State) => va_P D cls_ (wM h0 qq cc ff fl n.toNatClampNeg c0 nn lt u2) t.heap) A) 0 0 A := by
  obtain ⟨a0, a1, a2, a3, a4, a5, a6, a7, a8, a9, a10, a11, a12, a13⟩ := u
  refine Met.ofW (cc := b_M_happens) (maxL := 5) (ret := none) (by decide) rfl ?_
  intro p e s m args below meth c s₁ B hml hv
  obtain ⟨rfl, hP, hK, hN⟩ := hv
  have hx := B.exec
  have hb := B.bytes
  have hr := B.returns
  have htB : ∀ w ∈ BIG, w.before _ s = true := fun w h => atoms_spec (ws := cw_M_happens :: BIG) B.pre w (List.mem_cons_of_mem _ h)
  have hown : s.vm.findClass R_M = some m.cls := findClass_of_methodNamed B.named
  have hlocks := B.notSynchronized
  have hS : va_S A s.heap s.heap [] := va_S.rf
  have hl := lv_entry ([.ref h0, .int n, .int k, .int w]) (n := 5) (Nat.le_of_ble_eq_true rfl)
  rw [lg_entry_eq]
  generalize (lg_sl ([.ref h0, .int n, .int k, .int w]) ++ List.replicate (5 - (lg_sl ([.ref h0, .int n, .int k, .int w])).length) Slot.unset).toArray = ls at hl ⊢
  have hl : lv_has ls 5 [(0, .ref h0), (1, .int n), (2, .int k), (3, .int w)] := hl
  have hc : f_M_happens (a0, a1, a2, a3, a4, a5, a6, a7, a8, a9, a10, a11, a12, a13) k w = f_M_happens (a0, a1, a2, a3, a4, a5, a6, a7, a8, a9, a10, a11, a12, a13) k w := rfl
  have J446 : ∀ (j446_0 : Int32) (j446_1 : Int32) (j446_2 : Int32) (j446_3 : Int32) (j446_4 : Int32) (j446_5 : Int32) (j446_6 : Int32) (j446_7 : Int32) (j446_8 : Int32) (j446_9 : Int64) (j446_10 : Int32) (j446_11 : Int32) (j446_12 : Int32) (j446_13 : Int32) (H : Heap) (locs : List Loc) (ls : Array Slot), f_M_happens (a0, a1, a2, a3, a4, a5, a6, a7, a8, a9, a10, a11, a12, a13) k w = f_M_happens_j446 (j446_0, j446_1, j446_2, j446_3, j446_4, j446_5, j446_6, j446_7, j446_8, j446_9, j446_10, j446_11, j446_12, j446_13) k w → va_P D cls_ (wM h0 qq cc ff fl n.toNatClampNeg c0 nn lt (j446_0, j446_1, j446_2, j446_3, j446_4, j446_5, j446_6, j446_7, j446_8, j446_9, j446_10, j446_11, j446_12, j446_13)) H → va_D A (wM h0 qq cc ff fl n.toNatClampNeg c0 nn lt (j446_0, j446_1, j446_2, j446_3, j446_4, j446_5, j446_6, j446_7, j446_8, j446_9, j446_10, j446_11, j446_12, j446_13)) → va_S A s.heap H locs → lv_has ls 5 [(0, .ref h0), (1, .int n), (2, .int k), (3, .int w)] → W p l e (headSpec (cw_M_happens :: BIG) (rmk 2 0 0)).room s m ([.ref h0, .int n, .int k, .int w].toArray) below meth c H locs 0 0 (MQ below (va_Qv (fun u2 : MN => u2 = f_M_happens (a0, a1, a2, a3, a4, a5, a6, a7, a8, a9, a10, a11, a12, a13) k w) (fun (u2 : MN) (t : State) => va_P D cls_ (wM h0 qq cc ff fl n.toNatClampNeg c0 nn lt u2) t.heap) A) ([.ref h0, .int n, .int k, .int w].toArray) s 0 0 A) (F0 m 446 ls []) := by
    intro j446_0 j446_1 j446_2 j446_3 j446_4 j446_5 j446_6 j446_7 j446_8 j446_9 j446_10 j446_11 j446_12 j446_13 H locs ls hc hP hD hS hl
    refine lv_aload_n hx hb d_M_happens_446 rfl (lv_at hl 0 rfl) ?_
    refine va_get (D := D) (ci := 2) (v := .ref (qq 4)) (C := R_M) (T := F_M) (N := 17) hx hb htB uw_M hown hK hP 0 rfl rfl 6 (by decide) (htB _ fl_M_23) (fun _ h9 => h9) rfl d_M_happens_447 ?_
    refine lv_iload_n hx hb d_M_happens_450 rfl (lv_at hl 1 rfl) ?_
    refine lv_iload_n hx hb d_M_happens_451 rfl (lv_at hl 3 rfl) ?_
    refine lv_if_eq (tgt := 469) hx hb d_M_happens_452 (by decide) (fun c_10 => ?_) (fun c_10 => ?_)
    · refine lv_iconst (v := 3) hx hb d_M_happens_469 (by decide) ?_
      refine va_iast hx hb hK hP hD hS 5 4 rfl rfl hin d_M_happens_470 (fun H locs hP hD hS => ?_)
      have hP : va_P D cls_ (wM h0 qq cc ff fl n.toNatClampNeg c0 nn lt (j446_0, j446_1, j446_2, j446_3, 3, j446_5, j446_6, j446_7, j446_8, j446_9, j446_10, j446_11, j446_12, j446_13)) H := by have h9 := hP; rw [ws_4] at h9; exact h9
      have hD : va_D A (wM h0 qq cc ff fl n.toNatClampNeg c0 nn lt (j446_0, j446_1, j446_2, j446_3, 3, j446_5, j446_6, j446_7, j446_8, j446_9, j446_10, j446_11, j446_12, j446_13)) := by have h9 := hD; rw [ws_4] at h9; exact h9
      exact W.vret hx hb hr (fun t ht hW => ⟨⟨(j446_0, j446_1, j446_2, j446_3, 3, j446_5, j446_6, j446_7, j446_8, j446_9, j446_10, j446_11, j446_12, j446_13), rfl, (hc.trans (if_pos c_10)).symm, by show va_P _ _ _ t.heap; rw [ht]; exact hP⟩, hS.F ht⟩) hS.2.2 d_M_happens_471
    · refine lv_aload_n hx hb d_M_happens_455 rfl (lv_at hl 0 rfl) ?_
      refine lv_iload_n hx hb d_M_happens_456 rfl (lv_at hl 1 rfl) ?_
      refine vp_callSi (va_Run.run (va_runV (As := [.int n]) (rest := [.int n, .ref (qq 4)]) ⟨hx, hb, hml, hown, htB⟩ (c_M_is l D h0 qq cc ff fl c0 nn lt n hin (j446_0, j446_1, j446_2, j446_3, j446_4, j446_5, j446_6, j446_7, j446_8, j446_9, j446_10, j446_11, j446_12, j446_13)) (cwV 1 htB g_M_63 rfl rfl rfl (by decide +kernel) ⟨Nat.le_of_ble_eq_true rfl, Nat.le_of_ble_eq_true rfl⟩) (preV hP hK hN (va_recv hK hP (ci := 2) (q0 := 0) rfl rfl)) rfl rfl hl.1 rfl (lv_room (Nat.le_of_ble_eq_true rfl)) d_M_happens_457 ⟨Nat.le_of_ble_eq_true rfl, Nat.le_of_ble_eq_true rfl⟩)) (fun r_11 hr_11 => ?_)
      subst hr_11
      refine lv_iconst (v := 1) hx hb d_M_happens_460 (by decide) ?_
      refine lv_icmp_ne (tgt := 469) hx hb d_M_happens_461 (by decide) (fun c_12 => ?_) (fun c_12 => ?_)
      · refine lv_iconst (v := 3) hx hb d_M_happens_469 (by decide) ?_
        refine va_iast hx hb hK hP hD hS 5 4 rfl rfl hin d_M_happens_470 (fun H locs hP hD hS => ?_)
        have hP : va_P D cls_ (wM h0 qq cc ff fl n.toNatClampNeg c0 nn lt (j446_0, j446_1, j446_2, j446_3, 3, j446_5, j446_6, j446_7, j446_8, j446_9, j446_10, j446_11, j446_12, j446_13)) H := by have h9 := hP; rw [ws_4] at h9; exact h9
        have hD : va_D A (wM h0 qq cc ff fl n.toNatClampNeg c0 nn lt (j446_0, j446_1, j446_2, j446_3, 3, j446_5, j446_6, j446_7, j446_8, j446_9, j446_10, j446_11, j446_12, j446_13)) := by have h9 := hD; rw [ws_4] at h9; exact h9
        exact W.vret hx hb hr (fun t ht hW => ⟨⟨(j446_0, j446_1, j446_2, j446_3, 3, j446_5, j446_6, j446_7, j446_8, j446_9, j446_10, j446_11, j446_12, j446_13), rfl, (hc.trans ((if_neg c_10).trans (if_neg c_12))).symm, by show va_P _ _ _ t.heap; rw [ht]; exact hP⟩, hS.F ht⟩) hS.2.2 d_M_happens_471
      · refine lv_bipush (v := 11) hx hb d_M_happens_464 (by decide) ?_
        refine lv_goto (tgt := 470) hx hb d_M_happens_466 (by decide) ?_
        refine va_iast hx hb hK hP hD hS 5 4 rfl rfl hin d_M_happens_470 (fun H locs hP hD hS => ?_)
        have hP : va_P D cls_ (wM h0 qq cc ff fl n.toNatClampNeg c0 nn lt (j446_0, j446_1, j446_2, j446_3, 11, j446_5, j446_6, j446_7, j446_8, j446_9, j446_10, j446_11, j446_12, j446_13)) H := by have h9 := hP; rw [ws_4] at h9; exact h9
        have hD : va_D A (wM h0 qq cc ff fl n.toNatClampNeg c0 nn lt (j446_0, j446_1, j446_2, j446_3, 11, j446_5, j446_6, j446_7, j446_8, j446_9, j446_10, j446_11, j446_12, j446_13)) := by have h9 := hD; rw [ws_4] at h9; exact h9
        exact W.vret hx hb hr (fun t ht hW => ⟨⟨(j446_0, j446_1, j446_2, j446_3, 11, j446_5, j446_6, j446_7, j446_8, j446_9, j446_10, j446_11, j446_12, j446_13), rfl, (hc.trans ((if_neg c_10).trans (if_pos c_12))).symm, by show va_P _ _ _ t.heap; rw [ht]; exact hP⟩, hS.F ht⟩) hS.2.2 d_M_happens_471
  have J380 : ∀ (j380_0 : Int32) (j380_1 : Int32) (j380_2 : Int32) (j380_3 : Int32) (j380_4 : Int32) (j380_5 : Int32) (j380_6 : Int32) (j380_7 : Int32) (j380_8 : Int32) (j380_9 : Int64) (j380_10 : Int32) (j380_11 : Int32) (j380_12 : Int32) (j380_13 : Int32) (H : Heap) (locs : List Loc) (ls : Array Slot), f_M_happens (a0, a1, a2, a3, a4, a5, a6, a7, a8, a9, a10, a11, a12, a13) k w = f_M_happens_j380 (j380_0, j380_1, j380_2, j380_3, j380_4, j380_5, j380_6, j380_7, j380_8, j380_9, j380_10, j380_11, j380_12, j380_13) k w → va_P D cls_ (wM h0 qq cc ff fl n.toNatClampNeg c0 nn lt (j380_0, j380_1, j380_2, j380_3, j380_4, j380_5, j380_6, j380_7, j380_8, j380_9, j380_10, j380_11, j380_12, j380_13)) H → va_D A (wM h0 qq cc ff fl n.toNatClampNeg c0 nn lt (j380_0, j380_1, j380_2, j380_3, j380_4, j380_5, j380_6, j380_7, j380_8, j380_9, j380_10, j380_11, j380_12, j380_13)) → va_S A s.heap H locs → lv_has ls 5 [(0, .ref h0), (1, .int n), (2, .int k), (3, .int w)] → W p l e (headSpec (cw_M_happens :: BIG) (rmk 2 0 0)).room s m ([.ref h0, .int n, .int k, .int w].toArray) below meth c H locs 0 0 (MQ below (va_Qv (fun u2 : MN => u2 = f_M_happens (a0, a1, a2, a3, a4, a5, a6, a7, a8, a9, a10, a11, a12, a13) k w) (fun (u2 : MN) (t : State) => va_P D cls_ (wM h0 qq cc ff fl n.toNatClampNeg c0 nn lt u2) t.heap) A) ([.ref h0, .int n, .int k, .int w].toArray) s 0 0 A) (F0 m 380 ls []) := by
    intro j380_0 j380_1 j380_2 j380_3 j380_4 j380_5 j380_6 j380_7 j380_8 j380_9 j380_10 j380_11 j380_12 j380_13 H locs ls hc hP hD hS hl
    refine lv_aload_n hx hb d_M_happens_380 rfl (lv_at hl 0 rfl) ?_
    refine va_get (D := D) (ci := 2) (v := .ref (qq 0)) (C := R_M) (T := F_M) (N := 17) hx hb htB uw_M hown hK hP 0 rfl rfl 2 (by decide) (htB _ fl_M_7) (fun _ h9 => h9) rfl d_M_happens_381 ?_
    refine lv_iload_n hx hb d_M_happens_384 rfl (lv_at hl 1 rfl) ?_
    refine va_iald hx hb hK hP 1 0 rfl rfl hin d_M_happens_385 ?_
    refine tpi j380_0 pk_us ?_
    refine lv_sipush (v := 256) hx hb d_M_happens_386 (by decide) ?_
    refine lv_icmp_ne (tgt := 446) hx hb d_M_happens_389 (by decide) (fun c_9 => ?_) (fun c_9 => ?_)
    · exact J446 j380_0 j380_1 j380_2 j380_3 j380_4 j380_5 j380_6 j380_7 j380_8 j380_9 j380_10 j380_11 j380_12 j380_13 _ _ _ (hc.trans (if_neg c_9)) hP hD hS (lv_sub hl [0, 1, 2, 3] rfl)
    · refine lv_aload_n hx hb d_M_happens_392 rfl (lv_at hl 0 rfl) ?_
      refine va_get (D := D) (ci := 2) (v := .ref (qq 2)) (C := R_M) (T := F_M) (N := 17) hx hb htB uw_M hown hK hP 0 rfl rfl 4 (by decide) (htB _ fl_M_16) (fun _ h9 => h9) rfl d_M_happens_393 ?_
      refine lv_iload_n hx hb d_M_happens_396 rfl (lv_at hl 1 rfl) ?_
      refine lv_iconst (v := 1) hx hb d_M_happens_397 (by decide) ?_
      refine va_zast hx hb hK hP hD hS 3 2 rfl rfl hin d_M_happens_398 (fun H locs hP hD hS => ?_)
      rw [vnb (Or.inr rfl)] at hP hD
      have hP : va_P D cls_ (wM h0 qq cc ff fl n.toNatClampNeg c0 nn lt (j380_0, j380_1, 1, j380_3, j380_4, j380_5, j380_6, j380_7, j380_8, j380_9, j380_10, j380_11, j380_12, j380_13)) H := by have h9 := hP; rw [ws_2] at h9; exact h9
      have hD : va_D A (wM h0 qq cc ff fl n.toNatClampNeg c0 nn lt (j380_0, j380_1, 1, j380_3, j380_4, j380_5, j380_6, j380_7, j380_8, j380_9, j380_10, j380_11, j380_12, j380_13)) := by have h9 := hD; rw [ws_2] at h9; exact h9
      refine lv_aload_n hx hb d_M_happens_399 rfl (lv_at hl 0 rfl) ?_
      refine va_get (D := D) (ci := 2) (v := .ref (qq 3)) (C := R_M) (T := F_M) (N := 17) hx hb htB uw_M hown hK hP 0 rfl rfl 5 (by decide) (htB _ fl_M_20) (fun _ h9 => h9) rfl d_M_happens_400 ?_
      refine lv_iload_n hx hb d_M_happens_403 rfl (lv_at hl 1 rfl) ?_
      refine lv_iconst (v := 0) hx hb d_M_happens_404 (by decide) ?_
      refine va_iast hx hb hK hP hD hS 4 3 rfl rfl hin d_M_happens_405 (fun H locs hP hD hS => ?_)
      have hP : va_P D cls_ (wM h0 qq cc ff fl n.toNatClampNeg c0 nn lt (j380_0, j380_1, 1, 0, j380_4, j380_5, j380_6, j380_7, j380_8, j380_9, j380_10, j380_11, j380_12, j380_13)) H := by have h9 := hP; rw [ws_3] at h9; exact h9
      have hD : va_D A (wM h0 qq cc ff fl n.toNatClampNeg c0 nn lt (j380_0, j380_1, 1, 0, j380_4, j380_5, j380_6, j380_7, j380_8, j380_9, j380_10, j380_11, j380_12, j380_13)) := by have h9 := hD; rw [ws_3] at h9; exact h9
      refine lv_aload_n hx hb d_M_happens_406 rfl (lv_at hl 0 rfl) ?_
      refine va_get (D := D) (ci := 2) (v := .ref (qq 9)) (C := R_M) (T := F_M) (N := 17) hx hb htB uw_M hown hK hP 0 rfl rfl 11 (by decide) (htB _ fl_M_38) (fun _ h9 => h9) rfl d_M_happens_407 ?_
      refine lv_iload_n hx hb d_M_happens_410 rfl (lv_at hl 1 rfl) ?_
      refine lv_ldc2 (v := (-1)) hx hb hown (htB _ k_M_61) d_M_happens_411 ?_
      refine va_last hx hb hK hP hD hS 10 9 rfl rfl hin d_M_happens_414 (fun H locs hP hD hS => ?_)
      have hP : va_P D cls_ (wM h0 qq cc ff fl n.toNatClampNeg c0 nn lt (j380_0, j380_1, 1, 0, j380_4, j380_5, j380_6, j380_7, j380_8, (-1), j380_10, j380_11, j380_12, j380_13)) H := by have h9 := hP; rw [ws_9] at h9; exact h9
      have hD : va_D A (wM h0 qq cc ff fl n.toNatClampNeg c0 nn lt (j380_0, j380_1, 1, 0, j380_4, j380_5, j380_6, j380_7, j380_8, (-1), j380_10, j380_11, j380_12, j380_13)) := by have h9 := hD; rw [ws_9] at h9; exact h9
      refine lv_aload_n hx hb d_M_happens_415 rfl (lv_at hl 0 rfl) ?_
      refine va_get (D := D) (ci := 2) (v := .ref (qq 10)) (C := R_M) (T := F_M) (N := 17) hx hb htB uw_M hown hK hP 0 rfl rfl 12 (by decide) (htB _ fl_M_42) (fun _ h9 => h9) rfl d_M_happens_416 ?_
      refine lv_iload_n hx hb d_M_happens_419 rfl (lv_at hl 1 rfl) ?_
      refine lv_iconst (v := 0) hx hb d_M_happens_420 (by decide) ?_
      refine va_zast hx hb hK hP hD hS 11 10 rfl rfl hin d_M_happens_421 (fun H locs hP hD hS => ?_)
      rw [vnb (Or.inl rfl)] at hP hD
      have hP : va_P D cls_ (wM h0 qq cc ff fl n.toNatClampNeg c0 nn lt (j380_0, j380_1, 1, 0, j380_4, j380_5, j380_6, j380_7, j380_8, (-1), 0, j380_11, j380_12, j380_13)) H := by have h9 := hP; rw [ws_10] at h9; exact h9
      have hD : va_D A (wM h0 qq cc ff fl n.toNatClampNeg c0 nn lt (j380_0, j380_1, 1, 0, j380_4, j380_5, j380_6, j380_7, j380_8, (-1), 0, j380_11, j380_12, j380_13)) := by have h9 := hD; rw [ws_10] at h9; exact h9
      refine lv_aload_n hx hb d_M_happens_422 rfl (lv_at hl 0 rfl) ?_
      refine va_get (D := D) (ci := 2) (v := .ref (qq 11)) (C := R_M) (T := F_M) (N := 17) hx hb htB uw_M hown hK hP 0 rfl rfl 13 (by decide) (htB _ fl_M_45) (fun _ h9 => h9) rfl d_M_happens_423 ?_
      refine lv_iload_n hx hb d_M_happens_426 rfl (lv_at hl 1 rfl) ?_
      refine lv_iconst (v := 0) hx hb d_M_happens_427 (by decide) ?_
      refine va_iast hx hb hK hP hD hS 12 11 rfl rfl hin d_M_happens_428 (fun H locs hP hD hS => ?_)
      have hP : va_P D cls_ (wM h0 qq cc ff fl n.toNatClampNeg c0 nn lt (j380_0, j380_1, 1, 0, j380_4, j380_5, j380_6, j380_7, j380_8, (-1), 0, 0, j380_12, j380_13)) H := by have h9 := hP; rw [ws_11] at h9; exact h9
      have hD : va_D A (wM h0 qq cc ff fl n.toNatClampNeg c0 nn lt (j380_0, j380_1, 1, 0, j380_4, j380_5, j380_6, j380_7, j380_8, (-1), 0, 0, j380_12, j380_13)) := by have h9 := hD; rw [ws_11] at h9; exact h9
      refine lv_aload_n hx hb d_M_happens_429 rfl (lv_at hl 0 rfl) ?_
      refine va_get (D := D) (ci := 2) (v := .ref (qq 13)) (C := R_M) (T := F_M) (N := 17) hx hb htB uw_M hown hK hP 0 rfl rfl 15 (by decide) (htB _ fl_M_51) (fun _ h9 => h9) rfl d_M_happens_430 ?_
      refine lv_iload_n hx hb d_M_happens_433 rfl (lv_at hl 1 rfl) ?_
      refine lv_iconst (v := 0) hx hb d_M_happens_434 (by decide) ?_
      refine va_iast hx hb hK hP hD hS 14 13 rfl rfl hin d_M_happens_435 (fun H locs hP hD hS => ?_)
      have hP : va_P D cls_ (wM h0 qq cc ff fl n.toNatClampNeg c0 nn lt (j380_0, j380_1, 1, 0, j380_4, j380_5, j380_6, j380_7, j380_8, (-1), 0, 0, j380_12, 0)) H := by have h9 := hP; rw [ws_13] at h9; exact h9
      have hD : va_D A (wM h0 qq cc ff fl n.toNatClampNeg c0 nn lt (j380_0, j380_1, 1, 0, j380_4, j380_5, j380_6, j380_7, j380_8, (-1), 0, 0, j380_12, 0)) := by have h9 := hD; rw [ws_13] at h9; exact h9
      refine lv_aload_n hx hb d_M_happens_436 rfl (lv_at hl 0 rfl) ?_
      refine va_get (D := D) (ci := 2) (v := .ref (qq 12)) (C := R_M) (T := F_M) (N := 17) hx hb htB uw_M hown hK hP 0 rfl rfl 14 (by decide) (htB _ fl_M_48) (fun _ h9 => h9) rfl d_M_happens_437 ?_
      refine lv_iload_n hx hb d_M_happens_440 rfl (lv_at hl 1 rfl) ?_
      refine lv_dup2_11 hx hb d_M_happens_441 rfl rfl ?_
      refine va_iald hx hb hK hP 13 12 rfl rfl hin d_M_happens_442 ?_
      refine tpi j380_12 pk_us ?_
      refine lv_iconst (v := 1) hx hb d_M_happens_443 (by decide) ?_
      refine lv_iadd hx hb d_M_happens_444 ?_
      refine va_iast hx hb hK hP hD hS 13 12 rfl rfl hin d_M_happens_445 (fun H locs hP hD hS => ?_)
      have hP : va_P D cls_ (wM h0 qq cc ff fl n.toNatClampNeg c0 nn lt (j380_0, j380_1, 1, 0, j380_4, j380_5, j380_6, j380_7, j380_8, (-1), 0, 0, j380_12 + 1, 0)) H := by have h9 := hP; rw [ws_12] at h9; exact h9
      have hD : va_D A (wM h0 qq cc ff fl n.toNatClampNeg c0 nn lt (j380_0, j380_1, 1, 0, j380_4, j380_5, j380_6, j380_7, j380_8, (-1), 0, 0, j380_12 + 1, 0)) := by have h9 := hD; rw [ws_12] at h9; exact h9
      exact J446 j380_0 j380_1 1 0 j380_4 j380_5 j380_6 j380_7 j380_8 (-1) 0 0 (j380_12 + 1) 0 _ _ _ (hc.trans (if_pos c_9)) hP hD hS (lv_sub hl [0, 1, 2, 3] rfl)
  have J355 : ∀ (j355_0 : Int32) (j355_1 : Int32) (j355_2 : Int32) (j355_3 : Int32) (j355_4 : Int32) (j355_5 : Int32) (j355_6 : Int32) (j355_7 : Int32) (j355_8 : Int32) (j355_9 : Int64) (j355_10 : Int32) (j355_11 : Int32) (j355_12 : Int32) (j355_13 : Int32) (H : Heap) (locs : List Loc) (ls : Array Slot), f_M_happens (a0, a1, a2, a3, a4, a5, a6, a7, a8, a9, a10, a11, a12, a13) k w = f_M_happens_j355 (j355_0, j355_1, j355_2, j355_3, j355_4, j355_5, j355_6, j355_7, j355_8, j355_9, j355_10, j355_11, j355_12, j355_13) k w → va_P D cls_ (wM h0 qq cc ff fl n.toNatClampNeg c0 nn lt (j355_0, j355_1, j355_2, j355_3, j355_4, j355_5, j355_6, j355_7, j355_8, j355_9, j355_10, j355_11, j355_12, j355_13)) H → va_D A (wM h0 qq cc ff fl n.toNatClampNeg c0 nn lt (j355_0, j355_1, j355_2, j355_3, j355_4, j355_5, j355_6, j355_7, j355_8, j355_9, j355_10, j355_11, j355_12, j355_13)) → va_S A s.heap H locs → lv_has ls 5 [(0, .ref h0), (1, .int n), (2, .int k), (3, .int w)] → W p l e (headSpec (cw_M_happens :: BIG) (rmk 2 0 0)).room s m ([.ref h0, .int n, .int k, .int w].toArray) below meth c H locs 0 0 (MQ below (va_Qv (fun u2 : MN => u2 = f_M_happens (a0, a1, a2, a3, a4, a5, a6, a7, a8, a9, a10, a11, a12, a13) k w) (fun (u2 : MN) (t : State) => va_P D cls_ (wM h0 qq cc ff fl n.toNatClampNeg c0 nn lt u2) t.heap) A) ([.ref h0, .int n, .int k, .int w].toArray) s 0 0 A) (F0 m 355 ls []) := by
    intro j355_0 j355_1 j355_2 j355_3 j355_4 j355_5 j355_6 j355_7 j355_8 j355_9 j355_10 j355_11 j355_12 j355_13 H locs ls hc hP hD hS hl
    refine lv_aload_n hx hb d_M_happens_355 rfl (lv_at hl 0 rfl) ?_
    refine va_get (D := D) (ci := 2) (v := .ref (qq 13)) (C := R_M) (T := F_M) (N := 17) hx hb htB uw_M hown hK hP 0 rfl rfl 15 (by decide) (htB _ fl_M_51) (fun _ h9 => h9) rfl d_M_happens_356 ?_
    refine lv_iload_n hx hb d_M_happens_359 rfl (lv_at hl 1 rfl) ?_
    refine va_iald hx hb hK hP 14 13 rfl rfl hin d_M_happens_360 ?_
    refine tpi j355_13 pk_us ?_
    refine lv_bipush (v := 100) hx hb d_M_happens_361 (by decide) ?_
    refine lv_icmp_ne (tgt := 380) hx hb d_M_happens_363 (by decide) (fun c_8 => ?_) (fun c_8 => ?_)
    · exact J380 j355_0 j355_1 j355_2 j355_3 j355_4 j355_5 j355_6 j355_7 j355_8 j355_9 j355_10 j355_11 j355_12 j355_13 _ _ _ (hc.trans (if_neg c_8)) hP hD hS (lv_sub hl [0, 1, 2, 3] rfl)
    · refine lv_aload_n hx hb d_M_happens_366 rfl (lv_at hl 0 rfl) ?_
      refine va_get (D := D) (ci := 2) (v := .ref (qq 13)) (C := R_M) (T := F_M) (N := 17) hx hb htB uw_M hown hK hP 0 rfl rfl 15 (by decide) (htB _ fl_M_51) (fun _ h9 => h9) rfl d_M_happens_367 ?_
      refine lv_iload_n hx hb d_M_happens_370 rfl (lv_at hl 1 rfl) ?_
      refine lv_iconst (v := 0) hx hb d_M_happens_371 (by decide) ?_
      refine va_iast hx hb hK hP hD hS 14 13 rfl rfl hin d_M_happens_372 (fun H locs hP hD hS => ?_)
      have hP : va_P D cls_ (wM h0 qq cc ff fl n.toNatClampNeg c0 nn lt (j355_0, j355_1, j355_2, j355_3, j355_4, j355_5, j355_6, j355_7, j355_8, j355_9, j355_10, j355_11, j355_12, 0)) H := by have h9 := hP; rw [ws_13] at h9; exact h9
      have hD : va_D A (wM h0 qq cc ff fl n.toNatClampNeg c0 nn lt (j355_0, j355_1, j355_2, j355_3, j355_4, j355_5, j355_6, j355_7, j355_8, j355_9, j355_10, j355_11, j355_12, 0)) := by have h9 := hD; rw [ws_13] at h9; exact h9
      refine lv_aload_n hx hb d_M_happens_373 rfl (lv_at hl 0 rfl) ?_
      refine va_get (D := D) (ci := 2) (v := .ref (qq 12)) (C := R_M) (T := F_M) (N := 17) hx hb htB uw_M hown hK hP 0 rfl rfl 14 (by decide) (htB _ fl_M_48) (fun _ h9 => h9) rfl d_M_happens_374 ?_
      refine lv_iload_n hx hb d_M_happens_377 rfl (lv_at hl 1 rfl) ?_
      refine lv_iconst (v := 0) hx hb d_M_happens_378 (by decide) ?_
      refine va_iast hx hb hK hP hD hS 13 12 rfl rfl hin d_M_happens_379 (fun H locs hP hD hS => ?_)
      have hP : va_P D cls_ (wM h0 qq cc ff fl n.toNatClampNeg c0 nn lt (j355_0, j355_1, j355_2, j355_3, j355_4, j355_5, j355_6, j355_7, j355_8, j355_9, j355_10, j355_11, 0, 0)) H := by have h9 := hP; rw [ws_12] at h9; exact h9
      have hD : va_D A (wM h0 qq cc ff fl n.toNatClampNeg c0 nn lt (j355_0, j355_1, j355_2, j355_3, j355_4, j355_5, j355_6, j355_7, j355_8, j355_9, j355_10, j355_11, 0, 0)) := by have h9 := hD; rw [ws_12] at h9; exact h9
      exact J380 j355_0 j355_1 j355_2 j355_3 j355_4 j355_5 j355_6 j355_7 j355_8 j355_9 j355_10 j355_11 0 0 _ _ _ (hc.trans (if_pos c_8)) hP hD hS (lv_sub hl [0, 1, 2, 3] rfl)
  have J317 : ∀ (j317_0 : Int32) (j317_1 : Int32) (j317_2 : Int32) (j317_3 : Int32) (j317_4 : Int32) (j317_5 : Int32) (j317_6 : Int32) (j317_7 : Int32) (j317_8 : Int32) (j317_9 : Int64) (j317_10 : Int32) (j317_11 : Int32) (j317_12 : Int32) (j317_13 : Int32) (H : Heap) (locs : List Loc) (ls : Array Slot), f_M_happens (a0, a1, a2, a3, a4, a5, a6, a7, a8, a9, a10, a11, a12, a13) k w = f_M_happens_j317 (j317_0, j317_1, j317_2, j317_3, j317_4, j317_5, j317_6, j317_7, j317_8, j317_9, j317_10, j317_11, j317_12, j317_13) k w → va_P D cls_ (wM h0 qq cc ff fl n.toNatClampNeg c0 nn lt (j317_0, j317_1, j317_2, j317_3, j317_4, j317_5, j317_6, j317_7, j317_8, j317_9, j317_10, j317_11, j317_12, j317_13)) H → va_D A (wM h0 qq cc ff fl n.toNatClampNeg c0 nn lt (j317_0, j317_1, j317_2, j317_3, j317_4, j317_5, j317_6, j317_7, j317_8, j317_9, j317_10, j317_11, j317_12, j317_13)) → va_S A s.heap H locs → lv_has ls 5 [(0, .ref h0), (1, .int n), (2, .int k), (3, .int w)] → W p l e (headSpec (cw_M_happens :: BIG) (rmk 2 0 0)).room s m ([.ref h0, .int n, .int k, .int w].toArray) below meth c H locs 0 0 (MQ below (va_Qv (fun u2 : MN => u2 = f_M_happens (a0, a1, a2, a3, a4, a5, a6, a7, a8, a9, a10, a11, a12, a13) k w) (fun (u2 : MN) (t : State) => va_P D cls_ (wM h0 qq cc ff fl n.toNatClampNeg c0 nn lt u2) t.heap) A) ([.ref h0, .int n, .int k, .int w].toArray) s 0 0 A) (F0 m 317 ls []) := by
    intro j317_0 j317_1 j317_2 j317_3 j317_4 j317_5 j317_6 j317_7 j317_8 j317_9 j317_10 j317_11 j317_12 j317_13 H locs ls hc hP hD hS hl
    refine lv_aload_n hx hb d_M_happens_317 rfl (lv_at hl 0 rfl) ?_
    refine va_get (D := D) (ci := 2) (v := .ref (qq 13)) (C := R_M) (T := F_M) (N := 17) hx hb htB uw_M hown hK hP 0 rfl rfl 15 (by decide) (htB _ fl_M_51) (fun _ h9 => h9) rfl d_M_happens_318 ?_
    refine lv_iload_n hx hb d_M_happens_321 rfl (lv_at hl 1 rfl) ?_
    refine lv_iload_n hx hb d_M_happens_322 rfl (lv_at hl 2 rfl) ?_
    refine vp_callSi (va_Run.run (va_runS (As := [.int k]) (rest := [.int n, .ref (qq 13)]) ⟨hx, hb, hml, hown, htB⟩ (c_M_error l k) (cwS 1 htB g_M_71 rfl rfl rfl (by decide +kernel) ⟨Nat.le_of_ble_eq_true rfl, Nat.le_of_ble_eq_true rfl⟩) (preN hN) rfl rfl hl.1 rfl (lv_room (Nat.le_of_ble_eq_true rfl)) d_M_happens_323 ⟨Nat.le_of_ble_eq_true rfl, Nat.le_of_ble_eq_true rfl⟩)) (fun r_5 hr_5 => ?_)
    subst hr_5
    refine lv_if_eq (tgt := 333) hx hb d_M_happens_326 (by decide) (fun c_6 => ?_) (fun c_6 => ?_)
    · refine lv_iload_n hx hb d_M_happens_333 rfl (lv_at hl 2 rfl) ?_
      refine lv_if_ne (tgt := 348) hx hb d_M_happens_334 (by decide) (fun c_7 => ?_) (fun c_7 => ?_)
      · refine lv_aload_n hx hb d_M_happens_348 rfl (lv_at hl 0 rfl) ?_
        refine va_get (D := D) (ci := 2) (v := .ref (qq 13)) (C := R_M) (T := F_M) (N := 17) hx hb htB uw_M hown hK hP 0 rfl rfl 15 (by decide) (htB _ fl_M_51) (fun _ h9 => h9) rfl d_M_happens_349 ?_
        refine lv_iload_n hx hb d_M_happens_352 rfl (lv_at hl 1 rfl) ?_
        refine va_iald hx hb hK hP 14 13 rfl rfl hin d_M_happens_353 ?_
        refine tpi j317_13 pk_us ?_
        refine va_iast hx hb hK hP hD hS 14 13 rfl rfl hin d_M_happens_354 (fun H locs hP hD hS => ?_)
        have hP : va_P D cls_ (wM h0 qq cc ff fl n.toNatClampNeg c0 nn lt (j317_0, j317_1, j317_2, j317_3, j317_4, j317_5, j317_6, j317_7, j317_8, j317_9, j317_10, j317_11, j317_12, j317_13)) H := by have h9 := hP; rw [ws_13] at h9; exact h9
        have hD : va_D A (wM h0 qq cc ff fl n.toNatClampNeg c0 nn lt (j317_0, j317_1, j317_2, j317_3, j317_4, j317_5, j317_6, j317_7, j317_8, j317_9, j317_10, j317_11, j317_12, j317_13)) := by have h9 := hD; rw [ws_13] at h9; exact h9
        exact J355 j317_0 j317_1 j317_2 j317_3 j317_4 j317_5 j317_6 j317_7 j317_8 j317_9 j317_10 j317_11 j317_12 j317_13 _ _ _ (hc.trans ((if_pos c_6).trans (if_neg c_7))) hP hD hS (lv_sub hl [0, 1, 2, 3] rfl)
      · refine lv_aload_n hx hb d_M_happens_337 rfl (lv_at hl 0 rfl) ?_
        refine va_get (D := D) (ci := 2) (v := .ref (qq 13)) (C := R_M) (T := F_M) (N := 17) hx hb htB uw_M hown hK hP 0 rfl rfl 15 (by decide) (htB _ fl_M_51) (fun _ h9 => h9) rfl d_M_happens_338 ?_
        refine lv_iload_n hx hb d_M_happens_341 rfl (lv_at hl 1 rfl) ?_
        refine va_iald hx hb hK hP 14 13 rfl rfl hin d_M_happens_342 ?_
        refine tpi j317_13 pk_us ?_
        refine lv_iconst (v := 1) hx hb d_M_happens_343 (by decide) ?_
        refine lv_iadd hx hb d_M_happens_344 ?_
        refine lv_goto (tgt := 354) hx hb d_M_happens_345 (by decide) ?_
        refine va_iast hx hb hK hP hD hS 14 13 rfl rfl hin d_M_happens_354 (fun H locs hP hD hS => ?_)
        have hP : va_P D cls_ (wM h0 qq cc ff fl n.toNatClampNeg c0 nn lt (j317_0, j317_1, j317_2, j317_3, j317_4, j317_5, j317_6, j317_7, j317_8, j317_9, j317_10, j317_11, j317_12, j317_13 + 1)) H := by have h9 := hP; rw [ws_13] at h9; exact h9
        have hD : va_D A (wM h0 qq cc ff fl n.toNatClampNeg c0 nn lt (j317_0, j317_1, j317_2, j317_3, j317_4, j317_5, j317_6, j317_7, j317_8, j317_9, j317_10, j317_11, j317_12, j317_13 + 1)) := by have h9 := hD; rw [ws_13] at h9; exact h9
        exact J355 j317_0 j317_1 j317_2 j317_3 j317_4 j317_5 j317_6 j317_7 j317_8 j317_9 j317_10 j317_11 j317_12 (j317_13 + 1) _ _ _ (hc.trans ((if_pos c_6).trans (if_pos c_7))) hP hD hS (lv_sub hl [0, 1, 2, 3] rfl)
    · refine lv_iconst (v := 0) hx hb d_M_happens_329 (by decide) ?_
      refine lv_goto (tgt := 354) hx hb d_M_happens_330 (by decide) ?_
      refine va_iast hx hb hK hP hD hS 14 13 rfl rfl hin d_M_happens_354 (fun H locs hP hD hS => ?_)
      have hP : va_P D cls_ (wM h0 qq cc ff fl n.toNatClampNeg c0 nn lt (j317_0, j317_1, j317_2, j317_3, j317_4, j317_5, j317_6, j317_7, j317_8, j317_9, j317_10, j317_11, j317_12, 0)) H := by have h9 := hP; rw [ws_13] at h9; exact h9
      have hD : va_D A (wM h0 qq cc ff fl n.toNatClampNeg c0 nn lt (j317_0, j317_1, j317_2, j317_3, j317_4, j317_5, j317_6, j317_7, j317_8, j317_9, j317_10, j317_11, j317_12, 0)) := by have h9 := hD; rw [ws_13] at h9; exact h9
      exact J355 j317_0 j317_1 j317_2 j317_3 j317_4 j317_5 j317_6 j317_7 j317_8 j317_9 j317_10 j317_11 j317_12 0 _ _ _ (hc.trans (if_neg c_6)) hP hD hS (lv_sub hl [0, 1, 2, 3] rfl)
  have J280 : ∀ (j280_0 : Int32) (j280_1 : Int32) (j280_2 : Int32) (j280_3 : Int32) (j280_4 : Int32) (j280_5 : Int32) (j280_6 : Int32) (j280_7 : Int32) (j280_8 : Int32) (j280_9 : Int64) (j280_10 : Int32) (j280_11 : Int32) (j280_12 : Int32) (j280_13 : Int32) (H : Heap) (locs : List Loc) (ls : Array Slot), f_M_happens (a0, a1, a2, a3, a4, a5, a6, a7, a8, a9, a10, a11, a12, a13) k w = f_M_happens_j280 (j280_0, j280_1, j280_2, j280_3, j280_4, j280_5, j280_6, j280_7, j280_8, j280_9, j280_10, j280_11, j280_12, j280_13) k w → va_P D cls_ (wM h0 qq cc ff fl n.toNatClampNeg c0 nn lt (j280_0, j280_1, j280_2, j280_3, j280_4, j280_5, j280_6, j280_7, j280_8, j280_9, j280_10, j280_11, j280_12, j280_13)) H → va_D A (wM h0 qq cc ff fl n.toNatClampNeg c0 nn lt (j280_0, j280_1, j280_2, j280_3, j280_4, j280_5, j280_6, j280_7, j280_8, j280_9, j280_10, j280_11, j280_12, j280_13)) → va_S A s.heap H locs → lv_has ls 5 [(0, .ref h0), (1, .int n), (2, .int k), (3, .int w)] → W p l e (headSpec (cw_M_happens :: BIG) (rmk 2 0 0)).room s m ([.ref h0, .int n, .int k, .int w].toArray) below meth c H locs 0 0 (MQ below (va_Qv (fun u2 : MN => u2 = f_M_happens (a0, a1, a2, a3, a4, a5, a6, a7, a8, a9, a10, a11, a12, a13) k w) (fun (u2 : MN) (t : State) => va_P D cls_ (wM h0 qq cc ff fl n.toNatClampNeg c0 nn lt u2) t.heap) A) ([.ref h0, .int n, .int k, .int w].toArray) s 0 0 A) (F0 m 280 ls []) := by
    intro j280_0 j280_1 j280_2 j280_3 j280_4 j280_5 j280_6 j280_7 j280_8 j280_9 j280_10 j280_11 j280_12 j280_13 H locs ls hc hP hD hS hl
    refine lv_aload_n hx hb d_M_happens_280 rfl (lv_at hl 0 rfl) ?_
    refine va_get (D := D) (ci := 2) (v := .ref (qq 5)) (C := R_M) (T := F_M) (N := 17) hx hb htB uw_M hown hK hP 0 rfl rfl 7 (by decide) (htB _ fl_M_26) (fun _ h9 => h9) rfl d_M_happens_281 ?_
    refine lv_iload_n hx hb d_M_happens_284 rfl (lv_at hl 1 rfl) ?_
    refine lv_iload_n hx hb d_M_happens_285 rfl (lv_at hl 3 rfl) ?_
    refine va_zast hx hb hK hP hD hS 6 5 rfl rfl hin d_M_happens_286 (fun H locs hP hD hS => ?_)
    rw [vnb hb_w] at hP hD
    have hP : va_P D cls_ (wM h0 qq cc ff fl n.toNatClampNeg c0 nn lt (j280_0, j280_1, j280_2, j280_3, j280_4, w, j280_6, j280_7, j280_8, j280_9, j280_10, j280_11, j280_12, j280_13)) H := by have h9 := hP; rw [ws_5] at h9; exact h9
    have hD : va_D A (wM h0 qq cc ff fl n.toNatClampNeg c0 nn lt (j280_0, j280_1, j280_2, j280_3, j280_4, w, j280_6, j280_7, j280_8, j280_9, j280_10, j280_11, j280_12, j280_13)) := by have h9 := hD; rw [ws_5] at h9; exact h9
    refine lv_iload_n hx hb d_M_happens_287 rfl (lv_at hl 2 rfl) ?_
    refine vp_callSi (va_Run.run (va_runS (As := [.int k]) (rest := []) ⟨hx, hb, hml, hown, htB⟩ (c_M_error l k) (cwS 1 htB g_M_71 rfl rfl rfl (by decide +kernel) ⟨Nat.le_of_ble_eq_true rfl, Nat.le_of_ble_eq_true rfl⟩) (preN hN) rfl rfl hl.1 rfl (lv_room (Nat.le_of_ble_eq_true rfl)) d_M_happens_288 ⟨Nat.le_of_ble_eq_true rfl, Nat.le_of_ble_eq_true rfl⟩)) (fun r_3 hr_3 => ?_)
    subst hr_3
    refine lv_if_eq (tgt := 317) hx hb d_M_happens_291 (by decide) (fun c_4 => ?_) (fun c_4 => ?_)
    · exact J317 j280_0 j280_1 j280_2 j280_3 j280_4 w j280_6 j280_7 j280_8 j280_9 j280_10 j280_11 j280_12 j280_13 _ _ _ (hc.trans (if_pos c_4)) hP hD hS (lv_sub hl [0, 1, 2, 3] rfl)
    · refine lv_iload_n hx hb d_M_happens_294 rfl (lv_at hl 3 rfl) ?_
      refine lv_if_eq (tgt := 317) hx hb d_M_happens_295 (by decide) (fun c_13 => ?_) (fun c_13 => ?_)
      · exact J317 j280_0 j280_1 j280_2 j280_3 j280_4 w j280_6 j280_7 j280_8 j280_9 j280_10 j280_11 j280_12 j280_13 _ _ _ (hc.trans ((if_neg c_4).trans (if_pos c_13))) hP hD hS (lv_sub hl [0, 1, 2, 3] rfl)
      · refine lv_aload_n hx hb d_M_happens_298 rfl (lv_at hl 0 rfl) ?_
        refine va_get (D := D) (ci := 2) (v := .ref (qq 6)) (C := R_M) (T := F_M) (N := 17) hx hb htB uw_M hown hK hP 0 rfl rfl 8 (by decide) (htB _ fl_M_29) (fun _ h9 => h9) rfl d_M_happens_299 ?_
        refine lv_iload_n hx hb d_M_happens_302 rfl (lv_at hl 1 rfl) ?_
        refine va_zald hx hb hK hP 7 6 rfl rfl hin d_M_happens_303 ?_
        refine tpi j280_6 pk_us ?_
        refine lv_if_eq (tgt := 317) hx hb d_M_happens_304 (by decide) (fun c_14 => ?_) (fun c_14 => ?_)
        · exact J317 j280_0 j280_1 j280_2 j280_3 j280_4 w j280_6 j280_7 j280_8 j280_9 j280_10 j280_11 j280_12 j280_13 _ _ _ (hc.trans ((if_neg c_4).trans ((if_neg c_13).trans (if_pos c_14)))) hP hD hS (lv_sub hl [0, 1, 2, 3] rfl)
        · refine lv_aload_n hx hb d_M_happens_307 rfl (lv_at hl 0 rfl) ?_
          refine va_get (D := D) (ci := 2) (v := .ref (qq 7)) (C := R_M) (T := F_M) (N := 17) hx hb htB uw_M hown hK hP 0 rfl rfl 9 (by decide) (htB _ fl_M_32) (fun _ h9 => h9) rfl d_M_happens_308 ?_
          refine lv_iload_n hx hb d_M_happens_311 rfl (lv_at hl 1 rfl) ?_
          refine lv_dup2_11 hx hb d_M_happens_312 rfl rfl ?_
          refine va_iald hx hb hK hP 8 7 rfl rfl hin d_M_happens_313 ?_
          refine tpi j280_7 pk_us ?_
          refine lv_iconst (v := 1) hx hb d_M_happens_314 (by decide) ?_
          refine lv_iadd hx hb d_M_happens_315 ?_
          refine va_iast hx hb hK hP hD hS 8 7 rfl rfl hin d_M_happens_316 (fun H locs hP hD hS => ?_)
          have hP : va_P D cls_ (wM h0 qq cc ff fl n.toNatClampNeg c0 nn lt (j280_0, j280_1, j280_2, j280_3, j280_4, w, j280_6, j280_7 + 1, j280_8, j280_9, j280_10, j280_11, j280_12, j280_13)) H := by have h9 := hP; rw [ws_7] at h9; exact h9
          have hD : va_D A (wM h0 qq cc ff fl n.toNatClampNeg c0 nn lt (j280_0, j280_1, j280_2, j280_3, j280_4, w, j280_6, j280_7 + 1, j280_8, j280_9, j280_10, j280_11, j280_12, j280_13)) := by have h9 := hD; rw [ws_7] at h9; exact h9
          exact J317 j280_0 j280_1 j280_2 j280_3 j280_4 w j280_6 (j280_7 + 1) j280_8 j280_9 j280_10 j280_11 j280_12 j280_13 _ _ _ (hc.trans ((if_neg c_4).trans ((if_neg c_13).trans (if_neg c_14)))) hP hD hS (lv_sub hl [0, 1, 2, 3] rfl)
  have J174 : ∀ (j174_0 : Int32) (j174_1 : Int32) (j174_2 : Int32) (j174_3 : Int32) (j174_4 : Int32) (j174_5 : Int32) (j174_6 : Int32) (j174_7 : Int32) (j174_8 : Int32) (j174_9 : Int64) (j174_10 : Int32) (j174_11 : Int32) (j174_12 : Int32) (j174_13 : Int32) (H : Heap) (locs : List Loc) (ls : Array Slot), f_M_happens (a0, a1, a2, a3, a4, a5, a6, a7, a8, a9, a10, a11, a12, a13) k w = f_M_happens_j174 (j174_0, j174_1, j174_2, j174_3, j174_4, j174_5, j174_6, j174_7, j174_8, j174_9, j174_10, j174_11, j174_12, j174_13) k w → va_P D cls_ (wM h0 qq cc ff fl n.toNatClampNeg c0 nn lt (j174_0, j174_1, j174_2, j174_3, j174_4, j174_5, j174_6, j174_7, j174_8, j174_9, j174_10, j174_11, j174_12, j174_13)) H → va_D A (wM h0 qq cc ff fl n.toNatClampNeg c0 nn lt (j174_0, j174_1, j174_2, j174_3, j174_4, j174_5, j174_6, j174_7, j174_8, j174_9, j174_10, j174_11, j174_12, j174_13)) → va_S A s.heap H locs → lv_has ls 5 [(0, .ref h0), (1, .int n), (2, .int k), (3, .int w)] → W p l e (headSpec (cw_M_happens :: BIG) (rmk 2 0 0)).room s m ([.ref h0, .int n, .int k, .int w].toArray) below meth c H locs 0 0 (MQ below (va_Qv (fun u2 : MN => u2 = f_M_happens (a0, a1, a2, a3, a4, a5, a6, a7, a8, a9, a10, a11, a12, a13) k w) (fun (u2 : MN) (t : State) => va_P D cls_ (wM h0 qq cc ff fl n.toNatClampNeg c0 nn lt u2) t.heap) A) ([.ref h0, .int n, .int k, .int w].toArray) s 0 0 A) (F0 m 174 ls []) := by
    intro j174_0 j174_1 j174_2 j174_3 j174_4 j174_5 j174_6 j174_7 j174_8 j174_9 j174_10 j174_11 j174_12 j174_13 H locs ls hc hP hD hS hl
    refine lv_iload_n hx hb d_M_happens_174 rfl (lv_at hl 2 rfl) ?_
    refine lv_if_eq (tgt := 187) hx hb d_M_happens_175 (by decide) (fun c_2 => ?_) (fun c_2 => ?_)
    · refine lv_aload_n hx hb d_M_happens_187 rfl (lv_at hl 0 rfl) ?_
      refine va_get (D := D) (ci := 2) (v := .ref (qq 3)) (C := R_M) (T := F_M) (N := 17) hx hb htB uw_M hown hK hP 0 rfl rfl 5 (by decide) (htB _ fl_M_20) (fun _ h9 => h9) rfl d_M_happens_188 ?_
      refine lv_iload_n hx hb d_M_happens_191 rfl (lv_at hl 1 rfl) ?_
      refine lv_iconst (v := 0) hx hb d_M_happens_192 (by decide) ?_
      refine va_iast hx hb hK hP hD hS 4 3 rfl rfl hin d_M_happens_193 (fun H locs hP hD hS => ?_)
      have hP : va_P D cls_ (wM h0 qq cc ff fl n.toNatClampNeg c0 nn lt (j174_0, j174_1, j174_2, 0, j174_4, j174_5, j174_6, j174_7, j174_8, j174_9, j174_10, j174_11, j174_12, j174_13)) H := by have h9 := hP; rw [ws_3] at h9; exact h9
      have hD : va_D A (wM h0 qq cc ff fl n.toNatClampNeg c0 nn lt (j174_0, j174_1, j174_2, 0, j174_4, j174_5, j174_6, j174_7, j174_8, j174_9, j174_10, j174_11, j174_12, j174_13)) := by have h9 := hD; rw [ws_3] at h9; exact h9
      refine lv_goto (tgt := 280) hx hb d_M_happens_194 (by decide) ?_
      exact J280 j174_0 j174_1 j174_2 0 j174_4 j174_5 j174_6 j174_7 j174_8 j174_9 j174_10 j174_11 j174_12 j174_13 _ _ _ (hc.trans (if_pos c_2)) hP hD hS (lv_sub hl [0, 1, 2, 3] rfl)
    · refine lv_aload_n hx hb d_M_happens_178 rfl (lv_at hl 0 rfl) ?_
      refine va_get (D := D) (ci := 2) (v := .ref (qq 8)) (C := R_M) (T := F_M) (N := 17) hx hb htB uw_M hown hK hP 0 rfl rfl 10 (by decide) (htB _ fl_M_35) (fun _ h9 => h9) rfl d_M_happens_179 ?_
      refine lv_iload_n hx hb d_M_happens_182 rfl (lv_at hl 1 rfl) ?_
      refine va_zald hx hb hK hP 9 8 rfl rfl hin d_M_happens_183 ?_
      refine tpi j174_8 pk_us ?_
      refine lv_if_eq (tgt := 197) hx hb d_M_happens_184 (by decide) (fun c_15 => ?_) (fun c_15 => ?_)
      · refine lv_iload_n hx hb d_M_happens_197 rfl (lv_at hl 2 rfl) ?_
        refine vp_callSi (va_Run.run (va_runS (As := [.int k]) (rest := []) ⟨hx, hb, hml, hown, htB⟩ (c_M_error l k) (cwS 1 htB g_M_71 rfl rfl rfl (by decide +kernel) ⟨Nat.le_of_ble_eq_true rfl, Nat.le_of_ble_eq_true rfl⟩) (preN hN) rfl rfl hl.1 rfl (lv_room (Nat.le_of_ble_eq_true rfl)) d_M_happens_198 ⟨Nat.le_of_ble_eq_true rfl, Nat.le_of_ble_eq_true rfl⟩)) (fun r_16 hr_16 => ?_)
        subst hr_16
        refine lv_if_eq (tgt := 215) hx hb d_M_happens_201 (by decide) (fun c_17 => ?_) (fun c_17 => ?_)
        · refine lv_aload_n hx hb d_M_happens_215 rfl (lv_at hl 0 rfl) ?_
          refine va_get (D := D) (ci := 2) (v := .ref (qq 3)) (C := R_M) (T := F_M) (N := 17) hx hb htB uw_M hown hK hP 0 rfl rfl 5 (by decide) (htB _ fl_M_20) (fun _ h9 => h9) rfl d_M_happens_216 ?_
          refine lv_iload_n hx hb d_M_happens_219 rfl (lv_at hl 1 rfl) ?_
          refine va_iald hx hb hK hP 4 3 rfl rfl hin d_M_happens_220 ?_
          refine tpi j174_3 pk_us ?_
          refine lv_if_le (tgt := 280) hx hb d_M_happens_221 (by decide) (fun c_18 => ?_) (fun c_18 => ?_)
          · exact J280 j174_0 j174_1 j174_2 j174_3 j174_4 j174_5 j174_6 j174_7 j174_8 j174_9 j174_10 j174_11 j174_12 j174_13 _ _ _ (hc.trans ((if_neg c_2).trans ((if_pos c_15).trans ((if_pos c_17).trans (if_pos c_18))))) hP hD hS (lv_sub hl [0, 1, 2, 3] rfl)
          · refine lv_aload_n hx hb d_M_happens_224 rfl (lv_at hl 0 rfl) ?_
            refine va_get (D := D) (ci := 2) (v := .ref (qq 3)) (C := R_M) (T := F_M) (N := 17) hx hb htB uw_M hown hK hP 0 rfl rfl 5 (by decide) (htB _ fl_M_20) (fun _ h9 => h9) rfl d_M_happens_225 ?_
            refine lv_iload_n hx hb d_M_happens_228 rfl (lv_at hl 1 rfl) ?_
            refine lv_aload_n hx hb d_M_happens_229 rfl (lv_at hl 0 rfl) ?_
            refine va_get (D := D) (ci := 2) (v := .ref (qq 3)) (C := R_M) (T := F_M) (N := 17) hx hb htB uw_M hown hK hP 0 rfl rfl 5 (by decide) (htB _ fl_M_20) (fun _ h9 => h9) rfl d_M_happens_230 ?_
            refine lv_iload_n hx hb d_M_happens_233 rfl (lv_at hl 1 rfl) ?_
            refine va_iald hx hb hK hP 4 3 rfl rfl hin d_M_happens_234 ?_
            refine tpi j174_3 pk_us ?_
            refine lv_iload_n hx hb d_M_happens_235 rfl (lv_at hl 2 rfl) ?_
            refine lv_bipush (v := 8) hx hb d_M_happens_236 (by decide) ?_
            refine lv_icmp_ne (tgt := 246) hx hb d_M_happens_238 (by decide) (fun c_19 => ?_) (fun c_19 => ?_)
            · refine lv_iconst (v := 1) hx hb d_M_happens_246 (by decide) ?_
              refine lv_iadd hx hb d_M_happens_247 ?_
              refine lv_sipush (v := 10000) hx hb d_M_happens_248 (by decide) ?_
              refine lv_icmp_le (tgt := 260) hx hb d_M_happens_251 (by decide) (fun c_20 => ?_) (fun c_20 => ?_)
              · refine lv_aload_n hx hb d_M_happens_260 rfl (lv_at hl 0 rfl) ?_
                refine va_get (D := D) (ci := 2) (v := .ref (qq 3)) (C := R_M) (T := F_M) (N := 17) hx hb htB uw_M hown hK hP 0 rfl rfl 5 (by decide) (htB _ fl_M_20) (fun _ h9 => h9) rfl d_M_happens_261 ?_
                refine lv_iload_n hx hb d_M_happens_264 rfl (lv_at hl 1 rfl) ?_
                refine va_iald hx hb hK hP 4 3 rfl rfl hin d_M_happens_265 ?_
                refine tpi j174_3 pk_us ?_
                refine lv_iload_n hx hb d_M_happens_266 rfl (lv_at hl 2 rfl) ?_
                refine lv_bipush (v := 8) hx hb d_M_happens_267 (by decide) ?_
                refine lv_icmp_ne (tgt := 277) hx hb d_M_happens_269 (by decide) (fun c_21 => ?_) (fun c_21 => ?_)
                · refine lv_iconst (v := 1) hx hb d_M_happens_277 (by decide) ?_
                  refine lv_iadd hx hb d_M_happens_278 ?_
                  refine va_iast hx hb hK hP hD hS 4 3 rfl rfl hin d_M_happens_279 (fun H locs hP hD hS => ?_)
                  have hP : va_P D cls_ (wM h0 qq cc ff fl n.toNatClampNeg c0 nn lt (j174_0, j174_1, j174_2, j174_3 + 1, j174_4, j174_5, j174_6, j174_7, j174_8, j174_9, j174_10, j174_11, j174_12, j174_13)) H := by have h9 := hP; rw [ws_3] at h9; exact h9
                  have hD : va_D A (wM h0 qq cc ff fl n.toNatClampNeg c0 nn lt (j174_0, j174_1, j174_2, j174_3 + 1, j174_4, j174_5, j174_6, j174_7, j174_8, j174_9, j174_10, j174_11, j174_12, j174_13)) := by have h9 := hD; rw [ws_3] at h9; exact h9
                  exact J280 j174_0 j174_1 j174_2 (j174_3 + 1) j174_4 j174_5 j174_6 j174_7 j174_8 j174_9 j174_10 j174_11 j174_12 j174_13 _ _ _ (hc.trans ((if_neg c_2).trans ((if_pos c_15).trans ((if_pos c_17).trans ((if_neg c_18).trans ((if_neg c_19).trans ((if_pos c_20).trans (if_neg c_21)))))))) hP hD hS (lv_sub hl [0, 1, 2, 3] rfl)
                · refine lv_bipush (v := 8) hx hb d_M_happens_272 (by decide) ?_
                  refine lv_goto (tgt := 278) hx hb d_M_happens_274 (by decide) ?_
                  refine lv_iadd hx hb d_M_happens_278 ?_
                  refine va_iast hx hb hK hP hD hS 4 3 rfl rfl hin d_M_happens_279 (fun H locs hP hD hS => ?_)
                  have hP : va_P D cls_ (wM h0 qq cc ff fl n.toNatClampNeg c0 nn lt (j174_0, j174_1, j174_2, j174_3 + 8, j174_4, j174_5, j174_6, j174_7, j174_8, j174_9, j174_10, j174_11, j174_12, j174_13)) H := by have h9 := hP; rw [ws_3] at h9; exact h9
                  have hD : va_D A (wM h0 qq cc ff fl n.toNatClampNeg c0 nn lt (j174_0, j174_1, j174_2, j174_3 + 8, j174_4, j174_5, j174_6, j174_7, j174_8, j174_9, j174_10, j174_11, j174_12, j174_13)) := by have h9 := hD; rw [ws_3] at h9; exact h9
                  exact J280 j174_0 j174_1 j174_2 (j174_3 + 8) j174_4 j174_5 j174_6 j174_7 j174_8 j174_9 j174_10 j174_11 j174_12 j174_13 _ _ _ (hc.trans ((if_neg c_2).trans ((if_pos c_15).trans ((if_pos c_17).trans ((if_neg c_18).trans ((if_neg c_19).trans ((if_pos c_20).trans (if_pos c_21)))))))) hP hD hS (lv_sub hl [0, 1, 2, 3] rfl)
              · refine lv_sipush (v := 10000) hx hb d_M_happens_254 (by decide) ?_
                refine lv_goto (tgt := 279) hx hb d_M_happens_257 (by decide) ?_
                refine va_iast hx hb hK hP hD hS 4 3 rfl rfl hin d_M_happens_279 (fun H locs hP hD hS => ?_)
                have hP : va_P D cls_ (wM h0 qq cc ff fl n.toNatClampNeg c0 nn lt (j174_0, j174_1, j174_2, 10000, j174_4, j174_5, j174_6, j174_7, j174_8, j174_9, j174_10, j174_11, j174_12, j174_13)) H := by have h9 := hP; rw [ws_3] at h9; exact h9
                have hD : va_D A (wM h0 qq cc ff fl n.toNatClampNeg c0 nn lt (j174_0, j174_1, j174_2, 10000, j174_4, j174_5, j174_6, j174_7, j174_8, j174_9, j174_10, j174_11, j174_12, j174_13)) := by have h9 := hD; rw [ws_3] at h9; exact h9
                exact J280 j174_0 j174_1 j174_2 10000 j174_4 j174_5 j174_6 j174_7 j174_8 j174_9 j174_10 j174_11 j174_12 j174_13 _ _ _ (hc.trans ((if_neg c_2).trans ((if_pos c_15).trans ((if_pos c_17).trans ((if_neg c_18).trans ((if_neg c_19).trans (if_neg c_20))))))) hP hD hS (lv_sub hl [0, 1, 2, 3] rfl)
            · refine lv_bipush (v := 8) hx hb d_M_happens_241 (by decide) ?_
              refine lv_goto (tgt := 247) hx hb d_M_happens_243 (by decide) ?_
              refine lv_iadd hx hb d_M_happens_247 ?_
              refine lv_sipush (v := 10000) hx hb d_M_happens_248 (by decide) ?_
              refine lv_icmp_le (tgt := 260) hx hb d_M_happens_251 (by decide) (fun c_22 => ?_) (fun c_22 => ?_)
              · refine lv_aload_n hx hb d_M_happens_260 rfl (lv_at hl 0 rfl) ?_
                refine va_get (D := D) (ci := 2) (v := .ref (qq 3)) (C := R_M) (T := F_M) (N := 17) hx hb htB uw_M hown hK hP 0 rfl rfl 5 (by decide) (htB _ fl_M_20) (fun _ h9 => h9) rfl d_M_happens_261 ?_
                refine lv_iload_n hx hb d_M_happens_264 rfl (lv_at hl 1 rfl) ?_
                refine va_iald hx hb hK hP 4 3 rfl rfl hin d_M_happens_265 ?_
                refine tpi j174_3 pk_us ?_
                refine lv_iload_n hx hb d_M_happens_266 rfl (lv_at hl 2 rfl) ?_
                refine lv_bipush (v := 8) hx hb d_M_happens_267 (by decide) ?_
                refine lv_icmp_ne (tgt := 277) hx hb d_M_happens_269 (by decide) (fun c_23 => ?_) (fun c_23 => ?_)
                · refine lv_iconst (v := 1) hx hb d_M_happens_277 (by decide) ?_
                  refine lv_iadd hx hb d_M_happens_278 ?_
                  refine va_iast hx hb hK hP hD hS 4 3 rfl rfl hin d_M_happens_279 (fun H locs hP hD hS => ?_)
                  have hP : va_P D cls_ (wM h0 qq cc ff fl n.toNatClampNeg c0 nn lt (j174_0, j174_1, j174_2, j174_3 + 1, j174_4, j174_5, j174_6, j174_7, j174_8, j174_9, j174_10, j174_11, j174_12, j174_13)) H := by have h9 := hP; rw [ws_3] at h9; exact h9
                  have hD : va_D A (wM h0 qq cc ff fl n.toNatClampNeg c0 nn lt (j174_0, j174_1, j174_2, j174_3 + 1, j174_4, j174_5, j174_6, j174_7, j174_8, j174_9, j174_10, j174_11, j174_12, j174_13)) := by have h9 := hD; rw [ws_3] at h9; exact h9
                  exact J280 j174_0 j174_1 j174_2 (j174_3 + 1) j174_4 j174_5 j174_6 j174_7 j174_8 j174_9 j174_10 j174_11 j174_12 j174_13 _ _ _ (hc.trans ((if_neg c_2).trans ((if_pos c_15).trans ((if_pos c_17).trans ((if_neg c_18).trans ((if_pos c_19).trans ((if_pos c_22).trans (if_neg c_23)))))))) hP hD hS (lv_sub hl [0, 1, 2, 3] rfl)
                · refine lv_bipush (v := 8) hx hb d_M_happens_272 (by decide) ?_
                  refine lv_goto (tgt := 278) hx hb d_M_happens_274 (by decide) ?_
                  refine lv_iadd hx hb d_M_happens_278 ?_
                  refine va_iast hx hb hK hP hD hS 4 3 rfl rfl hin d_M_happens_279 (fun H locs hP hD hS => ?_)
                  have hP : va_P D cls_ (wM h0 qq cc ff fl n.toNatClampNeg c0 nn lt (j174_0, j174_1, j174_2, j174_3 + 8, j174_4, j174_5, j174_6, j174_7, j174_8, j174_9, j174_10, j174_11, j174_12, j174_13)) H := by have h9 := hP; rw [ws_3] at h9; exact h9
                  have hD : va_D A (wM h0 qq cc ff fl n.toNatClampNeg c0 nn lt (j174_0, j174_1, j174_2, j174_3 + 8, j174_4, j174_5, j174_6, j174_7, j174_8, j174_9, j174_10, j174_11, j174_12, j174_13)) := by have h9 := hD; rw [ws_3] at h9; exact h9
                  exact J280 j174_0 j174_1 j174_2 (j174_3 + 8) j174_4 j174_5 j174_6 j174_7 j174_8 j174_9 j174_10 j174_11 j174_12 j174_13 _ _ _ (hc.trans ((if_neg c_2).trans ((if_pos c_15).trans ((if_pos c_17).trans ((if_neg c_18).trans ((if_pos c_19).trans ((if_pos c_22).trans (if_pos c_23)))))))) hP hD hS (lv_sub hl [0, 1, 2, 3] rfl)
              · refine lv_sipush (v := 10000) hx hb d_M_happens_254 (by decide) ?_
                refine lv_goto (tgt := 279) hx hb d_M_happens_257 (by decide) ?_
                refine va_iast hx hb hK hP hD hS 4 3 rfl rfl hin d_M_happens_279 (fun H locs hP hD hS => ?_)
                have hP : va_P D cls_ (wM h0 qq cc ff fl n.toNatClampNeg c0 nn lt (j174_0, j174_1, j174_2, 10000, j174_4, j174_5, j174_6, j174_7, j174_8, j174_9, j174_10, j174_11, j174_12, j174_13)) H := by have h9 := hP; rw [ws_3] at h9; exact h9
                have hD : va_D A (wM h0 qq cc ff fl n.toNatClampNeg c0 nn lt (j174_0, j174_1, j174_2, 10000, j174_4, j174_5, j174_6, j174_7, j174_8, j174_9, j174_10, j174_11, j174_12, j174_13)) := by have h9 := hD; rw [ws_3] at h9; exact h9
                exact J280 j174_0 j174_1 j174_2 10000 j174_4 j174_5 j174_6 j174_7 j174_8 j174_9 j174_10 j174_11 j174_12 j174_13 _ _ _ (hc.trans ((if_neg c_2).trans ((if_pos c_15).trans ((if_pos c_17).trans ((if_neg c_18).trans ((if_pos c_19).trans (if_neg c_22))))))) hP hD hS (lv_sub hl [0, 1, 2, 3] rfl)
        · refine lv_aload_n hx hb d_M_happens_204 rfl (lv_at hl 0 rfl) ?_
          refine va_get (D := D) (ci := 2) (v := .ref (qq 3)) (C := R_M) (T := F_M) (N := 17) hx hb htB uw_M hown hK hP 0 rfl rfl 5 (by decide) (htB _ fl_M_20) (fun _ h9 => h9) rfl d_M_happens_205 ?_
          refine lv_iload_n hx hb d_M_happens_208 rfl (lv_at hl 1 rfl) ?_
          refine lv_bipush (v := 6) hx hb d_M_happens_209 (by decide) ?_
          refine va_iast hx hb hK hP hD hS 4 3 rfl rfl hin d_M_happens_211 (fun H locs hP hD hS => ?_)
          have hP : va_P D cls_ (wM h0 qq cc ff fl n.toNatClampNeg c0 nn lt (j174_0, j174_1, j174_2, 6, j174_4, j174_5, j174_6, j174_7, j174_8, j174_9, j174_10, j174_11, j174_12, j174_13)) H := by have h9 := hP; rw [ws_3] at h9; exact h9
          have hD : va_D A (wM h0 qq cc ff fl n.toNatClampNeg c0 nn lt (j174_0, j174_1, j174_2, 6, j174_4, j174_5, j174_6, j174_7, j174_8, j174_9, j174_10, j174_11, j174_12, j174_13)) := by have h9 := hD; rw [ws_3] at h9; exact h9
          refine lv_goto (tgt := 280) hx hb d_M_happens_212 (by decide) ?_
          exact J280 j174_0 j174_1 j174_2 6 j174_4 j174_5 j174_6 j174_7 j174_8 j174_9 j174_10 j174_11 j174_12 j174_13 _ _ _ (hc.trans ((if_neg c_2).trans ((if_pos c_15).trans (if_neg c_17)))) hP hD hS (lv_sub hl [0, 1, 2, 3] rfl)
      · refine lv_aload_n hx hb d_M_happens_187 rfl (lv_at hl 0 rfl) ?_
        refine va_get (D := D) (ci := 2) (v := .ref (qq 3)) (C := R_M) (T := F_M) (N := 17) hx hb htB uw_M hown hK hP 0 rfl rfl 5 (by decide) (htB _ fl_M_20) (fun _ h9 => h9) rfl d_M_happens_188 ?_
        refine lv_iload_n hx hb d_M_happens_191 rfl (lv_at hl 1 rfl) ?_
        refine lv_iconst (v := 0) hx hb d_M_happens_192 (by decide) ?_
        refine va_iast hx hb hK hP hD hS 4 3 rfl rfl hin d_M_happens_193 (fun H locs hP hD hS => ?_)
        have hP : va_P D cls_ (wM h0 qq cc ff fl n.toNatClampNeg c0 nn lt (j174_0, j174_1, j174_2, 0, j174_4, j174_5, j174_6, j174_7, j174_8, j174_9, j174_10, j174_11, j174_12, j174_13)) H := by have h9 := hP; rw [ws_3] at h9; exact h9
        have hD : va_D A (wM h0 qq cc ff fl n.toNatClampNeg c0 nn lt (j174_0, j174_1, j174_2, 0, j174_4, j174_5, j174_6, j174_7, j174_8, j174_9, j174_10, j174_11, j174_12, j174_13)) := by have h9 := hD; rw [ws_3] at h9; exact h9
        refine lv_goto (tgt := 280) hx hb d_M_happens_194 (by decide) ?_
        exact J280 j174_0 j174_1 j174_2 0 j174_4 j174_5 j174_6 j174_7 j174_8 j174_9 j174_10 j174_11 j174_12 j174_13 _ _ _ (hc.trans ((if_neg c_2).trans (if_neg c_15))) hP hD hS (lv_sub hl [0, 1, 2, 3] rfl)
  refine lv_aload_n hx hb d_M_happens_0 rfl (lv_at hl 0 rfl) ?_
  refine va_get (D := D) (ci := 2) (v := .ref (qq 8)) (C := R_M) (T := F_M) (N := 17) hx hb htB uw_M hown hK hP 0 rfl rfl 10 (by decide) (htB _ fl_M_35) (fun _ h9 => h9) rfl d_M_happens_1 ?_
  refine lv_iload_n hx hb d_M_happens_4 rfl (lv_at hl 1 rfl) ?_
  refine va_zald hx hb hK hP 9 8 rfl rfl hin d_M_happens_5 ?_
  refine tpi a8 pk_us ?_
  refine lv_if_ne (tgt := 174) hx hb d_M_happens_6 (by decide) (fun c_1 => ?_) (fun c_1 => ?_)
  · exact J174 a0 a1 a2 a3 a4 a5 a6 a7 a8 a9 a10 a11 a12 a13 _ _ _ (hc.trans (if_neg c_1)) hP hD hS (lv_sub hl [0, 1, 2, 3] rfl)
  · refine lv_iload_n hx hb d_M_happens_9 rfl (lv_at hl 3 rfl) ?_
    refine lv_if_eq (tgt := 79) hx hb d_M_happens_10 (by decide) (fun c_24 => ?_) (fun c_24 => ?_)
    · refine lv_iload_n hx hb d_M_happens_79 rfl (lv_at hl 2 rfl) ?_
      refine lv_if_ne (tgt := 98) hx hb d_M_happens_80 (by decide) (fun c_25 => ?_) (fun c_25 => ?_)
      · refine lv_iconst (v := 0) hx hb d_M_happens_98 (by decide) ?_
        refine lv_istore (lv' := [(4, .int 0), (0, .ref h0), (1, .int n), (2, .int k), (3, .int w)]) hx hb d_M_happens_99 hl (by decide) rfl (fun ls hl => ?_)
        refine lv_aload_n hx hb d_M_happens_101 rfl (lv_at hl 1 rfl) ?_
        refine va_get (D := D) (ci := 2) (v := .ref (qq 1)) (C := R_M) (T := F_M) (N := 17) hx hb htB uw_M hown hK hP 0 rfl rfl 3 (by decide) (htB _ fl_M_13) (fun _ h9 => h9) rfl d_M_happens_102 ?_
        refine lv_iload_n hx hb d_M_happens_105 rfl (lv_at hl 2 rfl) ?_
        refine lv_iload hx hb d_M_happens_106 (lv_at hl 0 rfl) ?_
        refine lv_if_eq (tgt := 116) hx hb d_M_happens_108 (by decide) (fun _ => ?_) (fun c9 => absurd (by decide) c9)
        refine lv_aload_n hx hb d_M_happens_116 rfl (lv_at hl 1 rfl) ?_
        refine va_get (D := D) (ci := 2) (v := .ref (qq 1)) (C := R_M) (T := F_M) (N := 17) hx hb htB uw_M hown hK hP 0 rfl rfl 3 (by decide) (htB _ fl_M_13) (fun _ h9 => h9) rfl d_M_happens_117 ?_
        refine lv_iload_n hx hb d_M_happens_120 rfl (lv_at hl 2 rfl) ?_
        refine va_iald hx hb hK hP 2 1 rfl rfl hin d_M_happens_121 ?_
        refine tpi a1 pk_us ?_
        refine lv_aload_n hx hb d_M_happens_122 rfl (lv_at hl 1 rfl) ?_
        refine lv_iload_n hx hb d_M_happens_123 rfl (lv_at hl 2 rfl) ?_
        refine lv_iload_n hx hb d_M_happens_124 rfl (lv_at hl 3 rfl) ?_
        refine lv_iconst (v := 0) hx hb d_M_happens_125 (by decide) ?_
        refine vp_callSi (va_Run.run (va_runV (As := [.int n, .int k, .int 0]) (rest := [.int a1, .int n, .ref (qq 1)]) ⟨hx, hb, hml, hown, htB⟩ (c_M_more l D h0 qq cc ff fl c0 nn lt n hin (a0, a1, a2, a3, a4, a5, a6, a7, a8, a9, a10, a11, a12, a13) k 0) (cwV 3 htB g_M_67 rfl rfl rfl (by decide +kernel) ⟨Nat.le_of_ble_eq_true rfl, Nat.le_of_ble_eq_true rfl⟩) (preV hP hK hN (va_recv hK hP (ci := 2) (q0 := 0) rfl rfl)) rfl rfl hl.1 rfl (lv_room (Nat.le_of_ble_eq_true rfl)) d_M_happens_126 ⟨Nat.le_of_ble_eq_true rfl, Nat.le_of_ble_eq_true rfl⟩)) (fun r_26 hr_26 => ?_)
        subst hr_26
        refine lv_iadd hx hb d_M_happens_129 ?_
        refine va_iast hx hb hK hP hD hS 2 1 rfl rfl hin d_M_happens_130 (fun H locs hP hD hS => ?_)
        have hP : va_P D cls_ (wM h0 qq cc ff fl n.toNatClampNeg c0 nn lt (a0, a1 + (f_M_more (a0, a1, a2, a3, a4, a5, a6, a7, a8, a9, a10, a11, a12, a13) k 0), a2, a3, a4, a5, a6, a7, a8, a9, a10, a11, a12, a13)) H := by have h9 := hP; rw [ws_1] at h9; exact h9
        have hD : va_D A (wM h0 qq cc ff fl n.toNatClampNeg c0 nn lt (a0, a1 + (f_M_more (a0, a1, a2, a3, a4, a5, a6, a7, a8, a9, a10, a11, a12, a13) k 0), a2, a3, a4, a5, a6, a7, a8, a9, a10, a11, a12, a13)) := by have h9 := hD; rw [ws_1] at h9; exact h9
        refine lv_aload_n hx hb d_M_happens_131 rfl (lv_at hl 1 rfl) ?_
        refine va_get (D := D) (ci := 2) (v := .ref (qq 1)) (C := R_M) (T := F_M) (N := 17) hx hb htB uw_M hown hK hP 0 rfl rfl 3 (by decide) (htB _ fl_M_13) (fun _ h9 => h9) rfl d_M_happens_132 ?_
        refine lv_iload_n hx hb d_M_happens_135 rfl (lv_at hl 2 rfl) ?_
        refine lv_aload_n hx hb d_M_happens_136 rfl (lv_at hl 1 rfl) ?_
        refine va_get (D := D) (ci := 2) (v := .ref (qq 1)) (C := R_M) (T := F_M) (N := 17) hx hb htB uw_M hown hK hP 0 rfl rfl 3 (by decide) (htB _ fl_M_13) (fun _ h9 => h9) rfl d_M_happens_137 ?_
        refine lv_iload_n hx hb d_M_happens_140 rfl (lv_at hl 2 rfl) ?_
        refine va_iald hx hb hK hP 2 1 rfl rfl hin d_M_happens_141 ?_
        refine tpi (a1 + (f_M_more (a0, a1, a2, a3, a4, a5, a6, a7, a8, a9, a10, a11, a12, a13) k 0)) pk_us ?_
        refine lv_if_ge (tgt := 149) hx hb d_M_happens_142 (by decide) (fun c_27 => ?_) (fun c_27 => ?_)
        · refine lv_aload_n hx hb d_M_happens_149 rfl (lv_at hl 1 rfl) ?_
          refine va_get (D := D) (ci := 2) (v := .ref (qq 1)) (C := R_M) (T := F_M) (N := 17) hx hb htB uw_M hown hK hP 0 rfl rfl 3 (by decide) (htB _ fl_M_13) (fun _ h9 => h9) rfl d_M_happens_150 ?_
          refine lv_iload_n hx hb d_M_happens_153 rfl (lv_at hl 2 rfl) ?_
          refine va_iald hx hb hK hP 2 1 rfl rfl hin d_M_happens_154 ?_
          refine tpi (a1 + (f_M_more (a0, a1, a2, a3, a4, a5, a6, a7, a8, a9, a10, a11, a12, a13) k 0)) pk_us ?_
          refine lv_sipush (v := 255) hx hb d_M_happens_155 (by decide) ?_
          refine lv_icmp_le (tgt := 167) hx hb d_M_happens_158 (by decide) (fun c_28 => ?_) (fun c_28 => ?_)
          · refine lv_aload_n hx hb d_M_happens_167 rfl (lv_at hl 1 rfl) ?_
            refine va_get (D := D) (ci := 2) (v := .ref (qq 1)) (C := R_M) (T := F_M) (N := 17) hx hb htB uw_M hown hK hP 0 rfl rfl 3 (by decide) (htB _ fl_M_13) (fun _ h9 => h9) rfl d_M_happens_168 ?_
            refine lv_iload_n hx hb d_M_happens_171 rfl (lv_at hl 2 rfl) ?_
            refine va_iald hx hb hK hP 2 1 rfl rfl hin d_M_happens_172 ?_
            refine tpi (a1 + (f_M_more (a0, a1, a2, a3, a4, a5, a6, a7, a8, a9, a10, a11, a12, a13) k 0)) pk_us ?_
            refine va_iast hx hb hK hP hD hS 2 1 rfl rfl hin d_M_happens_173 (fun H locs hP hD hS => ?_)
            have hP : va_P D cls_ (wM h0 qq cc ff fl n.toNatClampNeg c0 nn lt (a0, a1 + (f_M_more (a0, a1, a2, a3, a4, a5, a6, a7, a8, a9, a10, a11, a12, a13) k 0), a2, a3, a4, a5, a6, a7, a8, a9, a10, a11, a12, a13)) H := by have h9 := hP; rw [ws_1] at h9; exact h9
            have hD : va_D A (wM h0 qq cc ff fl n.toNatClampNeg c0 nn lt (a0, a1 + (f_M_more (a0, a1, a2, a3, a4, a5, a6, a7, a8, a9, a10, a11, a12, a13) k 0), a2, a3, a4, a5, a6, a7, a8, a9, a10, a11, a12, a13)) := by have h9 := hD; rw [ws_1] at h9; exact h9
            exact J174 a0 (a1 + (f_M_more (a0, a1, a2, a3, a4, a5, a6, a7, a8, a9, a10, a11, a12, a13) k 0)) a2 a3 a4 a5 a6 a7 a8 a9 a10 a11 a12 a13 _ _ _ (hc.trans ((if_pos c_1).trans ((if_pos c_24).trans ((if_neg c_25).trans ((if_pos c_27).trans (if_pos c_28)))))) hP hD hS (lv_sub hl [1, 2, 3, 4] rfl)
          · refine lv_sipush (v := 255) hx hb d_M_happens_161 (by decide) ?_
            refine lv_goto (tgt := 173) hx hb d_M_happens_164 (by decide) ?_
            refine va_iast hx hb hK hP hD hS 2 1 rfl rfl hin d_M_happens_173 (fun H locs hP hD hS => ?_)
            have hP : va_P D cls_ (wM h0 qq cc ff fl n.toNatClampNeg c0 nn lt (a0, 255, a2, a3, a4, a5, a6, a7, a8, a9, a10, a11, a12, a13)) H := by have h9 := hP; rw [ws_1] at h9; exact h9
            have hD : va_D A (wM h0 qq cc ff fl n.toNatClampNeg c0 nn lt (a0, 255, a2, a3, a4, a5, a6, a7, a8, a9, a10, a11, a12, a13)) := by have h9 := hD; rw [ws_1] at h9; exact h9
            exact J174 a0 255 a2 a3 a4 a5 a6 a7 a8 a9 a10 a11 a12 a13 _ _ _ (hc.trans ((if_pos c_1).trans ((if_pos c_24).trans ((if_neg c_25).trans ((if_pos c_27).trans (if_neg c_28)))))) hP hD hS (lv_sub hl [1, 2, 3, 4] rfl)
        · refine lv_iconst (v := 0) hx hb d_M_happens_145 (by decide) ?_
          refine lv_goto (tgt := 173) hx hb d_M_happens_146 (by decide) ?_
          refine va_iast hx hb hK hP hD hS 2 1 rfl rfl hin d_M_happens_173 (fun H locs hP hD hS => ?_)
          have hP : va_P D cls_ (wM h0 qq cc ff fl n.toNatClampNeg c0 nn lt (a0, 0, a2, a3, a4, a5, a6, a7, a8, a9, a10, a11, a12, a13)) H := by have h9 := hP; rw [ws_1] at h9; exact h9
          have hD : va_D A (wM h0 qq cc ff fl n.toNatClampNeg c0 nn lt (a0, 0, a2, a3, a4, a5, a6, a7, a8, a9, a10, a11, a12, a13)) := by have h9 := hD; rw [ws_1] at h9; exact h9
          exact J174 a0 0 a2 a3 a4 a5 a6 a7 a8 a9 a10 a11 a12 a13 _ _ _ (hc.trans ((if_pos c_1).trans ((if_pos c_24).trans ((if_neg c_25).trans (if_neg c_27))))) hP hD hS (lv_sub hl [1, 2, 3, 4] rfl)
      · refine lv_aload_n hx hb d_M_happens_83 rfl (lv_at hl 0 rfl) ?_
        refine va_get (D := D) (ci := 2) (v := .ref (qq 1)) (C := R_M) (T := F_M) (N := 17) hx hb htB uw_M hown hK hP 0 rfl rfl 3 (by decide) (htB _ fl_M_13) (fun _ h9 => h9) rfl d_M_happens_84 ?_
        refine lv_iload_n hx hb d_M_happens_87 rfl (lv_at hl 1 rfl) ?_
        refine va_iald hx hb hK hP 2 1 rfl rfl hin d_M_happens_88 ?_
        refine tpi a1 pk_us ?_
        refine lv_bipush (v := 127) hx hb d_M_happens_89 (by decide) ?_
        refine lv_icmp_le (tgt := 98) hx hb d_M_happens_91 (by decide) (fun c_29 => ?_) (fun c_29 => ?_)
        · refine lv_iconst (v := 0) hx hb d_M_happens_98 (by decide) ?_
          refine lv_istore (lv' := [(4, .int 0), (0, .ref h0), (1, .int n), (2, .int k), (3, .int w)]) hx hb d_M_happens_99 hl (by decide) rfl (fun ls hl => ?_)
          refine lv_aload_n hx hb d_M_happens_101 rfl (lv_at hl 1 rfl) ?_
          refine va_get (D := D) (ci := 2) (v := .ref (qq 1)) (C := R_M) (T := F_M) (N := 17) hx hb htB uw_M hown hK hP 0 rfl rfl 3 (by decide) (htB _ fl_M_13) (fun _ h9 => h9) rfl d_M_happens_102 ?_
          refine lv_iload_n hx hb d_M_happens_105 rfl (lv_at hl 2 rfl) ?_
          refine lv_iload hx hb d_M_happens_106 (lv_at hl 0 rfl) ?_
          refine lv_if_eq (tgt := 116) hx hb d_M_happens_108 (by decide) (fun _ => ?_) (fun c9 => absurd (by decide) c9)
          refine lv_aload_n hx hb d_M_happens_116 rfl (lv_at hl 1 rfl) ?_
          refine va_get (D := D) (ci := 2) (v := .ref (qq 1)) (C := R_M) (T := F_M) (N := 17) hx hb htB uw_M hown hK hP 0 rfl rfl 3 (by decide) (htB _ fl_M_13) (fun _ h9 => h9) rfl d_M_happens_117 ?_
          refine lv_iload_n hx hb d_M_happens_120 rfl (lv_at hl 2 rfl) ?_
          refine va_iald hx hb hK hP 2 1 rfl rfl hin d_M_happens_121 ?_
          refine tpi a1 pk_us ?_
          refine lv_aload_n hx hb d_M_happens_122 rfl (lv_at hl 1 rfl) ?_
          refine lv_iload_n hx hb d_M_happens_123 rfl (lv_at hl 2 rfl) ?_
          refine lv_iload_n hx hb d_M_happens_124 rfl (lv_at hl 3 rfl) ?_
          refine lv_iconst (v := 0) hx hb d_M_happens_125 (by decide) ?_
          refine vp_callSi (va_Run.run (va_runV (As := [.int n, .int k, .int 0]) (rest := [.int a1, .int n, .ref (qq 1)]) ⟨hx, hb, hml, hown, htB⟩ (c_M_more l D h0 qq cc ff fl c0 nn lt n hin (a0, a1, a2, a3, a4, a5, a6, a7, a8, a9, a10, a11, a12, a13) k 0) (cwV 3 htB g_M_67 rfl rfl rfl (by decide +kernel) ⟨Nat.le_of_ble_eq_true rfl, Nat.le_of_ble_eq_true rfl⟩) (preV hP hK hN (va_recv hK hP (ci := 2) (q0 := 0) rfl rfl)) rfl rfl hl.1 rfl (lv_room (Nat.le_of_ble_eq_true rfl)) d_M_happens_126 ⟨Nat.le_of_ble_eq_true rfl, Nat.le_of_ble_eq_true rfl⟩)) (fun r_30 hr_30 => ?_)
          subst hr_30
          refine lv_iadd hx hb d_M_happens_129 ?_
          refine va_iast hx hb hK hP hD hS 2 1 rfl rfl hin d_M_happens_130 (fun H locs hP hD hS => ?_)
          have hP : va_P D cls_ (wM h0 qq cc ff fl n.toNatClampNeg c0 nn lt (a0, a1 + (f_M_more (a0, a1, a2, a3, a4, a5, a6, a7, a8, a9, a10, a11, a12, a13) k 0), a2, a3, a4, a5, a6, a7, a8, a9, a10, a11, a12, a13)) H := by have h9 := hP; rw [ws_1] at h9; exact h9
          have hD : va_D A (wM h0 qq cc ff fl n.toNatClampNeg c0 nn lt (a0, a1 + (f_M_more (a0, a1, a2, a3, a4, a5, a6, a7, a8, a9, a10, a11, a12, a13) k 0), a2, a3, a4, a5, a6, a7, a8, a9, a10, a11, a12, a13)) := by have h9 := hD; rw [ws_1] at h9; exact h9
          refine lv_aload_n hx hb d_M_happens_131 rfl (lv_at hl 1 rfl) ?_
          refine va_get (D := D) (ci := 2) (v := .ref (qq 1)) (C := R_M) (T := F_M) (N := 17) hx hb htB uw_M hown hK hP 0 rfl rfl 3 (by decide) (htB _ fl_M_13) (fun _ h9 => h9) rfl d_M_happens_132 ?_
          refine lv_iload_n hx hb d_M_happens_135 rfl (lv_at hl 2 rfl) ?_
          refine lv_aload_n hx hb d_M_happens_136 rfl (lv_at hl 1 rfl) ?_
          refine va_get (D := D) (ci := 2) (v := .ref (qq 1)) (C := R_M) (T := F_M) (N := 17) hx hb htB uw_M hown hK hP 0 rfl rfl 3 (by decide) (htB _ fl_M_13) (fun _ h9 => h9) rfl d_M_happens_137 ?_
          refine lv_iload_n hx hb d_M_happens_140 rfl (lv_at hl 2 rfl) ?_
          refine va_iald hx hb hK hP 2 1 rfl rfl hin d_M_happens_141 ?_
          refine tpi (a1 + (f_M_more (a0, a1, a2, a3, a4, a5, a6, a7, a8, a9, a10, a11, a12, a13) k 0)) pk_us ?_
          refine lv_if_ge (tgt := 149) hx hb d_M_happens_142 (by decide) (fun c_31 => ?_) (fun c_31 => ?_)
          · refine lv_aload_n hx hb d_M_happens_149 rfl (lv_at hl 1 rfl) ?_
            refine va_get (D := D) (ci := 2) (v := .ref (qq 1)) (C := R_M) (T := F_M) (N := 17) hx hb htB uw_M hown hK hP 0 rfl rfl 3 (by decide) (htB _ fl_M_13) (fun _ h9 => h9) rfl d_M_happens_150 ?_
            refine lv_iload_n hx hb d_M_happens_153 rfl (lv_at hl 2 rfl) ?_
            refine va_iald hx hb hK hP 2 1 rfl rfl hin d_M_happens_154 ?_
            refine tpi (a1 + (f_M_more (a0, a1, a2, a3, a4, a5, a6, a7, a8, a9, a10, a11, a12, a13) k 0)) pk_us ?_
            refine lv_sipush (v := 255) hx hb d_M_happens_155 (by decide) ?_
            refine lv_icmp_le (tgt := 167) hx hb d_M_happens_158 (by decide) (fun c_32 => ?_) (fun c_32 => ?_)
            · refine lv_aload_n hx hb d_M_happens_167 rfl (lv_at hl 1 rfl) ?_
              refine va_get (D := D) (ci := 2) (v := .ref (qq 1)) (C := R_M) (T := F_M) (N := 17) hx hb htB uw_M hown hK hP 0 rfl rfl 3 (by decide) (htB _ fl_M_13) (fun _ h9 => h9) rfl d_M_happens_168 ?_
              refine lv_iload_n hx hb d_M_happens_171 rfl (lv_at hl 2 rfl) ?_
              refine va_iald hx hb hK hP 2 1 rfl rfl hin d_M_happens_172 ?_
              refine tpi (a1 + (f_M_more (a0, a1, a2, a3, a4, a5, a6, a7, a8, a9, a10, a11, a12, a13) k 0)) pk_us ?_
              refine va_iast hx hb hK hP hD hS 2 1 rfl rfl hin d_M_happens_173 (fun H locs hP hD hS => ?_)
              have hP : va_P D cls_ (wM h0 qq cc ff fl n.toNatClampNeg c0 nn lt (a0, a1 + (f_M_more (a0, a1, a2, a3, a4, a5, a6, a7, a8, a9, a10, a11, a12, a13) k 0), a2, a3, a4, a5, a6, a7, a8, a9, a10, a11, a12, a13)) H := by have h9 := hP; rw [ws_1] at h9; exact h9
              have hD : va_D A (wM h0 qq cc ff fl n.toNatClampNeg c0 nn lt (a0, a1 + (f_M_more (a0, a1, a2, a3, a4, a5, a6, a7, a8, a9, a10, a11, a12, a13) k 0), a2, a3, a4, a5, a6, a7, a8, a9, a10, a11, a12, a13)) := by have h9 := hD; rw [ws_1] at h9; exact h9
              exact J174 a0 (a1 + (f_M_more (a0, a1, a2, a3, a4, a5, a6, a7, a8, a9, a10, a11, a12, a13) k 0)) a2 a3 a4 a5 a6 a7 a8 a9 a10 a11 a12 a13 _ _ _ (hc.trans ((if_pos c_1).trans ((if_pos c_24).trans ((if_pos c_25).trans ((if_pos c_29).trans ((if_pos c_31).trans (if_pos c_32))))))) hP hD hS (lv_sub hl [1, 2, 3, 4] rfl)
            · refine lv_sipush (v := 255) hx hb d_M_happens_161 (by decide) ?_
              refine lv_goto (tgt := 173) hx hb d_M_happens_164 (by decide) ?_
              refine va_iast hx hb hK hP hD hS 2 1 rfl rfl hin d_M_happens_173 (fun H locs hP hD hS => ?_)
              have hP : va_P D cls_ (wM h0 qq cc ff fl n.toNatClampNeg c0 nn lt (a0, 255, a2, a3, a4, a5, a6, a7, a8, a9, a10, a11, a12, a13)) H := by have h9 := hP; rw [ws_1] at h9; exact h9
              have hD : va_D A (wM h0 qq cc ff fl n.toNatClampNeg c0 nn lt (a0, 255, a2, a3, a4, a5, a6, a7, a8, a9, a10, a11, a12, a13)) := by have h9 := hD; rw [ws_1] at h9; exact h9
              exact J174 a0 255 a2 a3 a4 a5 a6 a7 a8 a9 a10 a11 a12 a13 _ _ _ (hc.trans ((if_pos c_1).trans ((if_pos c_24).trans ((if_pos c_25).trans ((if_pos c_29).trans ((if_pos c_31).trans (if_neg c_32))))))) hP hD hS (lv_sub hl [1, 2, 3, 4] rfl)
          · refine lv_iconst (v := 0) hx hb d_M_happens_145 (by decide) ?_
            refine lv_goto (tgt := 173) hx hb d_M_happens_146 (by decide) ?_
            refine va_iast hx hb hK hP hD hS 2 1 rfl rfl hin d_M_happens_173 (fun H locs hP hD hS => ?_)
            have hP : va_P D cls_ (wM h0 qq cc ff fl n.toNatClampNeg c0 nn lt (a0, 0, a2, a3, a4, a5, a6, a7, a8, a9, a10, a11, a12, a13)) H := by have h9 := hP; rw [ws_1] at h9; exact h9
            have hD : va_D A (wM h0 qq cc ff fl n.toNatClampNeg c0 nn lt (a0, 0, a2, a3, a4, a5, a6, a7, a8, a9, a10, a11, a12, a13)) := by have h9 := hD; rw [ws_1] at h9; exact h9
            exact J174 a0 0 a2 a3 a4 a5 a6 a7 a8 a9 a10 a11 a12 a13 _ _ _ (hc.trans ((if_pos c_1).trans ((if_pos c_24).trans ((if_pos c_25).trans ((if_pos c_29).trans (if_neg c_31)))))) hP hD hS (lv_sub hl [1, 2, 3, 4] rfl)
        · refine lv_iconst (v := 1) hx hb d_M_happens_94 (by decide) ?_
          refine lv_goto (tgt := 99) hx hb d_M_happens_95 (by decide) ?_
          refine lv_istore (lv' := [(4, .int 1), (0, .ref h0), (1, .int n), (2, .int k), (3, .int w)]) hx hb d_M_happens_99 hl (by decide) rfl (fun ls hl => ?_)
          refine lv_aload_n hx hb d_M_happens_101 rfl (lv_at hl 1 rfl) ?_
          refine va_get (D := D) (ci := 2) (v := .ref (qq 1)) (C := R_M) (T := F_M) (N := 17) hx hb htB uw_M hown hK hP 0 rfl rfl 3 (by decide) (htB _ fl_M_13) (fun _ h9 => h9) rfl d_M_happens_102 ?_
          refine lv_iload_n hx hb d_M_happens_105 rfl (lv_at hl 2 rfl) ?_
          refine lv_iload hx hb d_M_happens_106 (lv_at hl 0 rfl) ?_
          refine lv_if_eq (tgt := 116) hx hb d_M_happens_108 (by decide) (fun c9 => absurd c9 (by decide)) (fun _ => ?_)
          refine lv_bipush (v := 119) hx hb d_M_happens_111 (by decide) ?_
          refine lv_goto (tgt := 130) hx hb d_M_happens_113 (by decide) ?_
          refine va_iast hx hb hK hP hD hS 2 1 rfl rfl hin d_M_happens_130 (fun H locs hP hD hS => ?_)
          have hP : va_P D cls_ (wM h0 qq cc ff fl n.toNatClampNeg c0 nn lt (a0, 119, a2, a3, a4, a5, a6, a7, a8, a9, a10, a11, a12, a13)) H := by have h9 := hP; rw [ws_1] at h9; exact h9
          have hD : va_D A (wM h0 qq cc ff fl n.toNatClampNeg c0 nn lt (a0, 119, a2, a3, a4, a5, a6, a7, a8, a9, a10, a11, a12, a13)) := by have h9 := hD; rw [ws_1] at h9; exact h9
          refine lv_aload_n hx hb d_M_happens_131 rfl (lv_at hl 1 rfl) ?_
          refine va_get (D := D) (ci := 2) (v := .ref (qq 1)) (C := R_M) (T := F_M) (N := 17) hx hb htB uw_M hown hK hP 0 rfl rfl 3 (by decide) (htB _ fl_M_13) (fun _ h9 => h9) rfl d_M_happens_132 ?_
          refine lv_iload_n hx hb d_M_happens_135 rfl (lv_at hl 2 rfl) ?_
          refine lv_aload_n hx hb d_M_happens_136 rfl (lv_at hl 1 rfl) ?_
          refine va_get (D := D) (ci := 2) (v := .ref (qq 1)) (C := R_M) (T := F_M) (N := 17) hx hb htB uw_M hown hK hP 0 rfl rfl 3 (by decide) (htB _ fl_M_13) (fun _ h9 => h9) rfl d_M_happens_137 ?_
          refine lv_iload_n hx hb d_M_happens_140 rfl (lv_at hl 2 rfl) ?_
          refine va_iald hx hb hK hP 2 1 rfl rfl hin d_M_happens_141 ?_
          refine tpi 119 pk_us ?_
          refine lv_if_ge (tgt := 149) hx hb d_M_happens_142 (by decide) (fun _ => ?_) (fun c9 => absurd (by decide) c9)
          refine lv_aload_n hx hb d_M_happens_149 rfl (lv_at hl 1 rfl) ?_
          refine va_get (D := D) (ci := 2) (v := .ref (qq 1)) (C := R_M) (T := F_M) (N := 17) hx hb htB uw_M hown hK hP 0 rfl rfl 3 (by decide) (htB _ fl_M_13) (fun _ h9 => h9) rfl d_M_happens_150 ?_
          refine lv_iload_n hx hb d_M_happens_153 rfl (lv_at hl 2 rfl) ?_
          refine va_iald hx hb hK hP 2 1 rfl rfl hin d_M_happens_154 ?_
          refine tpi 119 pk_us ?_
          refine lv_sipush (v := 255) hx hb d_M_happens_155 (by decide) ?_
          refine lv_icmp_le (tgt := 167) hx hb d_M_happens_158 (by decide) (fun _ => ?_) (fun c9 => absurd (by decide) c9)
          refine lv_aload_n hx hb d_M_happens_167 rfl (lv_at hl 1 rfl) ?_
          refine va_get (D := D) (ci := 2) (v := .ref (qq 1)) (C := R_M) (T := F_M) (N := 17) hx hb htB uw_M hown hK hP 0 rfl rfl 3 (by decide) (htB _ fl_M_13) (fun _ h9 => h9) rfl d_M_happens_168 ?_
          refine lv_iload_n hx hb d_M_happens_171 rfl (lv_at hl 2 rfl) ?_
          refine va_iald hx hb hK hP 2 1 rfl rfl hin d_M_happens_172 ?_
          refine tpi 119 pk_us ?_
          refine va_iast hx hb hK hP hD hS 2 1 rfl rfl hin d_M_happens_173 (fun H locs hP hD hS => ?_)
          have hP : va_P D cls_ (wM h0 qq cc ff fl n.toNatClampNeg c0 nn lt (a0, 119, a2, a3, a4, a5, a6, a7, a8, a9, a10, a11, a12, a13)) H := by have h9 := hP; rw [ws_1] at h9; exact h9
          have hD : va_D A (wM h0 qq cc ff fl n.toNatClampNeg c0 nn lt (a0, 119, a2, a3, a4, a5, a6, a7, a8, a9, a10, a11, a12, a13)) := by have h9 := hD; rw [ws_1] at h9; exact h9
          exact J174 a0 119 a2 a3 a4 a5 a6 a7 a8 a9 a10 a11 a12 a13 _ _ _ (hc.trans ((if_pos c_1).trans ((if_pos c_24).trans ((if_pos c_25).trans (if_neg c_29))))) hP hD hS (lv_sub hl [1, 2, 3, 4] rfl)
    · refine lv_aload_n hx hb d_M_happens_13 rfl (lv_at hl 0 rfl) ?_
      refine va_get (D := D) (ci := 2) (v := .ref (qq 0)) (C := R_M) (T := F_M) (N := 17) hx hb htB uw_M hown hK hP 0 rfl rfl 2 (by decide) (htB _ fl_M_7) (fun _ h9 => h9) rfl d_M_happens_14 ?_
      refine lv_iload_n hx hb d_M_happens_17 rfl (lv_at hl 1 rfl) ?_
      refine lv_aload_n hx hb d_M_happens_18 rfl (lv_at hl 0 rfl) ?_
      refine va_get (D := D) (ci := 2) (v := .ref (qq 0)) (C := R_M) (T := F_M) (N := 17) hx hb htB uw_M hown hK hP 0 rfl rfl 2 (by decide) (htB _ fl_M_7) (fun _ h9 => h9) rfl d_M_happens_19 ?_
      refine lv_iload_n hx hb d_M_happens_22 rfl (lv_at hl 1 rfl) ?_
      refine va_iald hx hb hK hP 1 0 rfl rfl hin d_M_happens_23 ?_
      refine tpi a0 pk_us ?_
      refine lv_aload_n hx hb d_M_happens_24 rfl (lv_at hl 0 rfl) ?_
      refine lv_iload_n hx hb d_M_happens_25 rfl (lv_at hl 1 rfl) ?_
      refine lv_iload_n hx hb d_M_happens_26 rfl (lv_at hl 2 rfl) ?_
      refine lv_iconst (v := 1) hx hb d_M_happens_27 (by decide) ?_
      refine vp_callSi (va_Run.run (va_runV (As := [.int n, .int k, .int 1]) (rest := [.int a0, .int n, .ref (qq 0)]) ⟨hx, hb, hml, hown, htB⟩ (c_M_more l D h0 qq cc ff fl c0 nn lt n hin (a0, a1, a2, a3, a4, a5, a6, a7, a8, a9, a10, a11, a12, a13) k 1) (cwV 3 htB g_M_67 rfl rfl rfl (by decide +kernel) ⟨Nat.le_of_ble_eq_true rfl, Nat.le_of_ble_eq_true rfl⟩) (preV hP hK hN (va_recv hK hP (ci := 2) (q0 := 0) rfl rfl)) rfl rfl hl.1 rfl (lv_room (Nat.le_of_ble_eq_true rfl)) d_M_happens_28 ⟨Nat.le_of_ble_eq_true rfl, Nat.le_of_ble_eq_true rfl⟩)) (fun r_33 hr_33 => ?_)
      subst hr_33
      refine lv_iadd hx hb d_M_happens_31 ?_
      refine va_iast hx hb hK hP hD hS 1 0 rfl rfl hin d_M_happens_32 (fun H locs hP hD hS => ?_)
      have hP : va_P D cls_ (wM h0 qq cc ff fl n.toNatClampNeg c0 nn lt (a0 + (f_M_more (a0, a1, a2, a3, a4, a5, a6, a7, a8, a9, a10, a11, a12, a13) k 1), a1, a2, a3, a4, a5, a6, a7, a8, a9, a10, a11, a12, a13)) H := by have h9 := hP; rw [ws_0] at h9; exact h9
      have hD : va_D A (wM h0 qq cc ff fl n.toNatClampNeg c0 nn lt (a0 + (f_M_more (a0, a1, a2, a3, a4, a5, a6, a7, a8, a9, a10, a11, a12, a13) k 1), a1, a2, a3, a4, a5, a6, a7, a8, a9, a10, a11, a12, a13)) := by have h9 := hD; rw [ws_0] at h9; exact h9
      refine lv_aload_n hx hb d_M_happens_33 rfl (lv_at hl 0 rfl) ?_
      refine va_get (D := D) (ci := 2) (v := .ref (qq 0)) (C := R_M) (T := F_M) (N := 17) hx hb htB uw_M hown hK hP 0 rfl rfl 2 (by decide) (htB _ fl_M_7) (fun _ h9 => h9) rfl d_M_happens_34 ?_
      refine lv_iload_n hx hb d_M_happens_37 rfl (lv_at hl 1 rfl) ?_
      refine lv_aload_n hx hb d_M_happens_38 rfl (lv_at hl 0 rfl) ?_
      refine va_get (D := D) (ci := 2) (v := .ref (qq 0)) (C := R_M) (T := F_M) (N := 17) hx hb htB uw_M hown hK hP 0 rfl rfl 2 (by decide) (htB _ fl_M_7) (fun _ h9 => h9) rfl d_M_happens_39 ?_
      refine lv_iload_n hx hb d_M_happens_42 rfl (lv_at hl 1 rfl) ?_
      refine va_iald hx hb hK hP 1 0 rfl rfl hin d_M_happens_43 ?_
      refine tpi (a0 + (f_M_more (a0, a1, a2, a3, a4, a5, a6, a7, a8, a9, a10, a11, a12, a13) k 1)) pk_us ?_
      refine lv_if_ge (tgt := 51) hx hb d_M_happens_44 (by decide) (fun c_34 => ?_) (fun c_34 => ?_)
      · refine lv_aload_n hx hb d_M_happens_51 rfl (lv_at hl 0 rfl) ?_
        refine va_get (D := D) (ci := 2) (v := .ref (qq 0)) (C := R_M) (T := F_M) (N := 17) hx hb htB uw_M hown hK hP 0 rfl rfl 2 (by decide) (htB _ fl_M_7) (fun _ h9 => h9) rfl d_M_happens_52 ?_
        refine lv_iload_n hx hb d_M_happens_55 rfl (lv_at hl 1 rfl) ?_
        refine va_iald hx hb hK hP 1 0 rfl rfl hin d_M_happens_56 ?_
        refine tpi (a0 + (f_M_more (a0, a1, a2, a3, a4, a5, a6, a7, a8, a9, a10, a11, a12, a13) k 1)) pk_us ?_
        refine lv_sipush (v := 256) hx hb d_M_happens_57 (by decide) ?_
        refine lv_icmp_le (tgt := 69) hx hb d_M_happens_60 (by decide) (fun c_35 => ?_) (fun c_35 => ?_)
        · refine lv_aload_n hx hb d_M_happens_69 rfl (lv_at hl 0 rfl) ?_
          refine va_get (D := D) (ci := 2) (v := .ref (qq 0)) (C := R_M) (T := F_M) (N := 17) hx hb htB uw_M hown hK hP 0 rfl rfl 2 (by decide) (htB _ fl_M_7) (fun _ h9 => h9) rfl d_M_happens_70 ?_
          refine lv_iload_n hx hb d_M_happens_73 rfl (lv_at hl 1 rfl) ?_
          refine va_iald hx hb hK hP 1 0 rfl rfl hin d_M_happens_74 ?_
          refine tpi (a0 + (f_M_more (a0, a1, a2, a3, a4, a5, a6, a7, a8, a9, a10, a11, a12, a13) k 1)) pk_us ?_
          refine va_iast hx hb hK hP hD hS 1 0 rfl rfl hin d_M_happens_75 (fun H locs hP hD hS => ?_)
          have hP : va_P D cls_ (wM h0 qq cc ff fl n.toNatClampNeg c0 nn lt (a0 + (f_M_more (a0, a1, a2, a3, a4, a5, a6, a7, a8, a9, a10, a11, a12, a13) k 1), a1, a2, a3, a4, a5, a6, a7, a8, a9, a10, a11, a12, a13)) H := by have h9 := hP; rw [ws_0] at h9; exact h9
          have hD : va_D A (wM h0 qq cc ff fl n.toNatClampNeg c0 nn lt (a0 + (f_M_more (a0, a1, a2, a3, a4, a5, a6, a7, a8, a9, a10, a11, a12, a13) k 1), a1, a2, a3, a4, a5, a6, a7, a8, a9, a10, a11, a12, a13)) := by have h9 := hD; rw [ws_0] at h9; exact h9
          refine lv_goto (tgt := 174) hx hb d_M_happens_76 (by decide) ?_
          exact J174 (a0 + (f_M_more (a0, a1, a2, a3, a4, a5, a6, a7, a8, a9, a10, a11, a12, a13) k 1)) a1 a2 a3 a4 a5 a6 a7 a8 a9 a10 a11 a12 a13 _ _ _ (hc.trans ((if_pos c_1).trans ((if_neg c_24).trans ((if_pos c_34).trans (if_pos c_35))))) hP hD hS (lv_sub hl [0, 1, 2, 3] rfl)
        · refine lv_sipush (v := 256) hx hb d_M_happens_63 (by decide) ?_
          refine lv_goto (tgt := 75) hx hb d_M_happens_66 (by decide) ?_
          refine va_iast hx hb hK hP hD hS 1 0 rfl rfl hin d_M_happens_75 (fun H locs hP hD hS => ?_)
          have hP : va_P D cls_ (wM h0 qq cc ff fl n.toNatClampNeg c0 nn lt (256, a1, a2, a3, a4, a5, a6, a7, a8, a9, a10, a11, a12, a13)) H := by have h9 := hP; rw [ws_0] at h9; exact h9
          have hD : va_D A (wM h0 qq cc ff fl n.toNatClampNeg c0 nn lt (256, a1, a2, a3, a4, a5, a6, a7, a8, a9, a10, a11, a12, a13)) := by have h9 := hD; rw [ws_0] at h9; exact h9
          refine lv_goto (tgt := 174) hx hb d_M_happens_76 (by decide) ?_
          exact J174 256 a1 a2 a3 a4 a5 a6 a7 a8 a9 a10 a11 a12 a13 _ _ _ (hc.trans ((if_pos c_1).trans ((if_neg c_24).trans ((if_pos c_34).trans (if_neg c_35))))) hP hD hS (lv_sub hl [0, 1, 2, 3] rfl)
      · refine lv_iconst (v := 0) hx hb d_M_happens_47 (by decide) ?_
        refine lv_goto (tgt := 75) hx hb d_M_happens_48 (by decide) ?_
        refine va_iast hx hb hK hP hD hS 1 0 rfl rfl hin d_M_happens_75 (fun H locs hP hD hS => ?_)
        have hP : va_P D cls_ (wM h0 qq cc ff fl n.toNatClampNeg c0 nn lt (0, a1, a2, a3, a4, a5, a6, a7, a8, a9, a10, a11, a12, a13)) H := by have h9 := hP; rw [ws_0] at h9; exact h9
        have hD : va_D A (wM h0 qq cc ff fl n.toNatClampNeg c0 nn lt (0, a1, a2, a3, a4, a5, a6, a7, a8, a9, a10, a11, a12, a13)) := by have h9 := hD; rw [ws_0] at h9; exact h9
        refine lv_goto (tgt := 174) hx hb d_M_happens_76 (by decide) ?_
        exact J174 0 a1 a2 a3 a4 a5 a6 a7 a8 a9 a10 a11 a12 a13 _ _ _ (hc.trans ((if_pos c_1).trans ((if_neg c_24).trans (if_neg c_34)))) hP hD hS (lv_sub hl [0, 1, 2, 3] rfl)

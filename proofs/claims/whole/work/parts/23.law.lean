set_option maxHeartbeats 4000000 in
set_option maxRecDepth 100000 in
theorem law_node {p : Program} {l : Launch} {e : Env} {s : State} {m : MethodId} {below : List Frame} {meth : Method} {c : Code} {D : va_G} {b L : Nat} {xs : Nat → Int32} (hL : L ≤ 2048) (C0 : lw_At p s m meth c b L xs) (hN : NK s) {i q1 q2 : Nat} (hi : i + 4 ≤ L) {u : XS} {v : MS} {H : Heap} {locs : List Loc} (hV : LInv D s q1 q2 u v H locs) {cells slots : Nat} (hcc : cells + 1 ≤ room_1.cells) (hss : slots + 15 ≤ room_1.slots) {ls : Array Slot} (hl : lv_has ls 4 [(0, .ref b), (1, .ref q1), (2, .ref q2), (3, .int (nI i))])
    (next : ∀ (u2 : XS) (v2 : MS) (H : Heap) (locs : List Loc), LInv D s q1 q2 u2 v2 H locs → W p l e room_1 s m #[Value.ref b] below meth c H locs (cells + 1) (slots + 15) (lw_Z below #[Value.ref b] s) (F0 m 519 ls [])) :
    W p l e room_1 s m #[Value.ref b] below meth c H locs cells slots (lw_Z below #[Value.ref b] s) (F0 m 92 ls []) := by
  obtain ⟨hx, hb, hr, hml, hown, hts, hX, hbl, hlocks, hgv⟩ := C0
  have hA : ∀ q : Nat, s.heap.size ≤ q → (fun q : Nat => s.heap.size ≤ q) q := fun _ h => h
  have hbA : ¬ (fun q : Nat => s.heap.size ≤ q) b := Nat.not_le.mpr hbl
  have hin0 : vp_in (nI i) L := vp_in_nI (by omega) (by omega)
  have hin1 : vp_in (nI i + 1) L := by rw [show nI i + 1 = nI (i + 1) from nI_add i 1]; exact vp_in_nI (by omega) (by omega)
  have hin2 : vp_in (nI i + 2) L := by rw [show nI i + 2 = nI (i + 2) from nI_add i 2]; exact vp_in_nI (by omega) (by omega)
  have hin3 : vp_in (nI i + 3) L := by rw [show nI i + 3 = nI (i + 3) from nI_add i 3]; exact vp_in_nI (by omega) (by omega)
  obtain ⟨wx, wm, cA, tm, hIx, hIm, hPx, hPm, hDx, hDm, hap, hKx, hKm, hS, hRel⟩ := hV
  refine lv_aload_n hx hb d_L_law_92 rfl (lv_at hl 1 rfl) ?_
  have hFc := freew hDx hS hA
  obtain ⟨kx, fsx, hkx⟩ := IX_at hIx
  refine va_calli (va_runV (As := []) (rest := []) ⟨hx, hb, hml, hown, hts⟩ (c_X_node l D q1 _ u wx cA hIx (hDx.weaken (fun _ _ _ _ => trivial))) (cwV 0 hts gL_13 rfl rfl rfl (by decide +kernel) ⟨Nat.le_of_ble_eq_true rfl, Nat.le_of_ble_eq_true rfl⟩) (preVZ hPx hKx hN (va_recv hKx hPx (ci := 1) (q0 := kx) rfl hkx)) rfl rfl hl.1 rfl (lv_room (Nat.le_of_ble_eq_true rfl)) d_L_law_93 ⟨by omega, by omega⟩) hS (fun q _ h => hFc q h) hFc (fun rx z2 t H1 locs ht hvm hwx hB hz1 hk1 hS => ?_)
  obtain ⟨hwx, rfl⟩ := hwx
  obtain ⟨wx1, cA1, hIx1, hPx1, hKx1, hDx1⟩ := hB
  rw [ht] at hPx1
  have hKx := va_K.moved hvm.symm hKx1
  obtain ⟨hPm, hDx, hap⟩ := twoc hPm hap hk1 hFc hDx1
  have hPx := hPx1
  have hIx := hIx1
  clear hPx1 hIx1 hKx1 hDx1
  generalize wx1 = wx at hPx hIx hDx hap
  generalize cA1 = cA at hIx hKx
  refine lv_aload_n hx hb d_L_law_96 rfl (lv_at hl 2 rfl) ?_
  have hFc := freew hDm hS hA
  obtain ⟨kx, fsx, hkx⟩ := IM_at hIm
  refine va_calli (va_runV (As := []) (rest := [.int rx]) ⟨hx, hb, hml, hown, hts⟩ (c_M_node l D q2 _ v wm tm hIm (hDm.weaken (fun _ _ _ _ => trivial))) (cwV 0 hts gL_17 rfl rfl rfl (by decide +kernel) ⟨Nat.le_of_ble_eq_true rfl, Nat.le_of_ble_eq_true rfl⟩) (preVZ hPm hKm hN (va_recv hKm hPm (ci := 2) (q0 := kx) rfl hkx)) rfl rfl hl.1 rfl (lv_room (Nat.le_of_ble_eq_true rfl)) d_L_law_97 ⟨by omega, by omega⟩) hS (fun q _ h => hFc q h) hFc (fun rm z2 t H1 locs ht hvm hwm hB hz1 hk1 hS => ?_)
  obtain ⟨hwm, rfl⟩ := hwm
  obtain ⟨wm1, tm1, hIm1, hPm1, hKm1, hDm1⟩ := hB
  rw [ht] at hPm1
  have hKm := va_K.moved hvm.symm hKm1
  obtain ⟨hPx, hDm, hap⟩ := twoc hPx hap.symm hk1 hFc hDm1
  have hap := hap.symm
  have hPm := hPm1
  have hIm := hIm1
  clear hPm1 hIm1 hKm1 hDm1
  generalize wm1 = wm at hPm hIm hDm hap
  generalize tm1 = tm at hIm hKm
  have hrel := rel_node hRel
  refine lv_icmp_eq (tgt := 519) hx hb d_L_law_100 (by decide) (fun _ => ?_) (fun c9 => absurd (hwx.trans (hrel.1.trans hwm.symm)) c9)
  refine W.cs (cells' := cells + 1) (slots' := slots + 15) (by omega) (by omega) ?_
  exact next _ _ _ _ ⟨wx, wm, cA, tm, hIx, hIm, hPx, hPm, hDx, hDm, hap, hKx, hKm, hS, hrel.2⟩
set_option maxHeartbeats 4000000 in
set_option maxRecDepth 100000 in
theorem law_event {p : Program} {l : Launch} {e : Env} {s : State} {m : MethodId} {below : List Frame} {meth : Method} {c : Code} {D : va_G} {b L : Nat} {xs : Nat → Int32} (hL : L ≤ 2048) (C0 : lw_At p s m meth c b L xs) (hN : NK s) {i q1 q2 : Nat} (hi : i + 4 ≤ L) {u : XS} {v : MS} {H : Heap} {locs : List Loc} (hV : LInv D s q1 q2 u v H locs) {cells slots : Nat} (hcc : cells + 0 ≤ room_1.cells) (hss : slots + 0 ≤ room_1.slots) {ls : Array Slot} (hl : lv_has ls 4 [(0, .ref b), (1, .ref q1), (2, .ref q2), (3, .int (nI i))])
    (next : ∀ (u2 : XS) (v2 : MS) (H : Heap) (locs : List Loc), LInv D s q1 q2 u2 v2 H locs → W p l e room_1 s m #[Value.ref b] below meth c H locs (cells + 0) (slots + 0) (lw_Z below #[Value.ref b] s) (F0 m 519 ls [])) :
    W p l e room_1 s m #[Value.ref b] below meth c H locs cells slots (lw_Z below #[Value.ref b] s) (F0 m 105 ls []) := by
  obtain ⟨hx, hb, hr, hml, hown, hts, hX, hbl, hlocks, hgv⟩ := C0
  have hA : ∀ q : Nat, s.heap.size ≤ q → (fun q : Nat => s.heap.size ≤ q) q := fun _ h => h
  have hbA : ¬ (fun q : Nat => s.heap.size ≤ q) b := Nat.not_le.mpr hbl
  have hin0 : vp_in (nI i) L := vp_in_nI (by omega) (by omega)
  have hin1 : vp_in (nI i + 1) L := by rw [show nI i + 1 = nI (i + 1) from nI_add i 1]; exact vp_in_nI (by omega) (by omega)
  have hin2 : vp_in (nI i + 2) L := by rw [show nI i + 2 = nI (i + 2) from nI_add i 2]; exact vp_in_nI (by omega) (by omega)
  have hin3 : vp_in (nI i + 3) L := by rw [show nI i + 3 = nI (i + 3) from nI_add i 3]; exact vp_in_nI (by omega) (by omega)
  obtain ⟨wx, wm, cA, tm, hIx, hIm, hPx, hPm, hDx, hDm, hap, hKx, hKm, hS, hRel⟩ := hV
  refine lv_aload_n hx hb d_L_law_105 rfl (lv_at hl 1 rfl) ?_
  refine lv_aload_n hx hb d_L_law_106 rfl (lv_at hl 0 rfl) ?_
  refine lv_iload_n hx hb d_L_law_107 rfl (lv_at hl 3 rfl) ?_
  refine lv_iconst (v := 1) hx hb d_L_law_108 (by decide) ?_
  refine lv_iadd hx hb d_L_law_109 ?_
  refine va_sld hx hb hX hbl hbA hS hin1 d_L_law_110 ?_
  refine lv_aload_n hx hb d_L_law_111 rfl (lv_at hl 0 rfl) ?_
  refine lv_iload_n hx hb d_L_law_112 rfl (lv_at hl 3 rfl) ?_
  refine lv_iconst (v := 2) hx hb d_L_law_113 (by decide) ?_
  refine lv_iadd hx hb d_L_law_114 ?_
  refine va_sld hx hb hX hbl hbA hS hin2 d_L_law_115 ?_
  refine lv_aload_n hx hb d_L_law_116 rfl (lv_at hl 0 rfl) ?_
  refine lv_iload_n hx hb d_L_law_117 rfl (lv_at hl 3 rfl) ?_
  refine lv_iconst (v := 3) hx hb d_L_law_118 (by decide) ?_
  refine lv_iadd hx hb d_L_law_119 ?_
  refine va_sld hx hb hX hbl hbA hS hin3 d_L_law_120 ?_
  refine lv_if_eq (tgt := 128) hx hb d_L_law_121 (by decide) (fun c_1 => ?_) (fun c_1 => ?_)
  · refine lv_iconst (v := 0) hx hb d_L_law_128 (by decide) ?_
    have hFc := freew hDx hS hA
    obtain ⟨kx, fsx, hkx⟩ := IX_at hIx
    refine va_calli (va_runV (As := [.int (xs (nI i + 1).toNatClampNeg), .int (xs (nI i + 2).toNatClampNeg), .int 0]) (rest := []) ⟨hx, hb, hml, hown, hts⟩ (c_X_event l D q1 _ u wx cA hIx (hDx.weaken (fun _ _ _ _ => trivial)) (xs (nI i + 1).toNatClampNeg) (xs (nI i + 2).toNatClampNeg) 0 (Or.inl rfl)) (cwV 3 hts gL_18 rfl rfl rfl (by decide +kernel) ⟨Nat.le_of_ble_eq_true rfl, Nat.le_of_ble_eq_true rfl⟩) (preVZ hPx hKx hN (va_recv hKx hPx (ci := 1) (q0 := kx) rfl hkx)) rfl rfl hl.1 rfl (lv_room (Nat.le_of_ble_eq_true rfl)) d_L_law_129 ⟨by omega, by omega⟩) hS (fun q _ h => hFc q h) hFc (fun rx z2 t H1 locs ht hvm hwx hB hz1 hk1 hS => ?_)
    obtain ⟨hwx, rfl⟩ := hwx
    obtain ⟨wx1, cA1, hIx1, hPx1, hKx1, hDx1⟩ := hB
    rw [ht] at hPx1
    have hKx := va_K.moved hvm.symm hKx1
    obtain ⟨hPm, hDx, hap⟩ := twoc hPm hap hk1 hFc hDx1
    have hPx := hPx1
    have hIx := hIx1
    clear hPx1 hIx1 hKx1 hDx1
    generalize wx1 = wx at hPx hIx hDx hap
    generalize cA1 = cA at hIx hKx
    refine lv_aload_n hx hb d_L_law_132 rfl (lv_at hl 2 rfl) ?_
    refine lv_aload_n hx hb d_L_law_133 rfl (lv_at hl 0 rfl) ?_
    refine lv_iload_n hx hb d_L_law_134 rfl (lv_at hl 3 rfl) ?_
    refine lv_iconst (v := 1) hx hb d_L_law_135 (by decide) ?_
    refine lv_iadd hx hb d_L_law_136 ?_
    refine va_sld hx hb hX hbl hbA hS hin1 d_L_law_137 ?_
    refine lv_aload_n hx hb d_L_law_138 rfl (lv_at hl 0 rfl) ?_
    refine lv_iload_n hx hb d_L_law_139 rfl (lv_at hl 3 rfl) ?_
    refine lv_iconst (v := 2) hx hb d_L_law_140 (by decide) ?_
    refine lv_iadd hx hb d_L_law_141 ?_
    refine va_sld hx hb hX hbl hbA hS hin2 d_L_law_142 ?_
    refine lv_aload_n hx hb d_L_law_143 rfl (lv_at hl 0 rfl) ?_
    refine lv_iload_n hx hb d_L_law_144 rfl (lv_at hl 3 rfl) ?_
    refine lv_iconst (v := 3) hx hb d_L_law_145 (by decide) ?_
    refine lv_iadd hx hb d_L_law_146 ?_
    refine va_sld hx hb hX hbl hbA hS hin3 d_L_law_147 ?_
    refine lv_if_eq (tgt := 155) hx hb d_L_law_148 (by decide) (fun _ => ?_) (fun c9 => absurd c_1 c9)
    refine lv_iconst (v := 0) hx hb d_L_law_155 (by decide) ?_
    have hFc := freew hDm hS hA
    obtain ⟨kx, fsx, hkx⟩ := IM_at hIm
    refine va_calli (va_runV (As := [.int (xs (nI i + 1).toNatClampNeg), .int (xs (nI i + 2).toNatClampNeg), .int 0]) (rest := [.int rx]) ⟨hx, hb, hml, hown, hts⟩ (c_M_event l D q2 _ v wm tm hIm (hDm.weaken (fun _ _ _ _ => trivial)) (xs (nI i + 1).toNatClampNeg) (xs (nI i + 2).toNatClampNeg) 0 (Or.inl rfl)) (cwV 3 hts gL_22 rfl rfl rfl (by decide +kernel) ⟨Nat.le_of_ble_eq_true rfl, Nat.le_of_ble_eq_true rfl⟩) (preVZ hPm hKm hN (va_recv hKm hPm (ci := 2) (q0 := kx) rfl hkx)) rfl rfl hl.1 rfl (lv_room (Nat.le_of_ble_eq_true rfl)) d_L_law_156 ⟨by omega, by omega⟩) hS (fun q _ h => hFc q h) hFc (fun rm z2 t H1 locs ht hvm hwm hB hz1 hk1 hS => ?_)
    obtain ⟨hwm, rfl⟩ := hwm
    obtain ⟨wm1, tm1, hIm1, hPm1, hKm1, hDm1⟩ := hB
    rw [ht] at hPm1
    have hKm := va_K.moved hvm.symm hKm1
    obtain ⟨hPx, hDm, hap⟩ := twoc hPx hap.symm hk1 hFc hDm1
    have hap := hap.symm
    have hPm := hPm1
    have hIm := hIm1
    clear hPm1 hIm1 hKm1 hDm1
    generalize wm1 = wm at hPm hIm hDm hap
    generalize tm1 = tm at hIm hKm
    have hrel := rel_event hRel (xs (nI i + 1).toNatClampNeg) (xs (nI i + 2).toNatClampNeg) 0 (Or.inl rfl)
    refine lv_icmp_eq (tgt := 519) hx hb d_L_law_159 (by decide) (fun _ => ?_) (fun c9 => absurd (hwx.trans (hrel.1.trans hwm.symm)) c9)
    refine W.cs (cells' := cells + 0) (slots' := slots + 0) (by omega) (by omega) ?_
    exact next _ _ _ _ ⟨wx, wm, cA, tm, hIx, hIm, hPx, hPm, hDx, hDm, hap, hKx, hKm, hS, hrel.2⟩
  · refine lv_iconst (v := 1) hx hb d_L_law_124 (by decide) ?_
    refine lv_goto (tgt := 129) hx hb d_L_law_125 (by decide) ?_
    have hFc := freew hDx hS hA
    obtain ⟨kx, fsx, hkx⟩ := IX_at hIx
    refine va_calli (va_runV (As := [.int (xs (nI i + 1).toNatClampNeg), .int (xs (nI i + 2).toNatClampNeg), .int 1]) (rest := []) ⟨hx, hb, hml, hown, hts⟩ (c_X_event l D q1 _ u wx cA hIx (hDx.weaken (fun _ _ _ _ => trivial)) (xs (nI i + 1).toNatClampNeg) (xs (nI i + 2).toNatClampNeg) 1 (Or.inr rfl)) (cwV 3 hts gL_18 rfl rfl rfl (by decide +kernel) ⟨Nat.le_of_ble_eq_true rfl, Nat.le_of_ble_eq_true rfl⟩) (preVZ hPx hKx hN (va_recv hKx hPx (ci := 1) (q0 := kx) rfl hkx)) rfl rfl hl.1 rfl (lv_room (Nat.le_of_ble_eq_true rfl)) d_L_law_129 ⟨by omega, by omega⟩) hS (fun q _ h => hFc q h) hFc (fun rx z2 t H1 locs ht hvm hwx hB hz1 hk1 hS => ?_)
    obtain ⟨hwx, rfl⟩ := hwx
    obtain ⟨wx1, cA1, hIx1, hPx1, hKx1, hDx1⟩ := hB
    rw [ht] at hPx1
    have hKx := va_K.moved hvm.symm hKx1
    obtain ⟨hPm, hDx, hap⟩ := twoc hPm hap hk1 hFc hDx1
    have hPx := hPx1
    have hIx := hIx1
    clear hPx1 hIx1 hKx1 hDx1
    generalize wx1 = wx at hPx hIx hDx hap
    generalize cA1 = cA at hIx hKx
    refine lv_aload_n hx hb d_L_law_132 rfl (lv_at hl 2 rfl) ?_
    refine lv_aload_n hx hb d_L_law_133 rfl (lv_at hl 0 rfl) ?_
    refine lv_iload_n hx hb d_L_law_134 rfl (lv_at hl 3 rfl) ?_
    refine lv_iconst (v := 1) hx hb d_L_law_135 (by decide) ?_
    refine lv_iadd hx hb d_L_law_136 ?_
    refine va_sld hx hb hX hbl hbA hS hin1 d_L_law_137 ?_
    refine lv_aload_n hx hb d_L_law_138 rfl (lv_at hl 0 rfl) ?_
    refine lv_iload_n hx hb d_L_law_139 rfl (lv_at hl 3 rfl) ?_
    refine lv_iconst (v := 2) hx hb d_L_law_140 (by decide) ?_
    refine lv_iadd hx hb d_L_law_141 ?_
    refine va_sld hx hb hX hbl hbA hS hin2 d_L_law_142 ?_
    refine lv_aload_n hx hb d_L_law_143 rfl (lv_at hl 0 rfl) ?_
    refine lv_iload_n hx hb d_L_law_144 rfl (lv_at hl 3 rfl) ?_
    refine lv_iconst (v := 3) hx hb d_L_law_145 (by decide) ?_
    refine lv_iadd hx hb d_L_law_146 ?_
    refine va_sld hx hb hX hbl hbA hS hin3 d_L_law_147 ?_
    refine lv_if_eq (tgt := 155) hx hb d_L_law_148 (by decide) (fun c9 => absurd c9 c_1) (fun _ => ?_)
    refine lv_iconst (v := 1) hx hb d_L_law_151 (by decide) ?_
    refine lv_goto (tgt := 156) hx hb d_L_law_152 (by decide) ?_
    have hFc := freew hDm hS hA
    obtain ⟨kx, fsx, hkx⟩ := IM_at hIm
    refine va_calli (va_runV (As := [.int (xs (nI i + 1).toNatClampNeg), .int (xs (nI i + 2).toNatClampNeg), .int 1]) (rest := [.int rx]) ⟨hx, hb, hml, hown, hts⟩ (c_M_event l D q2 _ v wm tm hIm (hDm.weaken (fun _ _ _ _ => trivial)) (xs (nI i + 1).toNatClampNeg) (xs (nI i + 2).toNatClampNeg) 1 (Or.inr rfl)) (cwV 3 hts gL_22 rfl rfl rfl (by decide +kernel) ⟨Nat.le_of_ble_eq_true rfl, Nat.le_of_ble_eq_true rfl⟩) (preVZ hPm hKm hN (va_recv hKm hPm (ci := 2) (q0 := kx) rfl hkx)) rfl rfl hl.1 rfl (lv_room (Nat.le_of_ble_eq_true rfl)) d_L_law_156 ⟨by omega, by omega⟩) hS (fun q _ h => hFc q h) hFc (fun rm z2 t H1 locs ht hvm hwm hB hz1 hk1 hS => ?_)
    obtain ⟨hwm, rfl⟩ := hwm
    obtain ⟨wm1, tm1, hIm1, hPm1, hKm1, hDm1⟩ := hB
    rw [ht] at hPm1
    have hKm := va_K.moved hvm.symm hKm1
    obtain ⟨hPx, hDm, hap⟩ := twoc hPx hap.symm hk1 hFc hDm1
    have hap := hap.symm
    have hPm := hPm1
    have hIm := hIm1
    clear hPm1 hIm1 hKm1 hDm1
    generalize wm1 = wm at hPm hIm hDm hap
    generalize tm1 = tm at hIm hKm
    have hrel := rel_event hRel (xs (nI i + 1).toNatClampNeg) (xs (nI i + 2).toNatClampNeg) 1 (Or.inr rfl)
    refine lv_icmp_eq (tgt := 519) hx hb d_L_law_159 (by decide) (fun _ => ?_) (fun c9 => absurd (hwx.trans (hrel.1.trans hwm.symm)) c9)
    refine W.cs (cells' := cells + 0) (slots' := slots + 0) (by omega) (by omega) ?_
    exact next _ _ _ _ ⟨wx, wm, cA, tm, hIx, hIm, hPx, hPm, hDx, hDm, hap, hKx, hKm, hS, hrel.2⟩
set_option maxHeartbeats 4000000 in
set_option maxRecDepth 100000 in
theorem law_counter {p : Program} {l : Launch} {e : Env} {s : State} {m : MethodId} {below : List Frame} {meth : Method} {c : Code} {D : va_G} {b L : Nat} {xs : Nat → Int32} (hL : L ≤ 2048) (C0 : lw_At p s m meth c b L xs) (hN : NK s) {i q1 q2 : Nat} (hi : i + 4 ≤ L) {u : XS} {v : MS} {H : Heap} {locs : List Loc} (hV : LInv D s q1 q2 u v H locs) {cells slots : Nat} (hcc : cells + 0 ≤ room_1.cells) (hss : slots + 0 ≤ room_1.slots) {ls : Array Slot} (hl : lv_has ls 4 [(0, .ref b), (1, .ref q1), (2, .ref q2), (3, .int (nI i))])
    (next : ∀ (u2 : XS) (v2 : MS) (H : Heap) (locs : List Loc), LInv D s q1 q2 u2 v2 H locs → W p l e room_1 s m #[Value.ref b] below meth c H locs (cells + 0) (slots + 0) (lw_Z below #[Value.ref b] s) (F0 m 519 ls [])) :
    W p l e room_1 s m #[Value.ref b] below meth c H locs cells slots (lw_Z below #[Value.ref b] s) (F0 m 164 ls []) := by
  obtain ⟨hx, hb, hr, hml, hown, hts, hX, hbl, hlocks, hgv⟩ := C0
  have hA : ∀ q : Nat, s.heap.size ≤ q → (fun q : Nat => s.heap.size ≤ q) q := fun _ h => h
  have hbA : ¬ (fun q : Nat => s.heap.size ≤ q) b := Nat.not_le.mpr hbl
  have hin0 : vp_in (nI i) L := vp_in_nI (by omega) (by omega)
  have hin1 : vp_in (nI i + 1) L := by rw [show nI i + 1 = nI (i + 1) from nI_add i 1]; exact vp_in_nI (by omega) (by omega)
  have hin2 : vp_in (nI i + 2) L := by rw [show nI i + 2 = nI (i + 2) from nI_add i 2]; exact vp_in_nI (by omega) (by omega)
  have hin3 : vp_in (nI i + 3) L := by rw [show nI i + 3 = nI (i + 3) from nI_add i 3]; exact vp_in_nI (by omega) (by omega)
  obtain ⟨wx, wm, cA, tm, hIx, hIm, hPx, hPm, hDx, hDm, hap, hKx, hKm, hS, hRel⟩ := hV
  refine lv_aload_n hx hb d_L_law_164 rfl (lv_at hl 1 rfl) ?_
  refine lv_aload_n hx hb d_L_law_165 rfl (lv_at hl 0 rfl) ?_
  refine lv_iload_n hx hb d_L_law_166 rfl (lv_at hl 3 rfl) ?_
  refine lv_iconst (v := 1) hx hb d_L_law_167 (by decide) ?_
  refine lv_iadd hx hb d_L_law_168 ?_
  refine va_sld hx hb hX hbl hbA hS hin1 d_L_law_169 ?_
  refine lv_aload_n hx hb d_L_law_170 rfl (lv_at hl 0 rfl) ?_
  refine lv_iload_n hx hb d_L_law_171 rfl (lv_at hl 3 rfl) ?_
  refine lv_iconst (v := 2) hx hb d_L_law_172 (by decide) ?_
  refine lv_iadd hx hb d_L_law_173 ?_
  refine va_sld hx hb hX hbl hbA hS hin2 d_L_law_174 ?_
  refine lv_if_eq (tgt := 182) hx hb d_L_law_175 (by decide) (fun c_1 => ?_) (fun c_1 => ?_)
  · refine lv_iconst (v := 0) hx hb d_L_law_182 (by decide) ?_
    have hFc := freew hDx hS hA
    obtain ⟨kx, fsx, hkx⟩ := IX_at hIx
    refine va_calli (va_runV (As := [.int (xs (nI i + 1).toNatClampNeg), .int 0]) (rest := []) ⟨hx, hb, hml, hown, hts⟩ (c_X_counter l D q1 _ u wx cA hIx (hDx.weaken (fun _ _ _ _ => trivial)) (xs (nI i + 1).toNatClampNeg) 0) (cwV 2 hts gL_23 rfl rfl rfl (by decide +kernel) ⟨Nat.le_of_ble_eq_true rfl, Nat.le_of_ble_eq_true rfl⟩) (preVZ hPx hKx hN (va_recv hKx hPx (ci := 1) (q0 := kx) rfl hkx)) rfl rfl hl.1 rfl (lv_room (Nat.le_of_ble_eq_true rfl)) d_L_law_183 ⟨by omega, by omega⟩) hS (fun q _ h => hFc q h) hFc (fun rx z2 t H1 locs ht hvm hwx hB hz1 hk1 hS => ?_)
    obtain ⟨hwx, rfl⟩ := hwx
    obtain ⟨wx1, cA1, hIx1, hPx1, hKx1, hDx1⟩ := hB
    rw [ht] at hPx1
    have hKx := va_K.moved hvm.symm hKx1
    obtain ⟨hPm, hDx, hap⟩ := twoc hPm hap hk1 hFc hDx1
    have hPx := hPx1
    have hIx := hIx1
    clear hPx1 hIx1 hKx1 hDx1
    generalize wx1 = wx at hPx hIx hDx hap
    generalize cA1 = cA at hIx hKx
    refine lv_aload_n hx hb d_L_law_186 rfl (lv_at hl 2 rfl) ?_
    refine lv_aload_n hx hb d_L_law_187 rfl (lv_at hl 0 rfl) ?_
    refine lv_iload_n hx hb d_L_law_188 rfl (lv_at hl 3 rfl) ?_
    refine lv_iconst (v := 1) hx hb d_L_law_189 (by decide) ?_
    refine lv_iadd hx hb d_L_law_190 ?_
    refine va_sld hx hb hX hbl hbA hS hin1 d_L_law_191 ?_
    refine lv_aload_n hx hb d_L_law_192 rfl (lv_at hl 0 rfl) ?_
    refine lv_iload_n hx hb d_L_law_193 rfl (lv_at hl 3 rfl) ?_
    refine lv_iconst (v := 2) hx hb d_L_law_194 (by decide) ?_
    refine lv_iadd hx hb d_L_law_195 ?_
    refine va_sld hx hb hX hbl hbA hS hin2 d_L_law_196 ?_
    refine lv_if_eq (tgt := 204) hx hb d_L_law_197 (by decide) (fun _ => ?_) (fun c9 => absurd c_1 c9)
    refine lv_iconst (v := 0) hx hb d_L_law_204 (by decide) ?_
    have hFc := freew hDm hS hA
    obtain ⟨kx, fsx, hkx⟩ := IM_at hIm
    refine va_calli (va_runV (As := [.int (xs (nI i + 1).toNatClampNeg), .int 0]) (rest := [.int rx]) ⟨hx, hb, hml, hown, hts⟩ (c_M_counter l D q2 _ v wm tm hIm (hDm.weaken (fun _ _ _ _ => trivial)) (xs (nI i + 1).toNatClampNeg) 0) (cwV 2 hts gL_27 rfl rfl rfl (by decide +kernel) ⟨Nat.le_of_ble_eq_true rfl, Nat.le_of_ble_eq_true rfl⟩) (preVZ hPm hKm hN (va_recv hKm hPm (ci := 2) (q0 := kx) rfl hkx)) rfl rfl hl.1 rfl (lv_room (Nat.le_of_ble_eq_true rfl)) d_L_law_205 ⟨by omega, by omega⟩) hS (fun q _ h => hFc q h) hFc (fun rm z2 t H1 locs ht hvm hwm hB hz1 hk1 hS => ?_)
    obtain ⟨hwm, rfl⟩ := hwm
    obtain ⟨wm1, tm1, hIm1, hPm1, hKm1, hDm1⟩ := hB
    rw [ht] at hPm1
    have hKm := va_K.moved hvm.symm hKm1
    obtain ⟨hPx, hDm, hap⟩ := twoc hPx hap.symm hk1 hFc hDm1
    have hap := hap.symm
    have hPm := hPm1
    have hIm := hIm1
    clear hPm1 hIm1 hKm1 hDm1
    generalize wm1 = wm at hPm hIm hDm hap
    generalize tm1 = tm at hIm hKm
    have hrel := rel_counter hRel (xs (nI i + 1).toNatClampNeg) 0
    refine lv_icmp_eq (tgt := 519) hx hb d_L_law_208 (by decide) (fun _ => ?_) (fun c9 => absurd (hwx.trans (hrel.1.trans hwm.symm)) c9)
    refine W.cs (cells' := cells + 0) (slots' := slots + 0) (by omega) (by omega) ?_
    exact next _ _ _ _ ⟨wx, wm, cA, tm, hIx, hIm, hPx, hPm, hDx, hDm, hap, hKx, hKm, hS, hrel.2⟩
  · refine lv_iconst (v := 1) hx hb d_L_law_178 (by decide) ?_
    refine lv_goto (tgt := 183) hx hb d_L_law_179 (by decide) ?_
    have hFc := freew hDx hS hA
    obtain ⟨kx, fsx, hkx⟩ := IX_at hIx
    refine va_calli (va_runV (As := [.int (xs (nI i + 1).toNatClampNeg), .int 1]) (rest := []) ⟨hx, hb, hml, hown, hts⟩ (c_X_counter l D q1 _ u wx cA hIx (hDx.weaken (fun _ _ _ _ => trivial)) (xs (nI i + 1).toNatClampNeg) 1) (cwV 2 hts gL_23 rfl rfl rfl (by decide +kernel) ⟨Nat.le_of_ble_eq_true rfl, Nat.le_of_ble_eq_true rfl⟩) (preVZ hPx hKx hN (va_recv hKx hPx (ci := 1) (q0 := kx) rfl hkx)) rfl rfl hl.1 rfl (lv_room (Nat.le_of_ble_eq_true rfl)) d_L_law_183 ⟨by omega, by omega⟩) hS (fun q _ h => hFc q h) hFc (fun rx z2 t H1 locs ht hvm hwx hB hz1 hk1 hS => ?_)
    obtain ⟨hwx, rfl⟩ := hwx
    obtain ⟨wx1, cA1, hIx1, hPx1, hKx1, hDx1⟩ := hB
    rw [ht] at hPx1
    have hKx := va_K.moved hvm.symm hKx1
    obtain ⟨hPm, hDx, hap⟩ := twoc hPm hap hk1 hFc hDx1
    have hPx := hPx1
    have hIx := hIx1
    clear hPx1 hIx1 hKx1 hDx1
    generalize wx1 = wx at hPx hIx hDx hap
    generalize cA1 = cA at hIx hKx
    refine lv_aload_n hx hb d_L_law_186 rfl (lv_at hl 2 rfl) ?_
    refine lv_aload_n hx hb d_L_law_187 rfl (lv_at hl 0 rfl) ?_
    refine lv_iload_n hx hb d_L_law_188 rfl (lv_at hl 3 rfl) ?_
    refine lv_iconst (v := 1) hx hb d_L_law_189 (by decide) ?_
    refine lv_iadd hx hb d_L_law_190 ?_
    refine va_sld hx hb hX hbl hbA hS hin1 d_L_law_191 ?_
    refine lv_aload_n hx hb d_L_law_192 rfl (lv_at hl 0 rfl) ?_
    refine lv_iload_n hx hb d_L_law_193 rfl (lv_at hl 3 rfl) ?_
    refine lv_iconst (v := 2) hx hb d_L_law_194 (by decide) ?_
    refine lv_iadd hx hb d_L_law_195 ?_
    refine va_sld hx hb hX hbl hbA hS hin2 d_L_law_196 ?_
    refine lv_if_eq (tgt := 204) hx hb d_L_law_197 (by decide) (fun c9 => absurd c9 c_1) (fun _ => ?_)
    refine lv_iconst (v := 1) hx hb d_L_law_200 (by decide) ?_
    refine lv_goto (tgt := 205) hx hb d_L_law_201 (by decide) ?_
    have hFc := freew hDm hS hA
    obtain ⟨kx, fsx, hkx⟩ := IM_at hIm
    refine va_calli (va_runV (As := [.int (xs (nI i + 1).toNatClampNeg), .int 1]) (rest := [.int rx]) ⟨hx, hb, hml, hown, hts⟩ (c_M_counter l D q2 _ v wm tm hIm (hDm.weaken (fun _ _ _ _ => trivial)) (xs (nI i + 1).toNatClampNeg) 1) (cwV 2 hts gL_27 rfl rfl rfl (by decide +kernel) ⟨Nat.le_of_ble_eq_true rfl, Nat.le_of_ble_eq_true rfl⟩) (preVZ hPm hKm hN (va_recv hKm hPm (ci := 2) (q0 := kx) rfl hkx)) rfl rfl hl.1 rfl (lv_room (Nat.le_of_ble_eq_true rfl)) d_L_law_205 ⟨by omega, by omega⟩) hS (fun q _ h => hFc q h) hFc (fun rm z2 t H1 locs ht hvm hwm hB hz1 hk1 hS => ?_)
    obtain ⟨hwm, rfl⟩ := hwm
    obtain ⟨wm1, tm1, hIm1, hPm1, hKm1, hDm1⟩ := hB
    rw [ht] at hPm1
    have hKm := va_K.moved hvm.symm hKm1
    obtain ⟨hPx, hDm, hap⟩ := twoc hPx hap.symm hk1 hFc hDm1
    have hap := hap.symm
    have hPm := hPm1
    have hIm := hIm1
    clear hPm1 hIm1 hKm1 hDm1
    generalize wm1 = wm at hPm hIm hDm hap
    generalize tm1 = tm at hIm hKm
    have hrel := rel_counter hRel (xs (nI i + 1).toNatClampNeg) 1
    refine lv_icmp_eq (tgt := 519) hx hb d_L_law_208 (by decide) (fun _ => ?_) (fun c9 => absurd (hwx.trans (hrel.1.trans hwm.symm)) c9)
    refine W.cs (cells' := cells + 0) (slots' := slots + 0) (by omega) (by omega) ?_
    exact next _ _ _ _ ⟨wx, wm, cA, tm, hIx, hIm, hPx, hPm, hDx, hDm, hap, hKx, hKm, hS, hrel.2⟩
set_option maxHeartbeats 4000000 in
set_option maxRecDepth 100000 in
theorem law_state {p : Program} {l : Launch} {e : Env} {s : State} {m : MethodId} {below : List Frame} {meth : Method} {c : Code} {D : va_G} {b L : Nat} {xs : Nat → Int32} (hL : L ≤ 2048) (C0 : lw_At p s m meth c b L xs) (hN : NK s) {i q1 q2 : Nat} (hi : i + 4 ≤ L) {u : XS} {v : MS} {H : Heap} {locs : List Loc} (hV : LInv D s q1 q2 u v H locs) {cells slots : Nat} (hcc : cells + 0 ≤ room_1.cells) (hss : slots + 0 ≤ room_1.slots) {ls : Array Slot} (hl : lv_has ls 4 [(0, .ref b), (1, .ref q1), (2, .ref q2), (3, .int (nI i))])
    (next : ∀ (u2 : XS) (v2 : MS) (H : Heap) (locs : List Loc), LInv D s q1 q2 u2 v2 H locs → W p l e room_1 s m #[Value.ref b] below meth c H locs (cells + 0) (slots + 0) (lw_Z below #[Value.ref b] s) (F0 m 519 ls [])) :
    W p l e room_1 s m #[Value.ref b] below meth c H locs cells slots (lw_Z below #[Value.ref b] s) (F0 m 213 ls []) := by
  obtain ⟨hx, hb, hr, hml, hown, hts, hX, hbl, hlocks, hgv⟩ := C0
  have hA : ∀ q : Nat, s.heap.size ≤ q → (fun q : Nat => s.heap.size ≤ q) q := fun _ h => h
  have hbA : ¬ (fun q : Nat => s.heap.size ≤ q) b := Nat.not_le.mpr hbl
  have hin0 : vp_in (nI i) L := vp_in_nI (by omega) (by omega)
  have hin1 : vp_in (nI i + 1) L := by rw [show nI i + 1 = nI (i + 1) from nI_add i 1]; exact vp_in_nI (by omega) (by omega)
  have hin2 : vp_in (nI i + 2) L := by rw [show nI i + 2 = nI (i + 2) from nI_add i 2]; exact vp_in_nI (by omega) (by omega)
  have hin3 : vp_in (nI i + 3) L := by rw [show nI i + 3 = nI (i + 3) from nI_add i 3]; exact vp_in_nI (by omega) (by omega)
  obtain ⟨wx, wm, cA, tm, hIx, hIm, hPx, hPm, hDx, hDm, hap, hKx, hKm, hS, hRel⟩ := hV
  refine lv_aload_n hx hb d_L_law_213 rfl (lv_at hl 1 rfl) ?_
  refine lv_aload_n hx hb d_L_law_214 rfl (lv_at hl 0 rfl) ?_
  refine lv_iload_n hx hb d_L_law_215 rfl (lv_at hl 3 rfl) ?_
  refine lv_iconst (v := 1) hx hb d_L_law_216 (by decide) ?_
  refine lv_iadd hx hb d_L_law_217 ?_
  refine va_sld hx hb hX hbl hbA hS hin1 d_L_law_218 ?_
  have hFc := freew hDx hS hA
  obtain ⟨kx, fsx, hkx⟩ := IX_at hIx
  refine va_calli (va_runV (As := [.int (xs (nI i + 1).toNatClampNeg)]) (rest := []) ⟨hx, hb, hml, hown, hts⟩ (c_X_state l D q1 _ u wx cA hIx (hDx.weaken (fun _ _ _ _ => trivial)) (xs (nI i + 1).toNatClampNeg)) (cwV 1 hts gL_28 rfl rfl rfl (by decide +kernel) ⟨Nat.le_of_ble_eq_true rfl, Nat.le_of_ble_eq_true rfl⟩) (preVZ hPx hKx hN (va_recv hKx hPx (ci := 1) (q0 := kx) rfl hkx)) rfl rfl hl.1 rfl (lv_room (Nat.le_of_ble_eq_true rfl)) d_L_law_219 ⟨by omega, by omega⟩) hS (fun q _ h => hFc q h) hFc (fun rx z2 t H1 locs ht hvm hwx hB hz1 hk1 hS => ?_)
  obtain ⟨hwx, rfl⟩ := hwx
  obtain ⟨wx1, cA1, hIx1, hPx1, hKx1, hDx1⟩ := hB
  rw [ht] at hPx1
  have hKx := va_K.moved hvm.symm hKx1
  obtain ⟨hPm, hDx, hap⟩ := twoc hPm hap hk1 hFc hDx1
  have hPx := hPx1
  have hIx := hIx1
  clear hPx1 hIx1 hKx1 hDx1
  generalize wx1 = wx at hPx hIx hDx hap
  generalize cA1 = cA at hIx hKx
  refine lv_aload_n hx hb d_L_law_222 rfl (lv_at hl 2 rfl) ?_
  refine lv_aload_n hx hb d_L_law_223 rfl (lv_at hl 0 rfl) ?_
  refine lv_iload_n hx hb d_L_law_224 rfl (lv_at hl 3 rfl) ?_
  refine lv_iconst (v := 1) hx hb d_L_law_225 (by decide) ?_
  refine lv_iadd hx hb d_L_law_226 ?_
  refine va_sld hx hb hX hbl hbA hS hin1 d_L_law_227 ?_
  have hFc := freew hDm hS hA
  obtain ⟨kx, fsx, hkx⟩ := IM_at hIm
  refine va_calli (va_runV (As := [.int (xs (nI i + 1).toNatClampNeg)]) (rest := [.int rx]) ⟨hx, hb, hml, hown, hts⟩ (c_M_state l D q2 _ v wm tm hIm (hDm.weaken (fun _ _ _ _ => trivial)) (xs (nI i + 1).toNatClampNeg)) (cwV 1 hts gL_32 rfl rfl rfl (by decide +kernel) ⟨Nat.le_of_ble_eq_true rfl, Nat.le_of_ble_eq_true rfl⟩) (preVZ hPm hKm hN (va_recv hKm hPm (ci := 2) (q0 := kx) rfl hkx)) rfl rfl hl.1 rfl (lv_room (Nat.le_of_ble_eq_true rfl)) d_L_law_228 ⟨by omega, by omega⟩) hS (fun q _ h => hFc q h) hFc (fun rm z2 t H1 locs ht hvm hwm hB hz1 hk1 hS => ?_)
  obtain ⟨hwm, rfl⟩ := hwm
  obtain ⟨wm1, tm1, hIm1, hPm1, hKm1, hDm1⟩ := hB
  rw [ht] at hPm1
  have hKm := va_K.moved hvm.symm hKm1
  obtain ⟨hPx, hDm, hap⟩ := twoc hPx hap.symm hk1 hFc hDm1
  have hap := hap.symm
  have hPm := hPm1
  have hIm := hIm1
  clear hPm1 hIm1 hKm1 hDm1
  generalize wm1 = wm at hPm hIm hDm hap
  generalize tm1 = tm at hIm hKm
  have hrel := rel_state hRel (xs (nI i + 1).toNatClampNeg)
  refine lv_icmp_eq (tgt := 519) hx hb d_L_law_231 (by decide) (fun _ => ?_) (fun c9 => absurd (hwx.trans (hrel.1.trans hwm.symm)) c9)
  refine W.cs (cells' := cells + 0) (slots' := slots + 0) (by omega) (by omega) ?_
  exact next _ _ _ _ ⟨wx, wm, cA, tm, hIx, hIm, hPx, hPm, hDx, hDm, hap, hKx, hKm, hS, hrel.2⟩
set_option maxHeartbeats 4000000 in
set_option maxRecDepth 100000 in
theorem law_recover {p : Program} {l : Launch} {e : Env} {s : State} {m : MethodId} {below : List Frame} {meth : Method} {c : Code} {D : va_G} {b L : Nat} {xs : Nat → Int32} (hL : L ≤ 2048) (C0 : lw_At p s m meth c b L xs) (hN : NK s) {i q1 q2 : Nat} (hi : i + 4 ≤ L) {u : XS} {v : MS} {H : Heap} {locs : List Loc} (hV : LInv D s q1 q2 u v H locs) {cells slots : Nat} (hcc : cells + 0 ≤ room_1.cells) (hss : slots + 0 ≤ room_1.slots) {ls : Array Slot} (hl : lv_has ls 4 [(0, .ref b), (1, .ref q1), (2, .ref q2), (3, .int (nI i))])
    (next : ∀ (u2 : XS) (v2 : MS) (H : Heap) (locs : List Loc), LInv D s q1 q2 u2 v2 H locs → W p l e room_1 s m #[Value.ref b] below meth c H locs (cells + 0) (slots + 0) (lw_Z below #[Value.ref b] s) (F0 m 519 ls [])) :
    W p l e room_1 s m #[Value.ref b] below meth c H locs cells slots (lw_Z below #[Value.ref b] s) (F0 m 236 ls []) := by
  obtain ⟨hx, hb, hr, hml, hown, hts, hX, hbl, hlocks, hgv⟩ := C0
  have hA : ∀ q : Nat, s.heap.size ≤ q → (fun q : Nat => s.heap.size ≤ q) q := fun _ h => h
  have hbA : ¬ (fun q : Nat => s.heap.size ≤ q) b := Nat.not_le.mpr hbl
  have hin0 : vp_in (nI i) L := vp_in_nI (by omega) (by omega)
  have hin1 : vp_in (nI i + 1) L := by rw [show nI i + 1 = nI (i + 1) from nI_add i 1]; exact vp_in_nI (by omega) (by omega)
  have hin2 : vp_in (nI i + 2) L := by rw [show nI i + 2 = nI (i + 2) from nI_add i 2]; exact vp_in_nI (by omega) (by omega)
  have hin3 : vp_in (nI i + 3) L := by rw [show nI i + 3 = nI (i + 3) from nI_add i 3]; exact vp_in_nI (by omega) (by omega)
  obtain ⟨wx, wm, cA, tm, hIx, hIm, hPx, hPm, hDx, hDm, hap, hKx, hKm, hS, hRel⟩ := hV
  refine lv_aload_n hx hb d_L_law_236 rfl (lv_at hl 1 rfl) ?_
  refine lv_aload_n hx hb d_L_law_237 rfl (lv_at hl 0 rfl) ?_
  refine lv_iload_n hx hb d_L_law_238 rfl (lv_at hl 3 rfl) ?_
  refine lv_iconst (v := 1) hx hb d_L_law_239 (by decide) ?_
  refine lv_iadd hx hb d_L_law_240 ?_
  refine va_sld hx hb hX hbl hbA hS hin1 d_L_law_241 ?_
  refine lv_aload_n hx hb d_L_law_242 rfl (lv_at hl 0 rfl) ?_
  refine lv_iload_n hx hb d_L_law_243 rfl (lv_at hl 3 rfl) ?_
  refine lv_iconst (v := 2) hx hb d_L_law_244 (by decide) ?_
  refine lv_iadd hx hb d_L_law_245 ?_
  refine va_sld hx hb hX hbl hbA hS hin2 d_L_law_246 ?_
  have hFc := freew hDx hS hA
  obtain ⟨kx, fsx, hkx⟩ := IX_at hIx
  refine va_calli (va_runV (As := [.int (xs (nI i + 1).toNatClampNeg), .int (xs (nI i + 2).toNatClampNeg)]) (rest := []) ⟨hx, hb, hml, hown, hts⟩ (c_X_recover l D q1 _ u wx cA hIx (hDx.weaken (fun _ _ _ _ => trivial)) (xs (nI i + 1).toNatClampNeg) (xs (nI i + 2).toNatClampNeg)) (cwV 2 hts gL_33 rfl rfl rfl (by decide +kernel) ⟨Nat.le_of_ble_eq_true rfl, Nat.le_of_ble_eq_true rfl⟩) (preVZ hPx hKx hN (va_recv hKx hPx (ci := 1) (q0 := kx) rfl hkx)) rfl rfl hl.1 rfl (lv_room (Nat.le_of_ble_eq_true rfl)) d_L_law_247 ⟨by omega, by omega⟩) hS (fun q _ h => hFc q h) hFc (fun rx z2 t H1 locs ht hvm hwx hB hz1 hk1 hS => ?_)
  obtain ⟨hwx, rfl⟩ := hwx
  obtain ⟨wx1, cA1, hIx1, hPx1, hKx1, hDx1⟩ := hB
  rw [ht] at hPx1
  have hKx := va_K.moved hvm.symm hKx1
  obtain ⟨hPm, hDx, hap⟩ := twoc hPm hap hk1 hFc hDx1
  have hPx := hPx1
  have hIx := hIx1
  clear hPx1 hIx1 hKx1 hDx1
  generalize wx1 = wx at hPx hIx hDx hap
  generalize cA1 = cA at hIx hKx
  refine lv_aload_n hx hb d_L_law_250 rfl (lv_at hl 2 rfl) ?_
  refine lv_aload_n hx hb d_L_law_251 rfl (lv_at hl 0 rfl) ?_
  refine lv_iload_n hx hb d_L_law_252 rfl (lv_at hl 3 rfl) ?_
  refine lv_iconst (v := 1) hx hb d_L_law_253 (by decide) ?_
  refine lv_iadd hx hb d_L_law_254 ?_
  refine va_sld hx hb hX hbl hbA hS hin1 d_L_law_255 ?_
  refine lv_aload_n hx hb d_L_law_256 rfl (lv_at hl 0 rfl) ?_
  refine lv_iload_n hx hb d_L_law_257 rfl (lv_at hl 3 rfl) ?_
  refine lv_iconst (v := 2) hx hb d_L_law_258 (by decide) ?_
  refine lv_iadd hx hb d_L_law_259 ?_
  refine va_sld hx hb hX hbl hbA hS hin2 d_L_law_260 ?_
  have hFc := freew hDm hS hA
  obtain ⟨kx, fsx, hkx⟩ := IM_at hIm
  refine va_calli (va_runV (As := [.int (xs (nI i + 1).toNatClampNeg), .int (xs (nI i + 2).toNatClampNeg)]) (rest := [.int rx]) ⟨hx, hb, hml, hown, hts⟩ (c_M_recover l D q2 _ v wm tm hIm (hDm.weaken (fun _ _ _ _ => trivial)) (xs (nI i + 1).toNatClampNeg) (xs (nI i + 2).toNatClampNeg)) (cwV 2 hts gL_37 rfl rfl rfl (by decide +kernel) ⟨Nat.le_of_ble_eq_true rfl, Nat.le_of_ble_eq_true rfl⟩) (preVZ hPm hKm hN (va_recv hKm hPm (ci := 2) (q0 := kx) rfl hkx)) rfl rfl hl.1 rfl (lv_room (Nat.le_of_ble_eq_true rfl)) d_L_law_261 ⟨by omega, by omega⟩) hS (fun q _ h => hFc q h) hFc (fun rm z2 t H1 locs ht hvm hwm hB hz1 hk1 hS => ?_)
  obtain ⟨hwm, rfl⟩ := hwm
  obtain ⟨wm1, tm1, hIm1, hPm1, hKm1, hDm1⟩ := hB
  rw [ht] at hPm1
  have hKm := va_K.moved hvm.symm hKm1
  obtain ⟨hPx, hDm, hap⟩ := twoc hPx hap.symm hk1 hFc hDm1
  have hap := hap.symm
  have hPm := hPm1
  have hIm := hIm1
  clear hPm1 hIm1 hKm1 hDm1
  generalize wm1 = wm at hPm hIm hDm hap
  generalize tm1 = tm at hIm hKm
  have hrel := rel_recover hRel (xs (nI i + 1).toNatClampNeg) (xs (nI i + 2).toNatClampNeg)
  refine lv_icmp_eq (tgt := 519) hx hb d_L_law_264 (by decide) (fun _ => ?_) (fun c9 => absurd (hwx.trans (hrel.1.trans hwm.symm)) c9)
  refine W.cs (cells' := cells + 0) (slots' := slots + 0) (by omega) (by omega) ?_
  exact next _ _ _ _ ⟨wx, wm, cA, tm, hIx, hIm, hPx, hPm, hDx, hDm, hap, hKx, hKm, hS, hrel.2⟩
set_option maxHeartbeats 4000000 in
set_option maxRecDepth 100000 in
theorem law_flag {p : Program} {l : Launch} {e : Env} {s : State} {m : MethodId} {below : List Frame} {meth : Method} {c : Code} {D : va_G} {b L : Nat} {xs : Nat → Int32} (hL : L ≤ 2048) (C0 : lw_At p s m meth c b L xs) (hN : NK s) {i q1 q2 : Nat} (hi : i + 4 ≤ L) {u : XS} {v : MS} {H : Heap} {locs : List Loc} (hV : LInv D s q1 q2 u v H locs) {cells slots : Nat} (hcc : cells + 0 ≤ room_1.cells) (hss : slots + 0 ≤ room_1.slots) {ls : Array Slot} (hl : lv_has ls 4 [(0, .ref b), (1, .ref q1), (2, .ref q2), (3, .int (nI i))])
    (next : ∀ (u2 : XS) (v2 : MS) (H : Heap) (locs : List Loc), LInv D s q1 q2 u2 v2 H locs → W p l e room_1 s m #[Value.ref b] below meth c H locs (cells + 0) (slots + 0) (lw_Z below #[Value.ref b] s) (F0 m 519 ls [])) :
    W p l e room_1 s m #[Value.ref b] below meth c H locs cells slots (lw_Z below #[Value.ref b] s) (F0 m 269 ls []) := by
  obtain ⟨hx, hb, hr, hml, hown, hts, hX, hbl, hlocks, hgv⟩ := C0
  have hA : ∀ q : Nat, s.heap.size ≤ q → (fun q : Nat => s.heap.size ≤ q) q := fun _ h => h
  have hbA : ¬ (fun q : Nat => s.heap.size ≤ q) b := Nat.not_le.mpr hbl
  have hin0 : vp_in (nI i) L := vp_in_nI (by omega) (by omega)
  have hin1 : vp_in (nI i + 1) L := by rw [show nI i + 1 = nI (i + 1) from nI_add i 1]; exact vp_in_nI (by omega) (by omega)
  have hin2 : vp_in (nI i + 2) L := by rw [show nI i + 2 = nI (i + 2) from nI_add i 2]; exact vp_in_nI (by omega) (by omega)
  have hin3 : vp_in (nI i + 3) L := by rw [show nI i + 3 = nI (i + 3) from nI_add i 3]; exact vp_in_nI (by omega) (by omega)
  obtain ⟨wx, wm, cA, tm, hIx, hIm, hPx, hPm, hDx, hDm, hap, hKx, hKm, hS, hRel⟩ := hV
  refine lv_aload_n hx hb d_L_law_269 rfl (lv_at hl 1 rfl) ?_
  refine lv_aload_n hx hb d_L_law_270 rfl (lv_at hl 0 rfl) ?_
  refine lv_iload_n hx hb d_L_law_271 rfl (lv_at hl 3 rfl) ?_
  refine lv_iconst (v := 1) hx hb d_L_law_272 (by decide) ?_
  refine lv_iadd hx hb d_L_law_273 ?_
  refine va_sld hx hb hX hbl hbA hS hin1 d_L_law_274 ?_
  have hFc := freew hDx hS hA
  obtain ⟨kx, fsx, hkx⟩ := IX_at hIx
  refine va_calli (va_runV (As := [.int (xs (nI i + 1).toNatClampNeg)]) (rest := []) ⟨hx, hb, hml, hown, hts⟩ (c_X_flag l D q1 _ u wx cA hIx (hDx.weaken (fun _ _ _ _ => trivial)) (xs (nI i + 1).toNatClampNeg)) (cwV 1 hts gL_38 rfl rfl rfl (by decide +kernel) ⟨Nat.le_of_ble_eq_true rfl, Nat.le_of_ble_eq_true rfl⟩) (preVZ hPx hKx hN (va_recv hKx hPx (ci := 1) (q0 := kx) rfl hkx)) rfl rfl hl.1 rfl (lv_room (Nat.le_of_ble_eq_true rfl)) d_L_law_275 ⟨by omega, by omega⟩) hS (fun q _ h => hFc q h) hFc (fun rx z2 t H1 locs ht hvm hwx hB hz1 hk1 hS => ?_)
  obtain ⟨hwx, rfl⟩ := hwx
  obtain ⟨wx1, cA1, hIx1, hPx1, hKx1, hDx1⟩ := hB
  rw [ht] at hPx1
  have hKx := va_K.moved hvm.symm hKx1
  obtain ⟨hPm, hDx, hap⟩ := twoc hPm hap hk1 hFc hDx1
  have hPx := hPx1
  have hIx := hIx1
  clear hPx1 hIx1 hKx1 hDx1
  generalize wx1 = wx at hPx hIx hDx hap
  generalize cA1 = cA at hIx hKx
  refine lv_aload_n hx hb d_L_law_278 rfl (lv_at hl 2 rfl) ?_
  refine lv_aload_n hx hb d_L_law_279 rfl (lv_at hl 0 rfl) ?_
  refine lv_iload_n hx hb d_L_law_280 rfl (lv_at hl 3 rfl) ?_
  refine lv_iconst (v := 1) hx hb d_L_law_281 (by decide) ?_
  refine lv_iadd hx hb d_L_law_282 ?_
  refine va_sld hx hb hX hbl hbA hS hin1 d_L_law_283 ?_
  have hFc := freew hDm hS hA
  obtain ⟨kx, fsx, hkx⟩ := IM_at hIm
  refine va_calli (va_runV (As := [.int (xs (nI i + 1).toNatClampNeg)]) (rest := [.int rx]) ⟨hx, hb, hml, hown, hts⟩ (c_M_flag l D q2 _ v wm tm hIm (hDm.weaken (fun _ _ _ _ => trivial)) (xs (nI i + 1).toNatClampNeg)) (cwV 1 hts gL_41 rfl rfl rfl (by decide +kernel) ⟨Nat.le_of_ble_eq_true rfl, Nat.le_of_ble_eq_true rfl⟩) (preVZ hPm hKm hN (va_recv hKm hPm (ci := 2) (q0 := kx) rfl hkx)) rfl rfl hl.1 rfl (lv_room (Nat.le_of_ble_eq_true rfl)) d_L_law_284 ⟨by omega, by omega⟩) hS (fun q _ h => hFc q h) hFc (fun rm z2 t H1 locs ht hvm hwm hB hz1 hk1 hS => ?_)
  obtain ⟨hwm, rfl⟩ := hwm
  obtain ⟨wm1, tm1, hIm1, hPm1, hKm1, hDm1⟩ := hB
  rw [ht] at hPm1
  have hKm := va_K.moved hvm.symm hKm1
  obtain ⟨hPx, hDm, hap⟩ := twoc hPx hap.symm hk1 hFc hDm1
  have hap := hap.symm
  have hPm := hPm1
  have hIm := hIm1
  clear hPm1 hIm1 hKm1 hDm1
  generalize wm1 = wm at hPm hIm hDm hap
  generalize tm1 = tm at hIm hKm
  have hrel := rel_flag hRel (xs (nI i + 1).toNatClampNeg)
  refine lv_icmp_eq (tgt := 519) hx hb d_L_law_287 (by decide) (fun _ => ?_) (fun c9 => absurd (hwx.trans (hrel.1.trans hwm.symm)) c9)
  refine W.cs (cells' := cells + 0) (slots' := slots + 0) (by omega) (by omega) ?_
  exact next _ _ _ _ ⟨wx, wm, cA, tm, hIx, hIm, hPx, hPm, hDx, hDm, hap, hKx, hKm, hS, hrel.2⟩
set_option maxHeartbeats 4000000 in
set_option maxRecDepth 100000 in
theorem law_manager {p : Program} {l : Launch} {e : Env} {s : State} {m : MethodId} {below : List Frame} {meth : Method} {c : Code} {D : va_G} {b L : Nat} {xs : Nat → Int32} (hL : L ≤ 2048) (C0 : lw_At p s m meth c b L xs) (hN : NK s) {i q1 q2 : Nat} (hi : i + 4 ≤ L) {u : XS} {v : MS} {H : Heap} {locs : List Loc} (hV : LInv D s q1 q2 u v H locs) {cells slots : Nat} (hcc : cells + 0 ≤ room_1.cells) (hss : slots + 0 ≤ room_1.slots) {ls : Array Slot} (hl : lv_has ls 4 [(0, .ref b), (1, .ref q1), (2, .ref q2), (3, .int (nI i))])
    (next : ∀ (u2 : XS) (v2 : MS) (H : Heap) (locs : List Loc), LInv D s q1 q2 u2 v2 H locs → W p l e room_1 s m #[Value.ref b] below meth c H locs (cells + 0) (slots + 0) (lw_Z below #[Value.ref b] s) (F0 m 519 ls [])) :
    W p l e room_1 s m #[Value.ref b] below meth c H locs cells slots (lw_Z below #[Value.ref b] s) (F0 m 292 ls []) := by
  obtain ⟨hx, hb, hr, hml, hown, hts, hX, hbl, hlocks, hgv⟩ := C0
  have hA : ∀ q : Nat, s.heap.size ≤ q → (fun q : Nat => s.heap.size ≤ q) q := fun _ h => h
  have hbA : ¬ (fun q : Nat => s.heap.size ≤ q) b := Nat.not_le.mpr hbl
  have hin0 : vp_in (nI i) L := vp_in_nI (by omega) (by omega)
  have hin1 : vp_in (nI i + 1) L := by rw [show nI i + 1 = nI (i + 1) from nI_add i 1]; exact vp_in_nI (by omega) (by omega)
  have hin2 : vp_in (nI i + 2) L := by rw [show nI i + 2 = nI (i + 2) from nI_add i 2]; exact vp_in_nI (by omega) (by omega)
  have hin3 : vp_in (nI i + 3) L := by rw [show nI i + 3 = nI (i + 3) from nI_add i 3]; exact vp_in_nI (by omega) (by omega)
  obtain ⟨wx, wm, cA, tm, hIx, hIm, hPx, hPm, hDx, hDm, hap, hKx, hKm, hS, hRel⟩ := hV
  refine lv_aload_n hx hb d_L_law_292 rfl (lv_at hl 1 rfl) ?_
  refine lv_aload_n hx hb d_L_law_293 rfl (lv_at hl 0 rfl) ?_
  refine lv_iload_n hx hb d_L_law_294 rfl (lv_at hl 3 rfl) ?_
  refine lv_iconst (v := 1) hx hb d_L_law_295 (by decide) ?_
  refine lv_iadd hx hb d_L_law_296 ?_
  refine va_sld hx hb hX hbl hbA hS hin1 d_L_law_297 ?_
  refine lv_aload_n hx hb d_L_law_298 rfl (lv_at hl 0 rfl) ?_
  refine lv_iload_n hx hb d_L_law_299 rfl (lv_at hl 3 rfl) ?_
  refine lv_iconst (v := 2) hx hb d_L_law_300 (by decide) ?_
  refine lv_iadd hx hb d_L_law_301 ?_
  refine va_sld hx hb hX hbl hbA hS hin2 d_L_law_302 ?_
  refine lv_i2l (v := (xs (nI i + 2).toNatClampNeg).toInt64) hx hb d_L_law_303 rfl ?_
  refine lv_bipush (v := 32) hx hb d_L_law_304 (by decide) ?_
  refine lv_lshl (v := ((xs (nI i + 2).toNatClampNeg).toInt64) <<< ((32 : Int32).toInt64 &&& 63)) hx hb d_L_law_306 rfl ?_
  refine lv_aload_n hx hb d_L_law_307 rfl (lv_at hl 0 rfl) ?_
  refine lv_iload_n hx hb d_L_law_308 rfl (lv_at hl 3 rfl) ?_
  refine lv_iconst (v := 3) hx hb d_L_law_309 (by decide) ?_
  refine lv_iadd hx hb d_L_law_310 ?_
  refine va_sld hx hb hX hbl hbA hS hin3 d_L_law_311 ?_
  refine lv_i2l (v := (xs (nI i + 3).toNatClampNeg).toInt64) hx hb d_L_law_312 rfl ?_
  refine lv_ldc2 (v := 4294967295) hx hb hown (hts _ (big_tbl _ k_L_42).1) d_L_law_313 ?_
  refine lv_land hx hb d_L_law_316 ?_
  refine lv_lor hx hb d_L_law_317 ?_
  have hFc := freew hDx hS hA
  obtain ⟨kx, fsx, hkx⟩ := IX_at hIx
  refine va_calli (va_runV (As := [.int (xs (nI i + 1).toNatClampNeg), .long ((((xs (nI i + 2).toNatClampNeg).toInt64) <<< ((32 : Int32).toInt64 &&& 63)) ||| (((xs (nI i + 3).toNatClampNeg).toInt64) &&& 4294967295))]) (rest := []) ⟨hx, hb, hml, hown, hts⟩ (c_X_manager l D q1 _ u wx cA hIx (hDx.weaken (fun _ _ _ _ => trivial)) (xs (nI i + 1).toNatClampNeg) ((((xs (nI i + 2).toNatClampNeg).toInt64) <<< ((32 : Int32).toInt64 &&& 63)) ||| (((xs (nI i + 3).toNatClampNeg).toInt64) &&& 4294967295)) hRel.hz) (cwV 2 hts gL_44 rfl rfl rfl (by decide +kernel) ⟨Nat.le_of_ble_eq_true rfl, Nat.le_of_ble_eq_true rfl⟩) (preVZ hPx hKx hN (va_recv hKx hPx (ci := 1) (q0 := kx) rfl hkx)) rfl rfl hl.1 rfl (lv_room (Nat.le_of_ble_eq_true rfl)) d_L_law_318 ⟨by omega, by omega⟩) hS (fun q _ h => hFc q h) hFc (fun rx z2 t H1 locs ht hvm hwx hB hz1 hk1 hS => ?_)
  obtain ⟨hwx, rfl⟩ := hwx
  obtain ⟨wx1, cA1, hIx1, hPx1, hKx1, hDx1⟩ := hB
  rw [ht] at hPx1
  have hKx := va_K.moved hvm.symm hKx1
  obtain ⟨hPm, hDx, hap⟩ := twoc hPm hap hk1 hFc hDx1
  have hPx := hPx1
  have hIx := hIx1
  clear hPx1 hIx1 hKx1 hDx1
  generalize wx1 = wx at hPx hIx hDx hap
  generalize cA1 = cA at hIx hKx
  refine lv_aload_n hx hb d_L_law_321 rfl (lv_at hl 2 rfl) ?_
  refine lv_aload_n hx hb d_L_law_322 rfl (lv_at hl 0 rfl) ?_
  refine lv_iload_n hx hb d_L_law_323 rfl (lv_at hl 3 rfl) ?_
  refine lv_iconst (v := 1) hx hb d_L_law_324 (by decide) ?_
  refine lv_iadd hx hb d_L_law_325 ?_
  refine va_sld hx hb hX hbl hbA hS hin1 d_L_law_326 ?_
  refine lv_aload_n hx hb d_L_law_327 rfl (lv_at hl 0 rfl) ?_
  refine lv_iload_n hx hb d_L_law_328 rfl (lv_at hl 3 rfl) ?_
  refine lv_iconst (v := 2) hx hb d_L_law_329 (by decide) ?_
  refine lv_iadd hx hb d_L_law_330 ?_
  refine va_sld hx hb hX hbl hbA hS hin2 d_L_law_331 ?_
  refine lv_i2l (v := (xs (nI i + 2).toNatClampNeg).toInt64) hx hb d_L_law_332 rfl ?_
  refine lv_bipush (v := 32) hx hb d_L_law_333 (by decide) ?_
  refine lv_lshl (v := ((xs (nI i + 2).toNatClampNeg).toInt64) <<< ((32 : Int32).toInt64 &&& 63)) hx hb d_L_law_335 rfl ?_
  refine lv_aload_n hx hb d_L_law_336 rfl (lv_at hl 0 rfl) ?_
  refine lv_iload_n hx hb d_L_law_337 rfl (lv_at hl 3 rfl) ?_
  refine lv_iconst (v := 3) hx hb d_L_law_338 (by decide) ?_
  refine lv_iadd hx hb d_L_law_339 ?_
  refine va_sld hx hb hX hbl hbA hS hin3 d_L_law_340 ?_
  refine lv_i2l (v := (xs (nI i + 3).toNatClampNeg).toInt64) hx hb d_L_law_341 rfl ?_
  refine lv_ldc2 (v := 4294967295) hx hb hown (hts _ (big_tbl _ k_L_42).1) d_L_law_342 ?_
  refine lv_land hx hb d_L_law_345 ?_
  refine lv_lor hx hb d_L_law_346 ?_
  have hFc := freew hDm hS hA
  obtain ⟨kx, fsx, hkx⟩ := IM_at hIm
  refine va_calli (va_runV (As := [.int (xs (nI i + 1).toNatClampNeg), .long ((((xs (nI i + 2).toNatClampNeg).toInt64) <<< ((32 : Int32).toInt64 &&& 63)) ||| (((xs (nI i + 3).toNatClampNeg).toInt64) &&& 4294967295))]) (rest := [.int rx]) ⟨hx, hb, hml, hown, hts⟩ (c_M_manager l D q2 _ v wm tm hIm (hDm.weaken (fun _ _ _ _ => trivial)) (xs (nI i + 1).toNatClampNeg) ((((xs (nI i + 2).toNatClampNeg).toInt64) <<< ((32 : Int32).toInt64 &&& 63)) ||| (((xs (nI i + 3).toNatClampNeg).toInt64) &&& 4294967295))) (cwV 2 hts gL_48 rfl rfl rfl (by decide +kernel) ⟨Nat.le_of_ble_eq_true rfl, Nat.le_of_ble_eq_true rfl⟩) (preVZ hPm hKm hN (va_recv hKm hPm (ci := 2) (q0 := kx) rfl hkx)) rfl rfl hl.1 rfl (lv_room (Nat.le_of_ble_eq_true rfl)) d_L_law_347 ⟨by omega, by omega⟩) hS (fun q _ h => hFc q h) hFc (fun rm z2 t H1 locs ht hvm hwm hB hz1 hk1 hS => ?_)
  obtain ⟨hwm, rfl⟩ := hwm
  obtain ⟨wm1, tm1, hIm1, hPm1, hKm1, hDm1⟩ := hB
  rw [ht] at hPm1
  have hKm := va_K.moved hvm.symm hKm1
  obtain ⟨hPx, hDm, hap⟩ := twoc hPx hap.symm hk1 hFc hDm1
  have hap := hap.symm
  have hPm := hPm1
  have hIm := hIm1
  clear hPm1 hIm1 hKm1 hDm1
  generalize wm1 = wm at hPm hIm hDm hap
  generalize tm1 = tm at hIm hKm
  have hrel := rel_manager hRel (xs (nI i + 1).toNatClampNeg) ((((xs (nI i + 2).toNatClampNeg).toInt64) <<< ((32 : Int32).toInt64 &&& 63)) ||| (((xs (nI i + 3).toNatClampNeg).toInt64) &&& 4294967295))
  refine lv_icmp_eq (tgt := 519) hx hb d_L_law_350 (by decide) (fun _ => ?_) (fun c9 => absurd (hwx.trans (hrel.1.trans hwm.symm)) c9)
  refine W.cs (cells' := cells + 0) (slots' := slots + 0) (by omega) (by omega) ?_
  exact next _ _ _ _ ⟨wx, wm, cA, tm, hIx, hIm, hPx, hPm, hDx, hDm, hap, hKx, hKm, hS, hrel.2⟩
set_option maxHeartbeats 4000000 in
set_option maxRecDepth 100000 in
theorem law_shot {p : Program} {l : Launch} {e : Env} {s : State} {m : MethodId} {below : List Frame} {meth : Method} {c : Code} {D : va_G} {b L : Nat} {xs : Nat → Int32} (hL : L ≤ 2048) (C0 : lw_At p s m meth c b L xs) (hN : NK s) {i q1 q2 : Nat} (hi : i + 4 ≤ L) {u : XS} {v : MS} {H : Heap} {locs : List Loc} (hV : LInv D s q1 q2 u v H locs) {cells slots : Nat} (hcc : cells + 0 ≤ room_1.cells) (hss : slots + 0 ≤ room_1.slots) {ls : Array Slot} (hl : lv_has ls 4 [(0, .ref b), (1, .ref q1), (2, .ref q2), (3, .int (nI i))])
    (next : ∀ (u2 : XS) (v2 : MS) (H : Heap) (locs : List Loc), LInv D s q1 q2 u2 v2 H locs → W p l e room_1 s m #[Value.ref b] below meth c H locs (cells + 0) (slots + 0) (lw_Z below #[Value.ref b] s) (F0 m 519 ls [])) :
    W p l e room_1 s m #[Value.ref b] below meth c H locs cells slots (lw_Z below #[Value.ref b] s) (F0 m 355 ls []) := by
  obtain ⟨hx, hb, hr, hml, hown, hts, hX, hbl, hlocks, hgv⟩ := C0
  have hA : ∀ q : Nat, s.heap.size ≤ q → (fun q : Nat => s.heap.size ≤ q) q := fun _ h => h
  have hbA : ¬ (fun q : Nat => s.heap.size ≤ q) b := Nat.not_le.mpr hbl
  have hin0 : vp_in (nI i) L := vp_in_nI (by omega) (by omega)
  have hin1 : vp_in (nI i + 1) L := by rw [show nI i + 1 = nI (i + 1) from nI_add i 1]; exact vp_in_nI (by omega) (by omega)
  have hin2 : vp_in (nI i + 2) L := by rw [show nI i + 2 = nI (i + 2) from nI_add i 2]; exact vp_in_nI (by omega) (by omega)
  have hin3 : vp_in (nI i + 3) L := by rw [show nI i + 3 = nI (i + 3) from nI_add i 3]; exact vp_in_nI (by omega) (by omega)
  obtain ⟨wx, wm, cA, tm, hIx, hIm, hPx, hPm, hDx, hDm, hap, hKx, hKm, hS, hRel⟩ := hV
  refine lv_aload_n hx hb d_L_law_355 rfl (lv_at hl 1 rfl) ?_
  refine lv_aload_n hx hb d_L_law_356 rfl (lv_at hl 0 rfl) ?_
  refine lv_iload_n hx hb d_L_law_357 rfl (lv_at hl 3 rfl) ?_
  refine lv_iconst (v := 1) hx hb d_L_law_358 (by decide) ?_
  refine lv_iadd hx hb d_L_law_359 ?_
  refine va_sld hx hb hX hbl hbA hS hin1 d_L_law_360 ?_
  refine lv_aload_n hx hb d_L_law_361 rfl (lv_at hl 0 rfl) ?_
  refine lv_iload_n hx hb d_L_law_362 rfl (lv_at hl 3 rfl) ?_
  refine lv_iconst (v := 2) hx hb d_L_law_363 (by decide) ?_
  refine lv_iadd hx hb d_L_law_364 ?_
  refine va_sld hx hb hX hbl hbA hS hin2 d_L_law_365 ?_
  refine lv_if_eq (tgt := 373) hx hb d_L_law_366 (by decide) (fun c_1 => ?_) (fun c_1 => ?_)
  · refine lv_iconst (v := 0) hx hb d_L_law_373 (by decide) ?_
    have hFc := freew hDx hS hA
    obtain ⟨kx, fsx, hkx⟩ := IX_at hIx
    refine va_calli (va_runV (As := [.int (xs (nI i + 1).toNatClampNeg), .int 0]) (rest := []) ⟨hx, hb, hml, hown, hts⟩ (c_X_shot l D q1 _ u wx cA hIx (hDx.weaken (fun _ _ _ _ => trivial)) (xs (nI i + 1).toNatClampNeg) 0 (Or.inl rfl)) (cwV 2 hts gL_49 rfl rfl rfl (by decide +kernel) ⟨Nat.le_of_ble_eq_true rfl, Nat.le_of_ble_eq_true rfl⟩) (preVZ hPx hKx hN (va_recv hKx hPx (ci := 1) (q0 := kx) rfl hkx)) rfl rfl hl.1 rfl (lv_room (Nat.le_of_ble_eq_true rfl)) d_L_law_374 ⟨by omega, by omega⟩) hS (fun q _ h => hFc q h) hFc (fun rx z2 t H1 locs ht hvm hwx hB hz1 hk1 hS => ?_)
    obtain ⟨hwx, rfl⟩ := hwx
    obtain ⟨wx1, cA1, hIx1, hPx1, hKx1, hDx1⟩ := hB
    rw [ht] at hPx1
    have hKx := va_K.moved hvm.symm hKx1
    obtain ⟨hPm, hDx, hap⟩ := twoc hPm hap hk1 hFc hDx1
    have hPx := hPx1
    have hIx := hIx1
    clear hPx1 hIx1 hKx1 hDx1
    generalize wx1 = wx at hPx hIx hDx hap
    generalize cA1 = cA at hIx hKx
    refine lv_aload_n hx hb d_L_law_377 rfl (lv_at hl 2 rfl) ?_
    refine lv_aload_n hx hb d_L_law_378 rfl (lv_at hl 0 rfl) ?_
    refine lv_iload_n hx hb d_L_law_379 rfl (lv_at hl 3 rfl) ?_
    refine lv_iconst (v := 1) hx hb d_L_law_380 (by decide) ?_
    refine lv_iadd hx hb d_L_law_381 ?_
    refine va_sld hx hb hX hbl hbA hS hin1 d_L_law_382 ?_
    refine lv_aload_n hx hb d_L_law_383 rfl (lv_at hl 0 rfl) ?_
    refine lv_iload_n hx hb d_L_law_384 rfl (lv_at hl 3 rfl) ?_
    refine lv_iconst (v := 2) hx hb d_L_law_385 (by decide) ?_
    refine lv_iadd hx hb d_L_law_386 ?_
    refine va_sld hx hb hX hbl hbA hS hin2 d_L_law_387 ?_
    refine lv_if_eq (tgt := 395) hx hb d_L_law_388 (by decide) (fun _ => ?_) (fun c9 => absurd c_1 c9)
    refine lv_iconst (v := 0) hx hb d_L_law_395 (by decide) ?_
    have hFc := freew hDm hS hA
    obtain ⟨kx, fsx, hkx⟩ := IM_at hIm
    refine va_calli (va_runV (As := [.int (xs (nI i + 1).toNatClampNeg), .int 0]) (rest := [.int rx]) ⟨hx, hb, hml, hown, hts⟩ (c_M_shot l D q2 _ v wm tm hIm (hDm.weaken (fun _ _ _ _ => trivial)) (xs (nI i + 1).toNatClampNeg) 0 (Or.inl rfl)) (cwV 2 hts gL_52 rfl rfl rfl (by decide +kernel) ⟨Nat.le_of_ble_eq_true rfl, Nat.le_of_ble_eq_true rfl⟩) (preVZ hPm hKm hN (va_recv hKm hPm (ci := 2) (q0 := kx) rfl hkx)) rfl rfl hl.1 rfl (lv_room (Nat.le_of_ble_eq_true rfl)) d_L_law_396 ⟨by omega, by omega⟩) hS (fun q _ h => hFc q h) hFc (fun rm z2 t H1 locs ht hvm hwm hB hz1 hk1 hS => ?_)
    obtain ⟨hwm, rfl⟩ := hwm
    obtain ⟨wm1, tm1, hIm1, hPm1, hKm1, hDm1⟩ := hB
    rw [ht] at hPm1
    have hKm := va_K.moved hvm.symm hKm1
    obtain ⟨hPx, hDm, hap⟩ := twoc hPx hap.symm hk1 hFc hDm1
    have hap := hap.symm
    have hPm := hPm1
    have hIm := hIm1
    clear hPm1 hIm1 hKm1 hDm1
    generalize wm1 = wm at hPm hIm hDm hap
    generalize tm1 = tm at hIm hKm
    have hrel := rel_shot hRel (xs (nI i + 1).toNatClampNeg) 0 (Or.inl rfl)
    refine lv_icmp_eq (tgt := 519) hx hb d_L_law_399 (by decide) (fun _ => ?_) (fun c9 => absurd (hwx.trans (hrel.1.trans hwm.symm)) c9)
    refine W.cs (cells' := cells + 0) (slots' := slots + 0) (by omega) (by omega) ?_
    exact next _ _ _ _ ⟨wx, wm, cA, tm, hIx, hIm, hPx, hPm, hDx, hDm, hap, hKx, hKm, hS, hrel.2⟩
  · refine lv_iconst (v := 1) hx hb d_L_law_369 (by decide) ?_
    refine lv_goto (tgt := 374) hx hb d_L_law_370 (by decide) ?_
    have hFc := freew hDx hS hA
    obtain ⟨kx, fsx, hkx⟩ := IX_at hIx
    refine va_calli (va_runV (As := [.int (xs (nI i + 1).toNatClampNeg), .int 1]) (rest := []) ⟨hx, hb, hml, hown, hts⟩ (c_X_shot l D q1 _ u wx cA hIx (hDx.weaken (fun _ _ _ _ => trivial)) (xs (nI i + 1).toNatClampNeg) 1 (Or.inr rfl)) (cwV 2 hts gL_49 rfl rfl rfl (by decide +kernel) ⟨Nat.le_of_ble_eq_true rfl, Nat.le_of_ble_eq_true rfl⟩) (preVZ hPx hKx hN (va_recv hKx hPx (ci := 1) (q0 := kx) rfl hkx)) rfl rfl hl.1 rfl (lv_room (Nat.le_of_ble_eq_true rfl)) d_L_law_374 ⟨by omega, by omega⟩) hS (fun q _ h => hFc q h) hFc (fun rx z2 t H1 locs ht hvm hwx hB hz1 hk1 hS => ?_)
    obtain ⟨hwx, rfl⟩ := hwx
    obtain ⟨wx1, cA1, hIx1, hPx1, hKx1, hDx1⟩ := hB
    rw [ht] at hPx1
    have hKx := va_K.moved hvm.symm hKx1
    obtain ⟨hPm, hDx, hap⟩ := twoc hPm hap hk1 hFc hDx1
    have hPx := hPx1
    have hIx := hIx1
    clear hPx1 hIx1 hKx1 hDx1
    generalize wx1 = wx at hPx hIx hDx hap
    generalize cA1 = cA at hIx hKx
    refine lv_aload_n hx hb d_L_law_377 rfl (lv_at hl 2 rfl) ?_
    refine lv_aload_n hx hb d_L_law_378 rfl (lv_at hl 0 rfl) ?_
    refine lv_iload_n hx hb d_L_law_379 rfl (lv_at hl 3 rfl) ?_
    refine lv_iconst (v := 1) hx hb d_L_law_380 (by decide) ?_
    refine lv_iadd hx hb d_L_law_381 ?_
    refine va_sld hx hb hX hbl hbA hS hin1 d_L_law_382 ?_
    refine lv_aload_n hx hb d_L_law_383 rfl (lv_at hl 0 rfl) ?_
    refine lv_iload_n hx hb d_L_law_384 rfl (lv_at hl 3 rfl) ?_
    refine lv_iconst (v := 2) hx hb d_L_law_385 (by decide) ?_
    refine lv_iadd hx hb d_L_law_386 ?_
    refine va_sld hx hb hX hbl hbA hS hin2 d_L_law_387 ?_
    refine lv_if_eq (tgt := 395) hx hb d_L_law_388 (by decide) (fun c9 => absurd c9 c_1) (fun _ => ?_)
    refine lv_iconst (v := 1) hx hb d_L_law_391 (by decide) ?_
    refine lv_goto (tgt := 396) hx hb d_L_law_392 (by decide) ?_
    have hFc := freew hDm hS hA
    obtain ⟨kx, fsx, hkx⟩ := IM_at hIm
    refine va_calli (va_runV (As := [.int (xs (nI i + 1).toNatClampNeg), .int 1]) (rest := [.int rx]) ⟨hx, hb, hml, hown, hts⟩ (c_M_shot l D q2 _ v wm tm hIm (hDm.weaken (fun _ _ _ _ => trivial)) (xs (nI i + 1).toNatClampNeg) 1 (Or.inr rfl)) (cwV 2 hts gL_52 rfl rfl rfl (by decide +kernel) ⟨Nat.le_of_ble_eq_true rfl, Nat.le_of_ble_eq_true rfl⟩) (preVZ hPm hKm hN (va_recv hKm hPm (ci := 2) (q0 := kx) rfl hkx)) rfl rfl hl.1 rfl (lv_room (Nat.le_of_ble_eq_true rfl)) d_L_law_396 ⟨by omega, by omega⟩) hS (fun q _ h => hFc q h) hFc (fun rm z2 t H1 locs ht hvm hwm hB hz1 hk1 hS => ?_)
    obtain ⟨hwm, rfl⟩ := hwm
    obtain ⟨wm1, tm1, hIm1, hPm1, hKm1, hDm1⟩ := hB
    rw [ht] at hPm1
    have hKm := va_K.moved hvm.symm hKm1
    obtain ⟨hPx, hDm, hap⟩ := twoc hPx hap.symm hk1 hFc hDm1
    have hap := hap.symm
    have hPm := hPm1
    have hIm := hIm1
    clear hPm1 hIm1 hKm1 hDm1
    generalize wm1 = wm at hPm hIm hDm hap
    generalize tm1 = tm at hIm hKm
    have hrel := rel_shot hRel (xs (nI i + 1).toNatClampNeg) 1 (Or.inr rfl)
    refine lv_icmp_eq (tgt := 519) hx hb d_L_law_399 (by decide) (fun _ => ?_) (fun c9 => absurd (hwx.trans (hrel.1.trans hwm.symm)) c9)
    refine W.cs (cells' := cells + 0) (slots' := slots + 0) (by omega) (by omega) ?_
    exact next _ _ _ _ ⟨wx, wm, cA, tm, hIx, hIm, hPx, hPm, hDx, hDm, hap, hKx, hKm, hS, hrel.2⟩
set_option maxHeartbeats 4000000 in
set_option maxRecDepth 100000 in
theorem law_listen {p : Program} {l : Launch} {e : Env} {s : State} {m : MethodId} {below : List Frame} {meth : Method} {c : Code} {D : va_G} {b L : Nat} {xs : Nat → Int32} (hL : L ≤ 2048) (C0 : lw_At p s m meth c b L xs) (hN : NK s) {i q1 q2 : Nat} (hi : i + 4 ≤ L) {u : XS} {v : MS} {H : Heap} {locs : List Loc} (hV : LInv D s q1 q2 u v H locs) {cells slots : Nat} (hcc : cells + 0 ≤ room_1.cells) (hss : slots + 0 ≤ room_1.slots) {ls : Array Slot} (hl : lv_has ls 4 [(0, .ref b), (1, .ref q1), (2, .ref q2), (3, .int (nI i))])
    (next : ∀ (u2 : XS) (v2 : MS) (H : Heap) (locs : List Loc), LInv D s q1 q2 u2 v2 H locs → W p l e room_1 s m #[Value.ref b] below meth c H locs (cells + 0) (slots + 0) (lw_Z below #[Value.ref b] s) (F0 m 519 ls [])) :
    W p l e room_1 s m #[Value.ref b] below meth c H locs cells slots (lw_Z below #[Value.ref b] s) (F0 m 404 ls []) := by
  obtain ⟨hx, hb, hr, hml, hown, hts, hX, hbl, hlocks, hgv⟩ := C0
  have hA : ∀ q : Nat, s.heap.size ≤ q → (fun q : Nat => s.heap.size ≤ q) q := fun _ h => h
  have hbA : ¬ (fun q : Nat => s.heap.size ≤ q) b := Nat.not_le.mpr hbl
  have hin0 : vp_in (nI i) L := vp_in_nI (by omega) (by omega)
  have hin1 : vp_in (nI i + 1) L := by rw [show nI i + 1 = nI (i + 1) from nI_add i 1]; exact vp_in_nI (by omega) (by omega)
  have hin2 : vp_in (nI i + 2) L := by rw [show nI i + 2 = nI (i + 2) from nI_add i 2]; exact vp_in_nI (by omega) (by omega)
  have hin3 : vp_in (nI i + 3) L := by rw [show nI i + 3 = nI (i + 3) from nI_add i 3]; exact vp_in_nI (by omega) (by omega)
  obtain ⟨wx, wm, cA, tm, hIx, hIm, hPx, hPm, hDx, hDm, hap, hKx, hKm, hS, hRel⟩ := hV
  refine lv_aload_n hx hb d_L_law_404 rfl (lv_at hl 1 rfl) ?_
  refine lv_aload_n hx hb d_L_law_405 rfl (lv_at hl 0 rfl) ?_
  refine lv_iload_n hx hb d_L_law_406 rfl (lv_at hl 3 rfl) ?_
  refine lv_iconst (v := 1) hx hb d_L_law_407 (by decide) ?_
  refine lv_iadd hx hb d_L_law_408 ?_
  refine va_sld hx hb hX hbl hbA hS hin1 d_L_law_409 ?_
  refine lv_aload_n hx hb d_L_law_410 rfl (lv_at hl 0 rfl) ?_
  refine lv_iload_n hx hb d_L_law_411 rfl (lv_at hl 3 rfl) ?_
  refine lv_iconst (v := 2) hx hb d_L_law_412 (by decide) ?_
  refine lv_iadd hx hb d_L_law_413 ?_
  refine va_sld hx hb hX hbl hbA hS hin2 d_L_law_414 ?_
  refine lv_if_eq (tgt := 422) hx hb d_L_law_415 (by decide) (fun c_1 => ?_) (fun c_1 => ?_)
  · refine lv_iconst (v := 0) hx hb d_L_law_422 (by decide) ?_
    have hFc := freew hDx hS hA
    obtain ⟨kx, fsx, hkx⟩ := IX_at hIx
    refine va_calli (va_runV (As := [.int (xs (nI i + 1).toNatClampNeg), .int 0]) (rest := []) ⟨hx, hb, hml, hown, hts⟩ (c_X_listen l D q1 _ u wx cA hIx (hDx.weaken (fun _ _ _ _ => trivial)) (xs (nI i + 1).toNatClampNeg) 0 (Or.inl rfl)) (cwV 2 hts gL_53 rfl rfl rfl (by decide +kernel) ⟨Nat.le_of_ble_eq_true rfl, Nat.le_of_ble_eq_true rfl⟩) (preVZ hPx hKx hN (va_recv hKx hPx (ci := 1) (q0 := kx) rfl hkx)) rfl rfl hl.1 rfl (lv_room (Nat.le_of_ble_eq_true rfl)) d_L_law_423 ⟨by omega, by omega⟩) hS (fun q _ h => hFc q h) hFc (fun rx z2 t H1 locs ht hvm hwx hB hz1 hk1 hS => ?_)
    obtain ⟨hwx, rfl⟩ := hwx
    obtain ⟨wx1, cA1, hIx1, hPx1, hKx1, hDx1⟩ := hB
    rw [ht] at hPx1
    have hKx := va_K.moved hvm.symm hKx1
    obtain ⟨hPm, hDx, hap⟩ := twoc hPm hap hk1 hFc hDx1
    have hPx := hPx1
    have hIx := hIx1
    clear hPx1 hIx1 hKx1 hDx1
    generalize wx1 = wx at hPx hIx hDx hap
    generalize cA1 = cA at hIx hKx
    refine lv_aload_n hx hb d_L_law_426 rfl (lv_at hl 2 rfl) ?_
    refine lv_aload_n hx hb d_L_law_427 rfl (lv_at hl 0 rfl) ?_
    refine lv_iload_n hx hb d_L_law_428 rfl (lv_at hl 3 rfl) ?_
    refine lv_iconst (v := 1) hx hb d_L_law_429 (by decide) ?_
    refine lv_iadd hx hb d_L_law_430 ?_
    refine va_sld hx hb hX hbl hbA hS hin1 d_L_law_431 ?_
    refine lv_aload_n hx hb d_L_law_432 rfl (lv_at hl 0 rfl) ?_
    refine lv_iload_n hx hb d_L_law_433 rfl (lv_at hl 3 rfl) ?_
    refine lv_iconst (v := 2) hx hb d_L_law_434 (by decide) ?_
    refine lv_iadd hx hb d_L_law_435 ?_
    refine va_sld hx hb hX hbl hbA hS hin2 d_L_law_436 ?_
    refine lv_if_eq (tgt := 444) hx hb d_L_law_437 (by decide) (fun _ => ?_) (fun c9 => absurd c_1 c9)
    refine lv_iconst (v := 0) hx hb d_L_law_444 (by decide) ?_
    have hFc := freew hDm hS hA
    obtain ⟨kx, fsx, hkx⟩ := IM_at hIm
    refine va_calli (va_runV (As := [.int (xs (nI i + 1).toNatClampNeg), .int 0]) (rest := [.int rx]) ⟨hx, hb, hml, hown, hts⟩ (c_M_listen l D q2 _ v wm tm hIm (hDm.weaken (fun _ _ _ _ => trivial)) (xs (nI i + 1).toNatClampNeg) 0 (Or.inl rfl)) (cwV 2 hts gL_56 rfl rfl rfl (by decide +kernel) ⟨Nat.le_of_ble_eq_true rfl, Nat.le_of_ble_eq_true rfl⟩) (preVZ hPm hKm hN (va_recv hKm hPm (ci := 2) (q0 := kx) rfl hkx)) rfl rfl hl.1 rfl (lv_room (Nat.le_of_ble_eq_true rfl)) d_L_law_445 ⟨by omega, by omega⟩) hS (fun q _ h => hFc q h) hFc (fun rm z2 t H1 locs ht hvm hwm hB hz1 hk1 hS => ?_)
    obtain ⟨hwm, rfl⟩ := hwm
    obtain ⟨wm1, tm1, hIm1, hPm1, hKm1, hDm1⟩ := hB
    rw [ht] at hPm1
    have hKm := va_K.moved hvm.symm hKm1
    obtain ⟨hPx, hDm, hap⟩ := twoc hPx hap.symm hk1 hFc hDm1
    have hap := hap.symm
    have hPm := hPm1
    have hIm := hIm1
    clear hPm1 hIm1 hKm1 hDm1
    generalize wm1 = wm at hPm hIm hDm hap
    generalize tm1 = tm at hIm hKm
    have hrel := rel_listen hRel (xs (nI i + 1).toNatClampNeg) 0 (Or.inl rfl)
    refine lv_icmp_eq (tgt := 519) hx hb d_L_law_448 (by decide) (fun _ => ?_) (fun c9 => absurd (hwx.trans (hrel.1.trans hwm.symm)) c9)
    refine W.cs (cells' := cells + 0) (slots' := slots + 0) (by omega) (by omega) ?_
    exact next _ _ _ _ ⟨wx, wm, cA, tm, hIx, hIm, hPx, hPm, hDx, hDm, hap, hKx, hKm, hS, hrel.2⟩
  · refine lv_iconst (v := 1) hx hb d_L_law_418 (by decide) ?_
    refine lv_goto (tgt := 423) hx hb d_L_law_419 (by decide) ?_
    have hFc := freew hDx hS hA
    obtain ⟨kx, fsx, hkx⟩ := IX_at hIx
    refine va_calli (va_runV (As := [.int (xs (nI i + 1).toNatClampNeg), .int 1]) (rest := []) ⟨hx, hb, hml, hown, hts⟩ (c_X_listen l D q1 _ u wx cA hIx (hDx.weaken (fun _ _ _ _ => trivial)) (xs (nI i + 1).toNatClampNeg) 1 (Or.inr rfl)) (cwV 2 hts gL_53 rfl rfl rfl (by decide +kernel) ⟨Nat.le_of_ble_eq_true rfl, Nat.le_of_ble_eq_true rfl⟩) (preVZ hPx hKx hN (va_recv hKx hPx (ci := 1) (q0 := kx) rfl hkx)) rfl rfl hl.1 rfl (lv_room (Nat.le_of_ble_eq_true rfl)) d_L_law_423 ⟨by omega, by omega⟩) hS (fun q _ h => hFc q h) hFc (fun rx z2 t H1 locs ht hvm hwx hB hz1 hk1 hS => ?_)
    obtain ⟨hwx, rfl⟩ := hwx
    obtain ⟨wx1, cA1, hIx1, hPx1, hKx1, hDx1⟩ := hB
    rw [ht] at hPx1
    have hKx := va_K.moved hvm.symm hKx1
    obtain ⟨hPm, hDx, hap⟩ := twoc hPm hap hk1 hFc hDx1
    have hPx := hPx1
    have hIx := hIx1
    clear hPx1 hIx1 hKx1 hDx1
    generalize wx1 = wx at hPx hIx hDx hap
    generalize cA1 = cA at hIx hKx
    refine lv_aload_n hx hb d_L_law_426 rfl (lv_at hl 2 rfl) ?_
    refine lv_aload_n hx hb d_L_law_427 rfl (lv_at hl 0 rfl) ?_
    refine lv_iload_n hx hb d_L_law_428 rfl (lv_at hl 3 rfl) ?_
    refine lv_iconst (v := 1) hx hb d_L_law_429 (by decide) ?_
    refine lv_iadd hx hb d_L_law_430 ?_
    refine va_sld hx hb hX hbl hbA hS hin1 d_L_law_431 ?_
    refine lv_aload_n hx hb d_L_law_432 rfl (lv_at hl 0 rfl) ?_
    refine lv_iload_n hx hb d_L_law_433 rfl (lv_at hl 3 rfl) ?_
    refine lv_iconst (v := 2) hx hb d_L_law_434 (by decide) ?_
    refine lv_iadd hx hb d_L_law_435 ?_
    refine va_sld hx hb hX hbl hbA hS hin2 d_L_law_436 ?_
    refine lv_if_eq (tgt := 444) hx hb d_L_law_437 (by decide) (fun c9 => absurd c9 c_1) (fun _ => ?_)
    refine lv_iconst (v := 1) hx hb d_L_law_440 (by decide) ?_
    refine lv_goto (tgt := 445) hx hb d_L_law_441 (by decide) ?_
    have hFc := freew hDm hS hA
    obtain ⟨kx, fsx, hkx⟩ := IM_at hIm
    refine va_calli (va_runV (As := [.int (xs (nI i + 1).toNatClampNeg), .int 1]) (rest := [.int rx]) ⟨hx, hb, hml, hown, hts⟩ (c_M_listen l D q2 _ v wm tm hIm (hDm.weaken (fun _ _ _ _ => trivial)) (xs (nI i + 1).toNatClampNeg) 1 (Or.inr rfl)) (cwV 2 hts gL_56 rfl rfl rfl (by decide +kernel) ⟨Nat.le_of_ble_eq_true rfl, Nat.le_of_ble_eq_true rfl⟩) (preVZ hPm hKm hN (va_recv hKm hPm (ci := 2) (q0 := kx) rfl hkx)) rfl rfl hl.1 rfl (lv_room (Nat.le_of_ble_eq_true rfl)) d_L_law_445 ⟨by omega, by omega⟩) hS (fun q _ h => hFc q h) hFc (fun rm z2 t H1 locs ht hvm hwm hB hz1 hk1 hS => ?_)
    obtain ⟨hwm, rfl⟩ := hwm
    obtain ⟨wm1, tm1, hIm1, hPm1, hKm1, hDm1⟩ := hB
    rw [ht] at hPm1
    have hKm := va_K.moved hvm.symm hKm1
    obtain ⟨hPx, hDm, hap⟩ := twoc hPx hap.symm hk1 hFc hDm1
    have hap := hap.symm
    have hPm := hPm1
    have hIm := hIm1
    clear hPm1 hIm1 hKm1 hDm1
    generalize wm1 = wm at hPm hIm hDm hap
    generalize tm1 = tm at hIm hKm
    have hrel := rel_listen hRel (xs (nI i + 1).toNatClampNeg) 1 (Or.inr rfl)
    refine lv_icmp_eq (tgt := 519) hx hb d_L_law_448 (by decide) (fun _ => ?_) (fun c9 => absurd (hwx.trans (hrel.1.trans hwm.symm)) c9)
    refine W.cs (cells' := cells + 0) (slots' := slots + 0) (by omega) (by omega) ?_
    exact next _ _ _ _ ⟨wx, wm, cA, tm, hIx, hIm, hPx, hPm, hDx, hDm, hap, hKx, hKm, hS, hrel.2⟩
set_option maxHeartbeats 4000000 in
set_option maxRecDepth 100000 in
theorem law_two {p : Program} {l : Launch} {e : Env} {s : State} {m : MethodId} {below : List Frame} {meth : Method} {c : Code} {D : va_G} {b L : Nat} {xs : Nat → Int32} (hL : L ≤ 2048) (C0 : lw_At p s m meth c b L xs) (hN : NK s) {i q1 q2 : Nat} (hi : i + 4 ≤ L) {u : XS} {v : MS} {H : Heap} {locs : List Loc} (hV : LInv D s q1 q2 u v H locs) {cells slots : Nat} (hcc : cells + 0 ≤ room_1.cells) (hss : slots + 0 ≤ room_1.slots) {ls : Array Slot} (hl : lv_has ls 4 [(0, .ref b), (1, .ref q1), (2, .ref q2), (3, .int (nI i))])
    (next : ∀ (u2 : XS) (v2 : MS) (H : Heap) (locs : List Loc), LInv D s q1 q2 u2 v2 H locs → W p l e room_1 s m #[Value.ref b] below meth c H locs (cells + 0) (slots + 0) (lw_Z below #[Value.ref b] s) (F0 m 519 ls [])) :
    W p l e room_1 s m #[Value.ref b] below meth c H locs cells slots (lw_Z below #[Value.ref b] s) (F0 m 453 ls []) := by
  obtain ⟨hx, hb, hr, hml, hown, hts, hX, hbl, hlocks, hgv⟩ := C0
  have hA : ∀ q : Nat, s.heap.size ≤ q → (fun q : Nat => s.heap.size ≤ q) q := fun _ h => h
  have hbA : ¬ (fun q : Nat => s.heap.size ≤ q) b := Nat.not_le.mpr hbl
  have hin0 : vp_in (nI i) L := vp_in_nI (by omega) (by omega)
  have hin1 : vp_in (nI i + 1) L := by rw [show nI i + 1 = nI (i + 1) from nI_add i 1]; exact vp_in_nI (by omega) (by omega)
  have hin2 : vp_in (nI i + 2) L := by rw [show nI i + 2 = nI (i + 2) from nI_add i 2]; exact vp_in_nI (by omega) (by omega)
  have hin3 : vp_in (nI i + 3) L := by rw [show nI i + 3 = nI (i + 3) from nI_add i 3]; exact vp_in_nI (by omega) (by omega)
  obtain ⟨wx, wm, cA, tm, hIx, hIm, hPx, hPm, hDx, hDm, hap, hKx, hKm, hS, hRel⟩ := hV
  refine lv_aload_n hx hb d_L_law_453 rfl (lv_at hl 1 rfl) ?_
  refine lv_aload_n hx hb d_L_law_454 rfl (lv_at hl 0 rfl) ?_
  refine lv_iload_n hx hb d_L_law_455 rfl (lv_at hl 3 rfl) ?_
  refine lv_iconst (v := 1) hx hb d_L_law_456 (by decide) ?_
  refine lv_iadd hx hb d_L_law_457 ?_
  refine va_sld hx hb hX hbl hbA hS hin1 d_L_law_458 ?_
  refine lv_aload_n hx hb d_L_law_459 rfl (lv_at hl 0 rfl) ?_
  refine lv_iload_n hx hb d_L_law_460 rfl (lv_at hl 3 rfl) ?_
  refine lv_iconst (v := 2) hx hb d_L_law_461 (by decide) ?_
  refine lv_iadd hx hb d_L_law_462 ?_
  refine va_sld hx hb hX hbl hbA hS hin2 d_L_law_463 ?_
  refine lv_aload_n hx hb d_L_law_464 rfl (lv_at hl 0 rfl) ?_
  refine lv_iload_n hx hb d_L_law_465 rfl (lv_at hl 3 rfl) ?_
  refine lv_iconst (v := 3) hx hb d_L_law_466 (by decide) ?_
  refine lv_iadd hx hb d_L_law_467 ?_
  refine va_sld hx hb hX hbl hbA hS hin3 d_L_law_468 ?_
  have hFc := freew hDx hS hA
  obtain ⟨kx, fsx, hkx⟩ := IX_at hIx
  refine va_calli (va_runV (As := [.int (xs (nI i + 1).toNatClampNeg), .int (xs (nI i + 2).toNatClampNeg), .int (xs (nI i + 3).toNatClampNeg)]) (rest := []) ⟨hx, hb, hml, hown, hts⟩ (c_X_two l D q1 _ u wx cA hIx (hDx.weaken (fun _ _ _ _ => trivial)) (xs (nI i + 1).toNatClampNeg) (xs (nI i + 2).toNatClampNeg) (xs (nI i + 3).toNatClampNeg)) (cwV 3 hts gL_57 rfl rfl rfl (by decide +kernel) ⟨Nat.le_of_ble_eq_true rfl, Nat.le_of_ble_eq_true rfl⟩) (preVZ hPx hKx hN (va_recv hKx hPx (ci := 1) (q0 := kx) rfl hkx)) rfl rfl hl.1 rfl (lv_room (Nat.le_of_ble_eq_true rfl)) d_L_law_469 ⟨by omega, by omega⟩) hS (fun q _ h => hFc q h) hFc (fun rx z2 t H1 locs ht hvm hwx hB hz1 hk1 hS => ?_)
  obtain ⟨hwx, rfl⟩ := hwx
  obtain ⟨wx1, cA1, hIx1, hPx1, hKx1, hDx1⟩ := hB
  rw [ht] at hPx1
  have hKx := va_K.moved hvm.symm hKx1
  obtain ⟨hPm, hDx, hap⟩ := twoc hPm hap hk1 hFc hDx1
  have hPx := hPx1
  have hIx := hIx1
  clear hPx1 hIx1 hKx1 hDx1
  generalize wx1 = wx at hPx hIx hDx hap
  generalize cA1 = cA at hIx hKx
  refine lv_aload_n hx hb d_L_law_472 rfl (lv_at hl 2 rfl) ?_
  refine lv_aload_n hx hb d_L_law_473 rfl (lv_at hl 0 rfl) ?_
  refine lv_iload_n hx hb d_L_law_474 rfl (lv_at hl 3 rfl) ?_
  refine lv_iconst (v := 1) hx hb d_L_law_475 (by decide) ?_
  refine lv_iadd hx hb d_L_law_476 ?_
  refine va_sld hx hb hX hbl hbA hS hin1 d_L_law_477 ?_
  refine lv_aload_n hx hb d_L_law_478 rfl (lv_at hl 0 rfl) ?_
  refine lv_iload_n hx hb d_L_law_479 rfl (lv_at hl 3 rfl) ?_
  refine lv_iconst (v := 2) hx hb d_L_law_480 (by decide) ?_
  refine lv_iadd hx hb d_L_law_481 ?_
  refine va_sld hx hb hX hbl hbA hS hin2 d_L_law_482 ?_
  refine lv_aload_n hx hb d_L_law_483 rfl (lv_at hl 0 rfl) ?_
  refine lv_iload_n hx hb d_L_law_484 rfl (lv_at hl 3 rfl) ?_
  refine lv_iconst (v := 3) hx hb d_L_law_485 (by decide) ?_
  refine lv_iadd hx hb d_L_law_486 ?_
  refine va_sld hx hb hX hbl hbA hS hin3 d_L_law_487 ?_
  have hFc := freew hDm hS hA
  obtain ⟨kx, fsx, hkx⟩ := IM_at hIm
  refine va_calli (va_runV (As := [.int (xs (nI i + 1).toNatClampNeg), .int (xs (nI i + 2).toNatClampNeg), .int (xs (nI i + 3).toNatClampNeg)]) (rest := [.int rx]) ⟨hx, hb, hml, hown, hts⟩ (c_M_two l D q2 _ v wm tm hIm (hDm.weaken (fun _ _ _ _ => trivial)) (xs (nI i + 1).toNatClampNeg) (xs (nI i + 2).toNatClampNeg) (xs (nI i + 3).toNatClampNeg)) (cwV 3 hts gL_61 rfl rfl rfl (by decide +kernel) ⟨Nat.le_of_ble_eq_true rfl, Nat.le_of_ble_eq_true rfl⟩) (preVZ hPm hKm hN (va_recv hKm hPm (ci := 2) (q0 := kx) rfl hkx)) rfl rfl hl.1 rfl (lv_room (Nat.le_of_ble_eq_true rfl)) d_L_law_488 ⟨by omega, by omega⟩) hS (fun q _ h => hFc q h) hFc (fun rm z2 t H1 locs ht hvm hwm hB hz1 hk1 hS => ?_)
  obtain ⟨hwm, rfl⟩ := hwm
  obtain ⟨wm1, tm1, hIm1, hPm1, hKm1, hDm1⟩ := hB
  rw [ht] at hPm1
  have hKm := va_K.moved hvm.symm hKm1
  obtain ⟨hPx, hDm, hap⟩ := twoc hPx hap.symm hk1 hFc hDm1
  have hap := hap.symm
  have hPm := hPm1
  have hIm := hIm1
  clear hPm1 hIm1 hKm1 hDm1
  generalize wm1 = wm at hPm hIm hDm hap
  generalize tm1 = tm at hIm hKm
  have hrel := rel_two hRel (xs (nI i + 1).toNatClampNeg) (xs (nI i + 2).toNatClampNeg) (xs (nI i + 3).toNatClampNeg)
  refine lv_icmp_eq (tgt := 519) hx hb d_L_law_491 (by decide) (fun _ => ?_) (fun c9 => absurd (hwx.trans (hrel.1.trans hwm.symm)) c9)
  refine W.cs (cells' := cells + 0) (slots' := slots + 0) (by omega) (by omega) ?_
  exact next _ _ _ _ ⟨wx, wm, cA, tm, hIx, hIm, hPx, hPm, hDx, hDm, hap, hKx, hKm, hS, hrel.2⟩
set_option maxHeartbeats 4000000 in
set_option maxRecDepth 100000 in
theorem law_suspended {p : Program} {l : Launch} {e : Env} {s : State} {m : MethodId} {below : List Frame} {meth : Method} {c : Code} {D : va_G} {b L : Nat} {xs : Nat → Int32} (hL : L ≤ 2048) (C0 : lw_At p s m meth c b L xs) (hN : NK s) {i q1 q2 : Nat} (hi : i + 4 ≤ L) {u : XS} {v : MS} {H : Heap} {locs : List Loc} (hV : LInv D s q1 q2 u v H locs) {cells slots : Nat} (hcc : cells + 0 ≤ room_1.cells) (hss : slots + 0 ≤ room_1.slots) {ls : Array Slot} (hl : lv_has ls 4 [(0, .ref b), (1, .ref q1), (2, .ref q2), (3, .int (nI i))])
    (next : ∀ (u2 : XS) (v2 : MS) (H : Heap) (locs : List Loc), LInv D s q1 q2 u2 v2 H locs → W p l e room_1 s m #[Value.ref b] below meth c H locs (cells + 0) (slots + 0) (lw_Z below #[Value.ref b] s) (F0 m 519 ls [])) :
    W p l e room_1 s m #[Value.ref b] below meth c H locs cells slots (lw_Z below #[Value.ref b] s) (F0 m 496 ls []) := by
  obtain ⟨hx, hb, hr, hml, hown, hts, hX, hbl, hlocks, hgv⟩ := C0
  have hA : ∀ q : Nat, s.heap.size ≤ q → (fun q : Nat => s.heap.size ≤ q) q := fun _ h => h
  have hbA : ¬ (fun q : Nat => s.heap.size ≤ q) b := Nat.not_le.mpr hbl
  have hin0 : vp_in (nI i) L := vp_in_nI (by omega) (by omega)
  have hin1 : vp_in (nI i + 1) L := by rw [show nI i + 1 = nI (i + 1) from nI_add i 1]; exact vp_in_nI (by omega) (by omega)
  have hin2 : vp_in (nI i + 2) L := by rw [show nI i + 2 = nI (i + 2) from nI_add i 2]; exact vp_in_nI (by omega) (by omega)
  have hin3 : vp_in (nI i + 3) L := by rw [show nI i + 3 = nI (i + 3) from nI_add i 3]; exact vp_in_nI (by omega) (by omega)
  obtain ⟨wx, wm, cA, tm, hIx, hIm, hPx, hPm, hDx, hDm, hap, hKx, hKm, hS, hRel⟩ := hV
  refine lv_aload_n hx hb d_L_law_496 rfl (lv_at hl 1 rfl) ?_
  refine lv_aload_n hx hb d_L_law_497 rfl (lv_at hl 0 rfl) ?_
  refine lv_iload_n hx hb d_L_law_498 rfl (lv_at hl 3 rfl) ?_
  refine lv_iconst (v := 1) hx hb d_L_law_499 (by decide) ?_
  refine lv_iadd hx hb d_L_law_500 ?_
  refine va_sld hx hb hX hbl hbA hS hin1 d_L_law_501 ?_
  have hFc := freew hDx hS hA
  obtain ⟨kx, fsx, hkx⟩ := IX_at hIx
  refine va_calli (va_runV (As := [.int (xs (nI i + 1).toNatClampNeg)]) (rest := []) ⟨hx, hb, hml, hown, hts⟩ (c_X_suspended l D q1 _ u wx cA hIx (hDx.weaken (fun _ _ _ _ => trivial)) (xs (nI i + 1).toNatClampNeg)) (cwV 1 hts gL_62 rfl rfl rfl (by decide +kernel) ⟨Nat.le_of_ble_eq_true rfl, Nat.le_of_ble_eq_true rfl⟩) (preVZ hPx hKx hN (va_recv hKx hPx (ci := 1) (q0 := kx) rfl hkx)) rfl rfl hl.1 rfl (lv_room (Nat.le_of_ble_eq_true rfl)) d_L_law_502 ⟨by omega, by omega⟩) hS (fun q _ h => hFc q h) hFc (fun rx z2 t H1 locs ht hvm hwx hB hz1 hk1 hS => ?_)
  obtain ⟨hwx, rfl⟩ := hwx
  obtain ⟨wx1, cA1, hIx1, hPx1, hKx1, hDx1⟩ := hB
  rw [ht] at hPx1
  have hKx := va_K.moved hvm.symm hKx1
  obtain ⟨hPm, hDx, hap⟩ := twoc hPm hap hk1 hFc hDx1
  have hPx := hPx1
  have hIx := hIx1
  clear hPx1 hIx1 hKx1 hDx1
  generalize wx1 = wx at hPx hIx hDx hap
  generalize cA1 = cA at hIx hKx
  refine lv_aload_n hx hb d_L_law_505 rfl (lv_at hl 2 rfl) ?_
  refine lv_aload_n hx hb d_L_law_506 rfl (lv_at hl 0 rfl) ?_
  refine lv_iload_n hx hb d_L_law_507 rfl (lv_at hl 3 rfl) ?_
  refine lv_iconst (v := 1) hx hb d_L_law_508 (by decide) ?_
  refine lv_iadd hx hb d_L_law_509 ?_
  refine va_sld hx hb hX hbl hbA hS hin1 d_L_law_510 ?_
  have hFc := freew hDm hS hA
  obtain ⟨kx, fsx, hkx⟩ := IM_at hIm
  refine va_calli (va_runV (As := [.int (xs (nI i + 1).toNatClampNeg)]) (rest := [.int rx]) ⟨hx, hb, hml, hown, hts⟩ (c_M_suspended l D q2 _ v wm tm hIm (hDm.weaken (fun _ _ _ _ => trivial)) (xs (nI i + 1).toNatClampNeg)) (cwV 1 hts gL_65 rfl rfl rfl (by decide +kernel) ⟨Nat.le_of_ble_eq_true rfl, Nat.le_of_ble_eq_true rfl⟩) (preVZ hPm hKm hN (va_recv hKm hPm (ci := 2) (q0 := kx) rfl hkx)) rfl rfl hl.1 rfl (lv_room (Nat.le_of_ble_eq_true rfl)) d_L_law_511 ⟨by omega, by omega⟩) hS (fun q _ h => hFc q h) hFc (fun rm z2 t H1 locs ht hvm hwm hB hz1 hk1 hS => ?_)
  obtain ⟨hwm, rfl⟩ := hwm
  obtain ⟨wm1, tm1, hIm1, hPm1, hKm1, hDm1⟩ := hB
  rw [ht] at hPm1
  have hKm := va_K.moved hvm.symm hKm1
  obtain ⟨hPx, hDm, hap⟩ := twoc hPx hap.symm hk1 hFc hDm1
  have hap := hap.symm
  have hPm := hPm1
  have hIm := hIm1
  clear hPm1 hIm1 hKm1 hDm1
  generalize wm1 = wm at hPm hIm hDm hap
  generalize tm1 = tm at hIm hKm
  have hrel := rel_suspended hRel (xs (nI i + 1).toNatClampNeg)
  refine lv_icmp_eq (tgt := 519) hx hb d_L_law_514 (by decide) (fun _ => ?_) (fun c9 => absurd (hwx.trans (hrel.1.trans hwm.symm)) c9)
  refine W.cs (cells' := cells + 0) (slots' := slots + 0) (by omega) (by omega) ?_
  exact next _ _ _ _ ⟨wx, wm, cA, tm, hIx, hIm, hPx, hPm, hDx, hDm, hap, hKx, hKm, hS, hrel.2⟩

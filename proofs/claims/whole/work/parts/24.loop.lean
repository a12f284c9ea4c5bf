theorem lv_end {L i : Nat} (hL : L < 2 ^ 30) (hi : i < 2 ^ 30) (h : L < i + 4) : Int32.ofNat L - 4 < nI i := by
  rw [Int32.lt_iff_toInt_lt, show Int32.ofNat L - 4 = nI L - nI 4 from rfl, pk_sub_toInt hL (by decide), nI_toInt (by omega)]
  omega
set_option maxHeartbeats 4000000 in
set_option maxRecDepth 100000 in
/-- THE LAW'S LOOP -/
theorem law_loop {p : Program} {l : Launch} {e : Env} {s : State} {m : MethodId} {below : List Frame} {meth : Method} {c : Code} {D : va_G} {b L : Nat} {xs : Nat → Int32} (hL : L ≤ 2048) (C0 : lw_At p s m meth c b L xs) (hN : NK s) {q1 q2 : Nat} :
    ∀ (k i : Nat) (u : XS) (v : MS) (H : Heap) (locs : List Loc) (cells slots : Nat) (ls : Array Slot), i ≤ L → L ≤ i + 4 * k + 3 → LInv D s q1 q2 u v H locs → cells + k ≤ 600000 → slots + 15 * k ≤ 7302250 → lv_has ls 4 [(0, .ref b), (1, .ref q1), (2, .ref q2), (3, .int (nI i))] →
      W p l e room_1 s m #[Value.ref b] below meth c H locs cells slots (lw_Z below #[Value.ref b] s) (F0 m 18 ls []) := by
  have C1 := C0
  obtain ⟨hx, hb, hr, hml, hown, hts, hX, hbl, hlocks, hgv⟩ := C0
  have hbA : ¬ (fun q : Nat => s.heap.size ≤ q) b := Nat.not_le.mpr hbl
  intro k
  induction k with
  | zero =>
    intro i u v H locs cells slots ls hiL hk hV hcc hss hl
    have hS : va_S (fun q : Nat => s.heap.size ≤ q) s.heap H locs := by
      obtain ⟨_, _, _, _, -, -, -, -, -, -, -, -, -, hS, -⟩ := hV
      exact hS
    refine lv_iload_n hx hb d_L_law_18 rfl (lv_at hl 3 rfl) ?_
    refine lv_aload_n hx hb d_L_law_19 rfl (lv_at hl 0 rfl) ?_
    refine va_slen hx hb hX hbl hbA hS d_L_law_20 ?_
    refine lv_iconst (v := 4) hx hb d_L_law_21 (by decide) ?_
    refine lv_isub hx hb d_L_law_22 ?_
    refine lv_icmp_gt (tgt := 525) hx hb d_L_law_23 (by decide) (fun c_1 => ?_) (fun c_1 => ?_)
    · refine lv_iconst (v := 1) hx hb d_L_law_525 (by decide) ?_
      refine va_forget (fun q hq => hS.2.2 q hq) ?_
      refine W.widen (k := 600000) (n := 7302250) (by omega) (by omega) ?_
      exact lw_ret hx hb hr hlocks d_L_law_526
    · exact absurd (lv_end (L := L) (i := i) (by omega) (by omega) (by omega)) c_1
  | succ k ih =>
    intro i u v H locs cells slots ls hiL hk hV hcc hss hl
    have hS : va_S (fun q : Nat => s.heap.size ≤ q) s.heap H locs := by
      obtain ⟨_, _, _, _, -, -, -, -, -, -, -, -, -, hS, -⟩ := hV
      exact hS
    refine lv_iload_n hx hb d_L_law_18 rfl (lv_at hl 3 rfl) ?_
    refine lv_aload_n hx hb d_L_law_19 rfl (lv_at hl 0 rfl) ?_
    refine va_slen hx hb hX hbl hbA hS d_L_law_20 ?_
    refine lv_iconst (v := 4) hx hb d_L_law_21 (by decide) ?_
    refine lv_isub hx hb d_L_law_22 ?_
    refine lv_icmp_gt (tgt := 525) hx hb d_L_law_23 (by decide) (fun c_1 => ?_) (fun c_1 => ?_)
    · refine lv_iconst (v := 1) hx hb d_L_law_525 (by decide) ?_
      refine va_forget (fun q hq => hS.2.2 q hq) ?_
      refine W.widen (k := 600000) (n := 7302250) (by omega) (by omega) ?_
      exact lw_ret hx hb hr hlocks d_L_law_526
    · have hi : i + 4 ≤ L := by
        rcases Nat.lt_or_ge L (i + 4) with q | q
        · exact absurd (lv_end (L := L) (i := i) (by omega) (by omega) q) c_1
        · exact q
      have hin0 : vp_in (nI i) L := vp_in_nI (by omega) (by omega)
      refine lv_aload_n hx hb d_L_law_26 rfl (lv_at hl 0 rfl) ?_
      refine lv_iload_n hx hb d_L_law_27 rfl (lv_at hl 3 rfl) ?_
      refine va_sld hx hb hX hbl hbA hS hin0 d_L_law_28 ?_
      refine lv_bipush (v := 15) hx hb d_L_law_29 (by decide) ?_
      refine lv_iand hx hb d_L_law_31 ?_
      obtain ⟨j, hj, he⟩ := pk_andE (xs (nI i).toNatClampNeg) (m := 15) 4 (by decide)
      refine tpi (nI j) he ?_
      have tail : ∀ (u2 : XS) (v2 : MS) (H : Heap) (locs : List Loc) (cells slots : Nat), LInv D s q1 q2 u2 v2 H locs → cells + k ≤ 600000 → slots + 15 * k ≤ 7302250 → W p l e room_1 s m #[Value.ref b] below meth c H locs cells slots (lw_Z below #[Value.ref b] s) (F0 m 519 ls []) := by
        intro u2 v2 H locs cells slots hV hcc hss
        refine lv_iinc (v := nI (i + 4)) (lv' := [(3, .int (nI (i + 4))), (0, .ref b), (1, .ref q1), (2, .ref q2)]) hx hb d_L_law_519 hl (k := 3) rfl (by rw [show Int32.ofInt 4 = nI 4 by decide]; exact nI_add i 4) (by decide) rfl (fun ls hl => ?_)
        refine lv_goto (tgt := 18) hx hb d_L_law_522 (by decide) ?_
        exact ih (i + 4) u2 v2 H locs cells slots ls hi (by omega) hV hcc hss (lv_sub hl [1, 2, 3, 0] rfl)
      have hj : j < 16 := hj
      rcases (show j = 0 ∨ j = 1 ∨ j = 2 ∨ j = 3 ∨ j = 4 ∨ j = 5 ∨ j = 6 ∨ j = 7 ∨ j = 8 ∨ j = 9 ∨ j = 10 ∨ j = 11 ∨ j = 12 ∨ j = 13 ∨ j = 14 ∨ j = 15 by omega) with rfl | rfl | rfl | rfl | rfl | rfl | rfl | rfl | rfl | rfl | rfl | rfl | rfl | rfl | rfl | rfl
      · refine lv_tableIn (off := 60) (tgt := 92) hx hb d_L_law_32 (by decide) (by decide) (by decide +kernel) (by decide) ?_
        exact law_node hL C1 hN hi hV (show cells + 1 ≤ 600000 by omega) (show slots + 15 ≤ 7302250 by omega) hl (fun u2 v2 H locs hV => tail u2 v2 H locs _ _ hV (by omega) (by omega))
      · refine lv_tableIn (off := 73) (tgt := 105) hx hb d_L_law_32 (by decide) (by decide) (by decide +kernel) (by decide) ?_
        exact law_event hL C1 hN hi hV (show cells + 0 ≤ 600000 by omega) (show slots + 0 ≤ 7302250 by omega) hl (fun u2 v2 H locs hV => tail u2 v2 H locs _ _ hV (by omega) (by omega))
      · refine lv_tableIn (off := 132) (tgt := 164) hx hb d_L_law_32 (by decide) (by decide) (by decide +kernel) (by decide) ?_
        exact law_counter hL C1 hN hi hV (show cells + 0 ≤ 600000 by omega) (show slots + 0 ≤ 7302250 by omega) hl (fun u2 v2 H locs hV => tail u2 v2 H locs _ _ hV (by omega) (by omega))
      · refine lv_tableIn (off := 181) (tgt := 213) hx hb d_L_law_32 (by decide) (by decide) (by decide +kernel) (by decide) ?_
        exact law_state hL C1 hN hi hV (show cells + 0 ≤ 600000 by omega) (show slots + 0 ≤ 7302250 by omega) hl (fun u2 v2 H locs hV => tail u2 v2 H locs _ _ hV (by omega) (by omega))
      · refine lv_tableIn (off := 204) (tgt := 236) hx hb d_L_law_32 (by decide) (by decide) (by decide +kernel) (by decide) ?_
        exact law_recover hL C1 hN hi hV (show cells + 0 ≤ 600000 by omega) (show slots + 0 ≤ 7302250 by omega) hl (fun u2 v2 H locs hV => tail u2 v2 H locs _ _ hV (by omega) (by omega))
      · refine lv_tableIn (off := 237) (tgt := 269) hx hb d_L_law_32 (by decide) (by decide) (by decide +kernel) (by decide) ?_
        exact law_flag hL C1 hN hi hV (show cells + 0 ≤ 600000 by omega) (show slots + 0 ≤ 7302250 by omega) hl (fun u2 v2 H locs hV => tail u2 v2 H locs _ _ hV (by omega) (by omega))
      · refine lv_tableIn (off := 260) (tgt := 292) hx hb d_L_law_32 (by decide) (by decide) (by decide +kernel) (by decide) ?_
        exact law_manager hL C1 hN hi hV (show cells + 0 ≤ 600000 by omega) (show slots + 0 ≤ 7302250 by omega) hl (fun u2 v2 H locs hV => tail u2 v2 H locs _ _ hV (by omega) (by omega))
      · refine lv_tableIn (off := 323) (tgt := 355) hx hb d_L_law_32 (by decide) (by decide) (by decide +kernel) (by decide) ?_
        exact law_shot hL C1 hN hi hV (show cells + 0 ≤ 600000 by omega) (show slots + 0 ≤ 7302250 by omega) hl (fun u2 v2 H locs hV => tail u2 v2 H locs _ _ hV (by omega) (by omega))
      · refine lv_tableIn (off := 372) (tgt := 404) hx hb d_L_law_32 (by decide) (by decide) (by decide +kernel) (by decide) ?_
        exact law_listen hL C1 hN hi hV (show cells + 0 ≤ 600000 by omega) (show slots + 0 ≤ 7302250 by omega) hl (fun u2 v2 H locs hV => tail u2 v2 H locs _ _ hV (by omega) (by omega))
      · refine lv_tableIn (off := 421) (tgt := 453) hx hb d_L_law_32 (by decide) (by decide) (by decide +kernel) (by decide) ?_
        exact law_two hL C1 hN hi hV (show cells + 0 ≤ 600000 by omega) (show slots + 0 ≤ 7302250 by omega) hl (fun u2 v2 H locs hV => tail u2 v2 H locs _ _ hV (by omega) (by omega))
      · refine lv_tableIn (off := 464) (tgt := 496) hx hb d_L_law_32 (by decide) (by decide) (by decide +kernel) (by decide) ?_
        exact law_suspended hL C1 hN hi hV (show cells + 0 ≤ 600000 by omega) (show slots + 0 ≤ 7302250 by omega) hl (fun u2 v2 H locs hV => tail u2 v2 H locs _ _ hV (by omega) (by omega))
      · refine lv_tableOut (tgt := 519) hx hb d_L_law_32 (by decide) (by decide) ?_
        exact tail u v H locs _ _ hV (by omega) (by omega)
      · refine lv_tableOut (tgt := 519) hx hb d_L_law_32 (by decide) (by decide) ?_
        exact tail u v H locs _ _ hV (by omega) (by omega)
      · refine lv_tableOut (tgt := 519) hx hb d_L_law_32 (by decide) (by decide) ?_
        exact tail u v H locs _ _ hV (by omega) (by omega)
      · refine lv_tableOut (tgt := 519) hx hb d_L_law_32 (by decide) (by decide) ?_
        exact tail u v H locs _ _ hV (by omega) (by omega)
      · refine lv_tableOut (tgt := 519) hx hb d_L_law_32 (by decide) (by decide) ?_
        exact tail u v H locs _ _ hV (by omega) (by omega)
set_option maxHeartbeats 4000000 in
set_option maxRecDepth 100000 in
/-- THE LAW, from its entry -/
theorem whole_start {p : Program} {e : Env} {s : State} {m : MethodId} {below : List Frame} {meth : Method} {c : Code} (l : Launch) {b L : Nat} {xs : Nat → Int32} (hL : L ≤ 2048) (C0 : lw_At p s m meth c b L xs) : W p l e room_1 s m #[Value.ref b] below meth c s.heap [] 0 0 (lw_Z below #[Value.ref b] s) (entryFrame m ([Value.ref b] : List Value).toArray 4) := by
  obtain ⟨hx, hb, hr, hml, hown, hts, hX, hbl, hlocks, hgv⟩ := id C0
  have hown : s.vm.findClass R_L = some m.cls := hown
  have hA : ∀ q : Nat, s.heap.size ≤ q → (fun q : Nat => s.heap.size ≤ q) q := fun _ h => h
  have htB : ∀ w ∈ BIG, w.before #[Value.ref b] s = true := fun w h => hts w (big_tbl w h).1
  have hN : NK s := ⟨va_Nw.of rfl (hts (.methodLinkNest R_N 32 y_X_isError R_X) (by decide +kernel)), va_Nw.of rfl (hts (.methodLinkNest R_N 88 y_X_isAboutFlag R_X) (by decide +kernel)), va_AO.of (hts (.arrayOver (.object R_N)) (by decide +kernel))⟩
  obtain ⟨c0, iS0, hKn0⟩ := u_known (C := R_N) (T := F_N) (N := 15) (n := 15) htB uw_N (htB _ inst_N)
  obtain ⟨c1, iS1, hKn1⟩ := u_known (C := R_X) (T := F_X) (N := 3) (n := 3) htB uw_X (htB _ inst_X)
  obtain ⟨c2, iS2, hKn2⟩ := u_known (C := R_M) (T := F_M) (N := 17) (n := 17) htB uw_M (htB _ inst_M)
  obtain ⟨D, hKc⟩ : ∃ (D : va_G), ∀ (k : Nat) (q : vw_C), cls_[k]? = some q → u_Kn s q.1 q.2.1 q.2.2 (D.1 k) (D.2 k) := by
    refine ⟨(fun k => if k = 0 then c0 else if k = 1 then c1 else c2, fun k => if k = 0 then iS0 else if k = 1 then iS1 else iS2), ?_⟩
    intro k q hq
    match k, hq with
    | 0, hq => cases hq; exact hKn0
    | 1, hq => cases hq; exact hKn1
    | 2, hq => cases hq; exact hKn2
    | k + 3, hq => simp [cls_] at hq
  have hS : va_S (fun q : Nat => s.heap.size ≤ q) s.heap s.heap [] := va_S.rf
  have hK : va_K D cls_ [] s := ⟨hKc, fun k q h => by simp at h⟩
  have hP : va_P D cls_ [] s.heap := fun k q h => by simp at h
  have hD : va_D (fun q : Nat => s.heap.size ≤ q) [] := ⟨fun i j p q h => by simp at h, fun k q h => by simp at h⟩
  have hl := lv_entry ([.ref b]) (n := 4) (Nat.le_of_ble_eq_true rfl)
  rw [lg_entry_eq]
  generalize (lg_sl ([.ref b]) ++ List.replicate (4 - (lg_sl ([.ref b])).length) Slot.unset).toArray = ls at hl ⊢
  have hl : lv_has ls 4 [(0, .ref b)] := hl
  refine va_new (ci := 1) (fs := [.null, .int 0, .long 0]) (C := R_X) (T := F_X) (N := 3) hx hb htB uw_X t_X t_X_ok hown (htB _ cl_L_7) (htB _ inst_X) (htB _ in_X) hK hP hD hS hA rfl (by decide) (Nat.le_of_ble_eq_true rfl) (Nat.le_of_ble_eq_true rfl) d_L_law_0 (fun q1 H hP hD hS => ?_)
  have hP : va_P D cls_ [(q1, .inr (1, [.null, .int 0, .long 0]))] H := hP
  have hD : va_D (fun q : Nat => s.heap.size ≤ q) [(q1, .inr (1, [.null, .int 0, .long 0]))] := hD
  refine lv_dup hx hb d_L_law_3 rfl ?_
  have hFc := freew hD hS hA
  refine va_callv (va_runI (As := []) (rest := [.ref q1]) ⟨hx, hb, hml, hown, hts⟩ (c_X_init l D q1 _) (cwI 0 hts (fun w hw => big_tbl w (gd_X_init w hw).1) rfl rfl rfl (htB _ in_X) (htB _ ml_L_9) (htB _ im_X_init) rfl (by decide +kernel) ⟨Nat.le_of_ble_eq_true rfl, Nat.le_of_ble_eq_true rfl⟩) (preIZ hP hK hN) rfl rfl hl.1 rfl (lv_room (Nat.le_of_ble_eq_true rfl)) d_L_law_4 ⟨Nat.le_of_ble_eq_true rfl, Nat.le_of_ble_eq_true rfl⟩) hS (fun q _ h => hFc q h) hFc (fun u t H1 locs ht hvm hw hB hz1 hk1 hS => ?_)
  subst hw
  obtain ⟨wx, cA, hIx, hPx, hKx, hDx1⟩ := hB
  rw [ht] at hPx
  have hKx := va_K.moved hvm.symm hKx
  have hDx : va_D (fun q : Nat => s.heap.size ≤ q) wx := hDx1.weaken (fun _ q _ h => hFc q.1 h)
  refine lv_astore_n (lv' := [(1, .ref q1), (0, .ref b)]) hx hb d_L_law_7 rfl hl (by decide) rfl (fun ls hl => ?_)
  refine va_new (ci := 2) (fs := [.int 0, .int 0, .null, .null, .null, .null, .null, .null, .null, .null, .null, .null, .null, .null, .null, .null, .long 0]) (C := R_M) (T := F_M) (N := 17) hx hb htB uw_M t_M t_M_ok hown (htB _ cl_L_10) (htB _ inst_M) (htB _ in_M) hKx hPx hDx hS hA rfl (by decide) (Nat.le_of_ble_eq_true rfl) (Nat.le_of_ble_eq_true rfl) d_L_law_8 (fun q2 H hP hD hS => ?_)
  have hPx : va_P D cls_ wx H := fun k q hk => hP k q (al hk)
  have hPm : va_P D cls_ [(q2, .inr (2, [.int 0, .int 0, .null, .null, .null, .null, .null, .null, .null, .null, .null, .null, .null, .null, .null, .null, .long 0]))] H := pone hP ae
  have hDm : va_D (fun q : Nat => s.heap.size ≤ q) [(q2, .inr (2, [.int 0, .int 0, .null, .null, .null, .null, .null, .null, .null, .null, .null, .null, .null, .null, .null, .null, .long 0]))] := ⟨fun i j p q hi hj _ => (one_ix hi).1.trans (one_ix hj).1.symm, fun k q hk => by rw [(one_ix hk).2]; exact hD.2 _ _ ae⟩
  have hap : apart [(q2, .inr (2, [.int 0, .int 0, .null, .null, .null, .null, .null, .null, .null, .null, .null, .null, .null, .null, .null, .null, .long 0]))] wx := fun i j p q hp hq e9 => by
    rw [(one_ix hp).2] at e9
    have h1 := hD.1 _ _ _ _ ae (al hq) e9
    have h2 := kl hq
    omega
  refine lv_dup hx hb d_L_law_11 rfl ?_
  have hFc := freew hDm hS hA
  refine va_callv (va_runI (As := []) (rest := [.ref q2]) ⟨hx, hb, hml, hown, hts⟩ (c_M_init l D q2 _) (cwI 0 hts (fun w hw => big_tbl w (gd_M_init w hw).1) rfl rfl rfl (htB _ in_M) (htB _ ml_L_12) (htB _ im_M_init) rfl (by decide +kernel) ⟨Nat.le_of_ble_eq_true rfl, Nat.le_of_ble_eq_true rfl⟩) (preIZ hPm hK hN) rfl rfl hl.1 rfl (lv_room (Nat.le_of_ble_eq_true rfl)) d_L_law_12 ⟨Nat.le_of_ble_eq_true rfl, Nat.le_of_ble_eq_true rfl⟩) hS (fun q _ h => hFc q h) hFc (fun v t H1 locs ht hvm hw hB hz1 hk1 hS => ?_)
  subst hw
  obtain ⟨wm, tm, hIm, hPm1, hKm, hDm1⟩ := hB
  rw [ht] at hPm1
  have hKm := va_K.moved hvm.symm hKm
  obtain ⟨hPx, hDm, hap⟩ := twoc hPx hap hk1 hFc hDm1
  refine lv_astore_n (lv' := [(2, .ref q2), (1, .ref q1), (0, .ref b)]) hx hb d_L_law_15 rfl hl (by decide) rfl (fun ls hl => ?_)
  refine lv_iconst (v := 0) hx hb d_L_law_16 (by decide) ?_
  refine lv_istore_n (lv' := [(3, .int 0), (2, .ref q2), (1, .ref q1), (0, .ref b)]) hx hb d_L_law_17 rfl hl (by decide) rfl (fun ls hl => ?_)
  exact law_loop hL C0 hN (L / 4 + 1) 0 _ _ _ _ _ _ ls (Nat.zero_le L) (by omega) ⟨wx, wm, cA, tm, hIx, hIm, hPx, hPm1, hDx, hDm, hap.symm, hKx, hKm, hS, rel_0⟩ (by omega) (by omega) (lv_sub hl [3, 2, 1, 0] rfl)

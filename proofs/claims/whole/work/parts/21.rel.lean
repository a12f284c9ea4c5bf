theorem xe5 {U : NS} {k w : Int32} : g_X_event_k5 U k w = (f_N_condition U, U) := by
  obtain ⟨c0, c1, c2, c3, c4, c5, c6, c7, c8, c9, c10, c11, c12, c13, c14⟩ := U
  rfl
theorem xe8 {U : NS} {k w : Int32} : g_X_event_k8 U k w = (f_N_condition U, U) := by
  obtain ⟨c0, c1, c2, c3, c4, c5, c6, c7, c8, c9, c10, c11, c12, c13, c14⟩ := U
  rfl
theorem me5 {U : MN} {k w : Int32} : g_M_event_k5 U k w = (f_M_is U, U) := by
  obtain ⟨c0, c1, c2, c3, c4, c5, c6, c7, c8, c9, c10, c11, c12, c13⟩ := U
  rfl
theorem me8 {U : MN} {k w : Int32} : g_M_event_k8 U k w = (f_M_is U, U) := by
  obtain ⟨c0, c1, c2, c3, c4, c5, c6, c7, c8, c9, c10, c11, c12, c13⟩ := U
  rfl
theorem xr4 {U : NS} {k : Int32} : g_X_recover_k4 U k = (f_N_condition U, U) := by
  obtain ⟨c0, c1, c2, c3, c4, c5, c6, c7, c8, c9, c10, c11, c12, c13, c14⟩ := U
  rfl
theorem xm2 {U : Int32 × NS} {t : Int64} : g_X_manager_k2 U t = if U.1 = 0 then (0, t, U.2) else (1, t, U.2) := by
  obtain ⟨r, c0, c1, c2, c3, c4, c5, c6, c7, c8, c9, c10, c11, c12, c13, c14⟩ := U
  rfl
theorem xt8 {U : NS} {k q : Int32} : g_X_two_k8 U k q = (f_N_condition U, U) := by
  obtain ⟨c0, c1, c2, c3, c4, c5, c6, c7, c8, c9, c10, c11, c12, c13, c14⟩ := U
  rfl
theorem xb6 {U : NS} {k n x : Int32} : f_N_undergoBoth_k6 U k n x = U := by
  obtain ⟨c0, c1, c2, c3, c4, c5, c6, c7, c8, c9, c10, c11, c12, c13, c14⟩ := U
  rfl
theorem xb10 {U : NS} {k n x : Int32} : f_N_undergoBoth_k10 U k n x = U := by
  obtain ⟨c0, c1, c2, c3, c4, c5, c6, c7, c8, c9, c10, c11, c12, c13, c14⟩ := U
  rfl
theorem xb2 {U : NS} {k n x : Int32} : f_N_undergoBoth_k2 U k n x = if f_X_isError k = 0 then (if U.2.2.1 = 0 then f_N_undergo U n x else U) else (if f_X_isError n = 0 then (if U.2.2.1 = 0 then f_N_undergo U n x else U) else U) := by
  obtain ⟨c0, c1, c2, c3, c4, c5, c6, c7, c8, c9, c10, c11, c12, c13, c14⟩ := U
  simp only [f_N_undergoBoth_k2, xb6, xb10]
theorem xb {a : NS} {k n : Int32} : f_N_undergoBoth a k n = if a.2.2.2.2.2.2.2.2.1 = 0 then f_N_undergoBoth_k2 (f_N_undergo a k 0) k n 0 else (if a.2.2.2.2.2.2.2.1 = 0 then f_N_undergoBoth_k2 (f_N_undergo a k 1) k n 1 else f_N_undergoBoth_k2 (f_N_undergo a k 0) k n 0) := by
  obtain ⟨c0, c1, c2, c3, c4, c5, c6, c7, c8, c9, c10, c11, c12, c13, c14⟩ := a
  simp only [f_N_undergoBoth, f_N_undergoBoth_j20]
theorem mt14 {U : MN} {k q : Int32} : g_M_two_k14 U k q = (f_M_is U, U) := by
  obtain ⟨c0, c1, c2, c3, c4, c5, c6, c7, c8, c9, c10, c11, c12, c13⟩ := U
  rfl
theorem mt16 {U : MN} {k q : Int32} : g_M_two_k16 U k q = (f_M_is U, U) := by
  obtain ⟨c0, c1, c2, c3, c4, c5, c6, c7, c8, c9, c10, c11, c12, c13⟩ := U
  rfl
theorem mt22 {U : MN} {k q : Int32} : g_M_two_k22 U k q = (f_M_is U, U) := by
  obtain ⟨c0, c1, c2, c3, c4, c5, c6, c7, c8, c9, c10, c11, c12, c13⟩ := U
  rfl
theorem mt24 {U : MN} {k q : Int32} : g_M_two_k24 U k q = (f_M_is U, U) := by
  obtain ⟨c0, c1, c2, c3, c4, c5, c6, c7, c8, c9, c10, c11, c12, c13⟩ := U
  rfl
theorem mt32 {U : MN} {k q : Int32} : g_M_two_k32 U k q = (f_M_is U, U) := by
  obtain ⟨c0, c1, c2, c3, c4, c5, c6, c7, c8, c9, c10, c11, c12, c13⟩ := U
  rfl
theorem mt34 {U : MN} {k q : Int32} : g_M_two_k34 U k q = (f_M_is U, U) := by
  obtain ⟨c0, c1, c2, c3, c4, c5, c6, c7, c8, c9, c10, c11, c12, c13⟩ := U
  rfl
theorem mt40 {U : MN} {k q : Int32} : g_M_two_k40 U k q = (f_M_is U, U) := by
  obtain ⟨c0, c1, c2, c3, c4, c5, c6, c7, c8, c9, c10, c11, c12, c13⟩ := U
  rfl
theorem mt42 {U : MN} {k q : Int32} : g_M_two_k42 U k q = (f_M_is U, U) := by
  obtain ⟨c0, c1, c2, c3, c4, c5, c6, c7, c8, c9, c10, c11, c12, c13⟩ := U
  rfl
theorem mt52 {U : MN} {k q : Int32} : g_M_two_k52 U k q = (f_M_is U, U) := by
  obtain ⟨c0, c1, c2, c3, c4, c5, c6, c7, c8, c9, c10, c11, c12, c13⟩ := U
  rfl
theorem mt54 {U : MN} {k q : Int32} : g_M_two_k54 U k q = (f_M_is U, U) := by
  obtain ⟨c0, c1, c2, c3, c4, c5, c6, c7, c8, c9, c10, c11, c12, c13⟩ := U
  rfl
theorem mt60 {U : MN} {k q : Int32} : g_M_two_k60 U k q = (f_M_is U, U) := by
  obtain ⟨c0, c1, c2, c3, c4, c5, c6, c7, c8, c9, c10, c11, c12, c13⟩ := U
  rfl
theorem mt62 {U : MN} {k q : Int32} : g_M_two_k62 U k q = (f_M_is U, U) := by
  obtain ⟨c0, c1, c2, c3, c4, c5, c6, c7, c8, c9, c10, c11, c12, c13⟩ := U
  rfl
theorem mt70 {U : MN} {k q : Int32} : g_M_two_k70 U k q = (f_M_is U, U) := by
  obtain ⟨c0, c1, c2, c3, c4, c5, c6, c7, c8, c9, c10, c11, c12, c13⟩ := U
  rfl
theorem mt72 {U : MN} {k q : Int32} : g_M_two_k72 U k q = (f_M_is U, U) := by
  obtain ⟨c0, c1, c2, c3, c4, c5, c6, c7, c8, c9, c10, c11, c12, c13⟩ := U
  rfl
theorem mt78 {U : MN} {k q : Int32} : g_M_two_k78 U k q = (f_M_is U, U) := by
  obtain ⟨c0, c1, c2, c3, c4, c5, c6, c7, c8, c9, c10, c11, c12, c13⟩ := U
  rfl
theorem mt80 {U : MN} {k q : Int32} : g_M_two_k80 U k q = (f_M_is U, U) := by
  obtain ⟨c0, c1, c2, c3, c4, c5, c6, c7, c8, c9, c10, c11, c12, c13⟩ := U
  rfl
theorem mt89 {U : MN} {k q : Int32} : g_M_two_k89 U k q = (f_M_is U, U) := by
  obtain ⟨c0, c1, c2, c3, c4, c5, c6, c7, c8, c9, c10, c11, c12, c13⟩ := U
  rfl
theorem mt91 {U : MN} {k q : Int32} : g_M_two_k91 U k q = (f_M_is U, U) := by
  obtain ⟨c0, c1, c2, c3, c4, c5, c6, c7, c8, c9, c10, c11, c12, c13⟩ := U
  rfl
theorem mt97 {U : MN} {k q : Int32} : g_M_two_k97 U k q = (f_M_is U, U) := by
  obtain ⟨c0, c1, c2, c3, c4, c5, c6, c7, c8, c9, c10, c11, c12, c13⟩ := U
  rfl
theorem mt99 {U : MN} {k q : Int32} : g_M_two_k99 U k q = (f_M_is U, U) := by
  obtain ⟨c0, c1, c2, c3, c4, c5, c6, c7, c8, c9, c10, c11, c12, c13⟩ := U
  rfl
theorem mt107 {U : MN} {k q : Int32} : g_M_two_k107 U k q = (f_M_is U, U) := by
  obtain ⟨c0, c1, c2, c3, c4, c5, c6, c7, c8, c9, c10, c11, c12, c13⟩ := U
  rfl
theorem mt109 {U : MN} {k q : Int32} : g_M_two_k109 U k q = (f_M_is U, U) := by
  obtain ⟨c0, c1, c2, c3, c4, c5, c6, c7, c8, c9, c10, c11, c12, c13⟩ := U
  rfl
theorem mt115 {U : MN} {k q : Int32} : g_M_two_k115 U k q = (f_M_is U, U) := by
  obtain ⟨c0, c1, c2, c3, c4, c5, c6, c7, c8, c9, c10, c11, c12, c13⟩ := U
  rfl
theorem mt117 {U : MN} {k q : Int32} : g_M_two_k117 U k q = (f_M_is U, U) := by
  obtain ⟨c0, c1, c2, c3, c4, c5, c6, c7, c8, c9, c10, c11, c12, c13⟩ := U
  rfl
theorem cond_is {a : NS} {b : MN} (h : RelN a b) : f_N_condition a = f_M_is b := by
  obtain ⟨s, r, off, fl, wt, mw, single, given, lis, snd, good, fine, offs, asked, rows, mrows, lt, first, masked, rfl, rfl, -⟩ := h
  rfl
theorem RelN.off {a : NS} {b : MN} (h : RelN a b) : a.2.2.1 = b.2.2.1 := by
  obtain ⟨s, r, off, fl, wt, mw, single, given, lis, snd, good, fine, offs, asked, rows, mrows, lt, first, masked, rfl, rfl, -⟩ := h
  rfl
theorem RelN.lis {a : NS} {b : MN} (h : RelN a b) : a.2.2.2.2.2.2.2.1 = b.2.2.2.2.2.2.2.2.1 := by
  obtain ⟨s, r, off, fl, wt, mw, single, given, lis, snd, good, fine, offs, asked, rows, mrows, lt, first, masked, rfl, rfl, -⟩ := h
  rfl
theorem RelN.snd {a : NS} {b : MN} (h : RelN a b) : a.2.2.2.2.2.2.2.2.1 = b.2.2.2.2.2.1 := by
  obtain ⟨s, r, off, fl, wt, mw, single, given, lis, snd, good, fine, offs, asked, rows, mrows, lt, first, masked, rfl, rfl, -⟩ := h
  rfl
theorem rn_counter (w : Int32) {a : NS} {b : MN} (h : RelN a b) : g_X_counter a w = (g_M_counter b w).1 ∧ RelN a (g_M_counter b w).2 := by
  have h0 := h
  obtain ⟨s, r, off, fl, wt, mw, single, given, lis, snd, good, fine, offs, asked, rows, mrows, lt, first, masked, rfl, rfl, -⟩ := h
  simp only [g_X_counter, g_M_counter]
  by_cases hw : w = 0
  · simp only [if_pos hw]; exact ⟨trivial, h0⟩
  · simp only [if_neg hw]; exact ⟨trivial, h0⟩
theorem rn_state {a : NS} {b : MN} (h : RelN a b) : g_X_state a = (g_M_state b).1 ∧ RelN a (g_M_state b).2 := ⟨cond_is h, h⟩
theorem rn_flag {a : NS} {b : MN} (h : RelN a b) : g_X_flag a = (g_M_flag b).1 ∧ RelN a (g_M_flag b).2 := by
  have h0 := h
  obtain ⟨s, r, off, fl, wt, mw, single, given, lis, snd, good, fine, offs, asked, rows, mrows, lt, first, masked, rfl, rfl, -⟩ := h
  exact ⟨rfl, h0⟩
theorem rn_suspended {a : NS} {b : MN} (h : RelN a b) : g_X_suspended a = (g_M_suspended b).1 ∧ RelN a (g_M_suspended b).2 := by
  have h0 := h
  obtain ⟨s, r, off, fl, wt, mw, single, given, lis, snd, good, fine, offs, asked, rows, mrows, lt, first, masked, rfl, rfl, -, -, -, -, -, -, h7, -⟩ := h
  simp only [g_X_suspended, g_M_suspended]
  by_cases hw : off = 0
  · simp only [if_pos hw]; exact ⟨(h7 hw).1, h0⟩
  · simp only [if_neg hw]; exact ⟨trivial, h0⟩
theorem rn_shot (w : Int32) (hw : w = 0 ∨ w = 1) {a : NS} {b : MN} (h : RelN a b) : (g_X_shot a w).1 = (g_M_shot b w).1 ∧ RelN (g_X_shot a w).2 (g_M_shot b w).2 := by
  obtain ⟨s, r, off, fl, wt, mw, single, given, lis, snd, good, fine, offs, asked, rows, mrows, lt, first, masked, rfl, rfl, h1, h2, h3⟩ := h
  exact ⟨rfl, s, r, off, fl, wt, mw, w, given, lis, snd, good, fine, offs, asked, rows, mrows, lt, first, masked, rfl, rfl, h1, hw, h3⟩
theorem rn_listen (w : Int32) (hw : w = 0 ∨ w = 1) {a : NS} {b : MN} (h : RelN a b) : (g_X_listen a w).1 = (g_M_listen b w).1 ∧ RelN (g_X_listen a w).2 (g_M_listen b w).2 := by
  have h0 := h
  obtain ⟨s, r, off, fl, wt, mw, single, given, lis, snd, good, fine, offs, asked, rows, mrows, lt, first, masked, rfl, rfl, h1, h2, h3, h4, h5, ⟨i1, i2, i3, i4, i5, i6⟩, h7, h8, h9, h10, h11⟩ := h
  have key : RelN (s, r, off, 0, wt, single, given, w, snd, good, offs, asked, first, lt, rows) (s, r, off, 0, mw, snd, single, given, w, masked, lt, mrows, offs, fine) :=
    ⟨s, r, off, 0, wt, mw, single, given, w, snd, good, fine, offs, asked, rows, mrows, lt, first, masked, rfl, rfl, h1, h2, hw, h4, h5, ⟨i1, i2, i3, i4, by decide, by decide⟩, h7, h8, fun _ => rfl, h10, h11⟩
  simp only [g_X_listen, g_M_listen]
  by_cases ho : off = 0
  · simp only [if_pos ho]
    by_cases hl : lis = w
    · simp only [if_pos hl]; exact ⟨trivial, key⟩
    · simp only [if_neg hl]; exact ⟨trivial, key⟩
  · simp only [if_neg ho]; exact ⟨trivial, h0⟩
theorem isKind_iff {k : Int32} : f_X_isKind k = 0 ↔ ¬ (0 ≤ k ∧ k ≤ 10) := by
  unfold f_X_isKind
  by_cases h1 : k < 0
  · rw [if_pos h1]
    exact ⟨fun _ q => nle_of_lt h1 q.1, fun _ => rfl⟩
  · rw [if_neg h1]
    by_cases h2 : 10 < k
    · rw [if_pos h2]
      exact ⟨fun _ q => nle_of_lt h2 q.2, fun _ => rfl⟩
    · rw [if_neg h2]
      exact ⟨fun q => absurd q (by decide), fun q => absurd ⟨le_of_nlt h1, le_of_nlt h2⟩ q⟩
theorem rn_event (k w : Int32) (hw : w = 0 ∨ w = 1) {a : NS} {b : MN} (h : RelN a b) : (g_X_event a k w).1 = (g_M_event b k w).1 ∧ RelN (g_X_event a k w).2 (g_M_event b k w).2 := by
  have eo := h.off
  have el := h.lis
  have hX : g_X_event a k w = if f_X_isKind k = 0 then (-2, a) else (if a.2.2.1 = 0 then (if a.2.2.2.2.2.2.2.1 = 0 then (f_N_condition (f_N_undergo a k w), f_N_undergo a k w) else (if w = 0 then (f_N_condition (f_N_undergo a k w), f_N_undergo a k w) else (-3, a))) else (-3, a)) := by
    obtain ⟨c0, c1, c2, c3, c4, c5, c6, c7, c8, c9, c10, c11, c12, c13, c14⟩ := a
    simp only [g_X_event, xe5, xe8]
  have hM : g_M_event b k w = if k < 0 then (-2, b) else (if k ≤ 10 then (if b.2.2.1 = 0 then (if b.2.2.2.2.2.2.2.2.1 = 0 then (f_M_is (f_M_happens b k w), f_M_happens b k w) else (if w = 0 then (f_M_is (f_M_happens b k w), f_M_happens b k w) else (-3, b))) else (-3, b)) else (-2, b)) := by
    obtain ⟨c0, c1, c2, c3, c4, c5, c6, c7, c8, c9, c10, c11, c12, c13⟩ := b
    simp only [g_M_event, me5, me8]
  rw [hX, hM, ← eo, ← el]
  by_cases hk : 0 ≤ k ∧ k ≤ 10
  · rw [if_neg (fun q => (isKind_iff.mp q) hk), if_neg (fun q => nle_of_lt q hk.1), if_pos hk.2]
    by_cases ho : a.2.2.1 = 0
    · have hr := rel_hap h ho hk.1 hk.2 hw
      generalize f_N_undergo a k w = U at hr ⊢
      generalize f_M_happens b k w = V at hr ⊢
      rw [if_pos ho, if_pos ho]
      by_cases hl : a.2.2.2.2.2.2.2.1 = 0
      · rw [if_pos hl, if_pos hl]; exact ⟨cond_is hr, hr⟩
      · rw [if_neg hl, if_neg hl]
        by_cases hw0 : w = 0
        · rw [if_pos hw0, if_pos hw0]; exact ⟨cond_is hr, hr⟩
        · rw [if_neg hw0, if_neg hw0]; exact ⟨rfl, h⟩
    · rw [if_neg ho, if_neg ho]; exact ⟨rfl, h⟩
  · rw [if_pos (isKind_iff.mpr hk)]
    by_cases h1 : k < 0
    · rw [if_pos h1]; exact ⟨rfl, h⟩
    · rw [if_neg h1, if_neg (fun q => hk ⟨le_of_nlt h1, q⟩)]; exact ⟨rfl, h⟩
theorem rn_recover (k : Int32) {a : NS} {b : MN} (h : RelN a b) : (g_X_recover a k).1 = (g_M_recover b k).1 ∧ RelN (g_X_recover a k).2 (g_M_recover b k).2 := by
  have h0 := h
  obtain ⟨s, r, off, fl, wt, mw, single, given, lis, snd, good, fine, offs, asked, rows, mrows, lt, first, masked, rfl, rfl, h1, h2, h3, h4, h5, ⟨i1, i2, i3, i4, i5, i6⟩, h7, h8, h9, h10, h11⟩ := h
  have back : ∀ m2 : Int32, RelN (0, 0, 0, 0, 0, single, given, lis, snd, good, offs, asked, first, lt, rows) (0, 0, 0, 0, 0, snd, single, given, lis, masked, lt, m2, offs, fine) := fun m2 =>
    ⟨0, 0, 0, 0, 0, 0, single, given, lis, snd, good, fine, offs, asked, rows, m2, lt, first, masked, rfl, rfl, Or.inl rfl, h2, h3, h4, h5, ⟨by decide, by decide, by decide, by decide, by decide, by decide⟩, fun _ => ⟨rfl, by decide⟩, fun q => absurd q (by decide), fun _ => rfl, h10, h11⟩
  have hX : g_X_recover (s, r, off, fl, wt, single, given, lis, snd, good, offs, asked, first, lt, rows) k = if 1 ≤ k then (if off = 0 then (-3, (s, r, off, fl, wt, single, given, lis, snd, good, offs, asked, first, lt, rows)) else (if lt = 0 then (-3, (s, r, off, fl, wt, single, given, lis, snd, good, offs, asked, first, lt, rows)) else (f_N_condition (f_N_countRows (s, r, off, fl, wt, single, given, lis, snd, good, offs, asked, first, lt, rows) k), f_N_countRows (s, r, off, fl, wt, single, given, lis, snd, good, offs, asked, first, lt, rows) k))) else (-2, (s, r, off, fl, wt, single, given, lis, snd, good, offs, asked, first, lt, rows)) := by
    simp only [g_X_recover, xr4]
  rw [hX]
  simp only [g_M_recover]
  by_cases hk : 1 ≤ k
  · rw [if_pos hk, if_pos hk]
    by_cases ho : off = 0
    · rw [if_pos ho, if_pos ho]; exact ⟨rfl, h0⟩
    · rw [if_neg ho, if_neg ho]
      by_cases hlt : lt = 0
      · rw [if_pos hlt, if_pos hlt]; exact ⟨rfl, h0⟩
      · rw [if_neg hlt, if_neg hlt]
        have ho1 := b01 h1 ho
        obtain ⟨rfl, r0, r1⟩ := h8 ho1
        have e1 : (128 - rows).toInt = 128 - rows.toInt := by rw [tsub (by rw [t128]; omega) (by rw [t128]; omega), t128]
        have hk1 : 1 ≤ k.toInt := by rw [ile, t1] at hk; exact hk
        have hk2 : k.toInt < 2147483648 := k.toInt_lt
        by_cases hc : k < 128 - rows
        · have hlt2 : k.toInt < 128 - rows.toInt := by rw [ilt, e1] at hc; exact hc
          have e2 : (rows + k).toInt = rows.toInt + k.toInt := tadd rfl (by omega) (by omega)
          have hle : k ≤ 128 - rows := by rw [ile, e1]; omega
          have hne : ¬ rows + k = 128 := by rw [ieq, e2, t128]; omega
          have eX : f_N_countRows (s, r, off, fl, wt, single, given, lis, snd, good, offs, asked, first, lt, rows) k = (s, r, off, fl, wt, single, given, lis, snd, good, offs, asked, first, lt, rows + k) := by simp only [f_N_countRows, if_pos hc]
          rw [eX, if_pos hle, if_neg hne]
          have hr : RelN (s, r, off, fl, wt, single, given, lis, snd, good, offs, asked, first, lt, rows + k) (s, r, off, fl, mw, snd, single, given, lis, masked, lt, rows + k, offs, fine) :=
            ⟨s, r, off, fl, wt, mw, single, given, lis, snd, good, fine, offs, asked, rows + k, rows + k, lt, first, masked, rfl, rfl, h1, h2, h3, h4, h5, ⟨i1, i2, i3, i4, i5, i6⟩, h7, fun _ => ⟨rfl, by omega, by omega⟩, h9, h10, h11⟩
          exact ⟨cond_is hr, hr⟩
        · have eX : f_N_countRows (s, r, off, fl, wt, single, given, lis, snd, good, offs, asked, first, lt, rows) k = (0, 0, 0, 0, 0, single, given, lis, snd, good, offs, asked, first, lt, rows) := by simp only [f_N_countRows, if_neg hc, f_N_countRows_k2, f_N_comeBack]
          rw [eX]
          by_cases hle : k ≤ 128 - rows
          · have heq : rows + k = 128 := by
              rw [ilt, e1] at hc
              rw [ile, e1] at hle
              have e2 : (rows + k).toInt = rows.toInt + k.toInt := tadd rfl (by omega) (by omega)
              rw [ieq, e2, t128]; omega
            rw [if_pos hle, if_pos heq]
            exact ⟨cond_is (back (rows + k)), back (rows + k)⟩
          · rw [if_neg hle]
            exact ⟨cond_is (back 128), back 128⟩
  · rw [if_neg hk, if_neg hk]; exact ⟨rfl, h0⟩
theorem lcl {x y : Int64} : lg_cmp x y < 0 ↔ x < y := by
  have h := lg_cmp_ge x y
  constructor
  · intro q
    rcases Int64.lt_or_le x y with r | r
    · exact r
    · exact absurd (h.mpr r) (nle_of_lt q)
  · intro q
    rcases Int32.lt_or_le (lg_cmp x y) 0 with r | r
    · exact r
    · exact absurd (h.mp r) (by
        rw [Int64.lt_iff_toInt_lt] at q
        rw [Int64.le_iff_toInt_le]
        omega)
theorem rn_manager (t0 tt : Int64) (ht0 : 0 ≤ t0) {a : NS} {b : MN} (h : RelN a b) : (g_X_manager t0 a tt).1 = (g_M_manager t0 b tt).1 ∧ (g_X_manager t0 a tt).2.1 = (g_M_manager t0 b tt).2.1 ∧ 0 ≤ (g_X_manager t0 a tt).2.1 ∧ RelN (g_X_manager t0 a tt).2.2 (g_M_manager t0 b tt).2.2 := by
  have h0 := h
  obtain ⟨s, r, off, fl, wt, mw, single, given, lis, snd, good, fine, offs, asked, rows, mrows, lt, first, masked, rfl, rfl, h1, h2, h3, h4, h5, h6, h7, h8, h9, h10, h11⟩ := h
  have hX : g_X_manager t0 (s, r, off, fl, wt, single, given, lis, snd, good, offs, asked, first, lt, rows) tt = if 0 ≤ lg_cmp tt t0 then (if (f_N_mayComeBack (s, r, off, fl, wt, single, given, lis, snd, good, offs, asked, first, lt, rows) tt).1 = 0 then (0, tt, (f_N_mayComeBack (s, r, off, fl, wt, single, given, lis, snd, good, offs, asked, first, lt, rows) tt).2) else (1, tt, (f_N_mayComeBack (s, r, off, fl, wt, single, given, lis, snd, good, offs, asked, first, lt, rows) tt).2)) else (-2, t0, (s, r, off, fl, wt, single, given, lis, snd, good, offs, asked, first, lt, rows)) := by
    simp only [g_X_manager, xm2]
  have n1 : ¬ (1 : Int32) = 0 := by decide
  rw [hX]
  by_cases hc : 0 ≤ lg_cmp tt t0
  · have htt : 0 ≤ tt := by
      have q := (lg_cmp_ge tt t0).mp hc
      rw [Int64.le_iff_toInt_le] at q ht0 ⊢
      omega
    have hn : ¬ lg_cmp tt 0 < 0 := fun q => nle_of_lt q ((lg_cmp_ge tt 0).mpr htt)
    rw [if_pos hc]
    simp only [g_M_manager, if_neg hn, if_pos hc]
    by_cases ho : off = 0
    · have eX : f_N_mayComeBack (s, r, off, fl, wt, single, given, lis, snd, good, offs, asked, first, lt, rows) tt = (1, (s, r, off, fl, wt, single, given, lis, snd, good, offs, asked, first, lt, rows)) := by simp only [f_N_mayComeBack, if_pos ho]
      rw [eX, if_neg n1, if_pos ho]
      exact ⟨rfl, rfl, htt, h0⟩
    · rw [if_neg ho]
      have key : ∀ (k2 l2 : Int32) (f2 m2 : Int64), (l2 = 0 ∨ l2 = 1) → ((k2 = 0 ∧ m2 = -1 ∧ l2 = 0) ∨ (k2 = 1 ∧ m2 = f2 ∧ 0 ≤ f2)) → RelN (s, r, off, fl, wt, single, given, lis, snd, good, offs, k2, f2, l2, rows) (s, r, off, fl, mw, snd, single, given, lis, m2, l2, mrows, offs, fine) := fun k2 l2 f2 m2 hl hh =>
        ⟨s, r, off, fl, wt, mw, single, given, lis, snd, good, fine, offs, k2, rows, mrows, l2, f2, m2, rfl, rfl, h1, h2, h3, h4, hl, h6, h7, h8, h9, h10, hh⟩
      rcases h11 with ⟨rfl, rfl, rfl⟩ | ⟨rfl, rfl, hf⟩
      · have eX : f_N_mayComeBack (s, r, off, fl, wt, single, given, lis, snd, good, offs, 0, first, 0, rows) tt = (0, (s, r, off, fl, wt, single, given, lis, snd, good, offs, 1, tt, 0, rows)) := by simp only [f_N_mayComeBack, if_neg ho, if_true]
        have z : tt - tt = 0 := Int64.sub_self tt
        rw [eX, if_pos rfl, z, if_neg (show ¬ 0 ≤ lg_cmp (-1) 0 by decide), if_pos rfl, if_neg (show ¬ 0 ≤ lg_cmp 0 100 by decide), if_pos (show lg_cmp 0 10 < 0 by decide)]
        exact ⟨rfl, rfl, htt, key 1 0 tt tt (Or.inl rfl) (Or.inr ⟨rfl, rfl, htt⟩)⟩
      · have hg : 0 ≤ lg_cmp masked 0 := (lg_cmp_ge masked 0).mpr hf
        rw [if_pos hg]
        generalize hd : tt - masked = d
        have eX : f_N_mayComeBack (s, r, off, fl, wt, single, given, lis, snd, good, offs, 1, masked, lt, rows) tt = if lg_cmp d (if offs ≤ 5 then 10 else 100) < 0 then (lt, (s, r, off, fl, wt, single, given, lis, snd, good, offs, 1, masked, lt, rows)) else (1, (s, r, off, fl, wt, single, given, lis, snd, good, offs, 1, masked, 1, rows)) := by
          simp only [f_N_mayComeBack, if_neg ho, if_neg n1, f_N_delay, hd]
        rw [eX]
        have yes := key 1 1 masked masked (Or.inr rfl) (Or.inr ⟨rfl, rfl, hf⟩)
        by_cases hlt : lt = 0
        · subst hlt
          have no := key 1 0 masked masked (Or.inl rfl) (Or.inr ⟨rfl, rfl, hf⟩)
          rw [if_pos (rfl : (0 : Int32) = 0)]
          by_cases h5o : offs ≤ 5
          · have h6o : ¬ 6 ≤ offs := fun q => by rw [ile, t6] at q; rw [ile, show (5 : Int32).toInt = 5 by decide] at h5o; omega
            rw [if_pos h5o, if_neg h6o]
            by_cases hd1 : lg_cmp d 10 < 0
            · have hd2 : ¬ 0 ≤ lg_cmp d 100 := fun q => by
                have q2 := (lg_cmp_ge d 100).mp q
                have q3 := lcl.mp hd1
                rw [Int64.le_iff_toInt_le, show (100 : Int64).toInt = 100 by decide] at q2
                rw [Int64.lt_iff_toInt_lt, show (10 : Int64).toInt = 10 by decide] at q3
                omega
              rw [if_pos hd1, if_neg hd2, if_pos hd1, if_pos rfl]
              exact ⟨rfl, rfl, htt, no⟩
            · rw [if_neg hd1, if_neg hd1, if_neg n1]
              by_cases hd2 : 0 ≤ lg_cmp d 100
              · rw [if_pos hd2]; exact ⟨rfl, rfl, htt, yes⟩
              · rw [if_neg hd2]; exact ⟨rfl, rfl, htt, yes⟩
          · have h6o : 6 ≤ offs := by rw [ile, show (5 : Int32).toInt = 5 by decide] at h5o; rw [ile, t6]; omega
            rw [if_neg h5o, if_pos h6o]
            by_cases hd1 : lg_cmp d 100 < 0
            · rw [if_pos hd1, if_neg (nle_of_lt hd1), if_pos rfl]
              by_cases hd2 : lg_cmp d 10 < 0
              · rw [if_pos hd2]; exact ⟨rfl, rfl, htt, no⟩
              · rw [if_neg hd2]; exact ⟨rfl, rfl, htt, no⟩
            · rw [if_neg hd1, if_neg n1, if_pos (le_of_nlt hd1)]
              exact ⟨rfl, rfl, htt, yes⟩
        · have hl1 := b01 h5 hlt
          subst hl1
          rw [if_neg n1]
          by_cases hd1 : lg_cmp d (if offs ≤ 5 then 10 else 100) < 0
          · rw [if_pos hd1, if_neg n1]; exact ⟨rfl, rfl, htt, yes⟩
          · rw [if_neg hd1, if_neg n1]; exact ⟨rfl, rfl, htt, yes⟩
  · rw [if_neg hc]
    simp only [g_M_manager]
    by_cases hn : lg_cmp tt 0 < 0
    · rw [if_pos hn]; exact ⟨rfl, rfl, ht0, h0⟩
    · rw [if_neg hn, if_neg hc]; exact ⟨rfl, rfl, ht0, h0⟩
def mTwoK (u : MN) (k q hi x : Int32) : Int32 × MN := if u.2.2.1 = 0 then (if f_M_error k = 0 then (f_M_is (f_M_happens u hi x), f_M_happens u hi x) else (if f_M_error q = 0 then (f_M_is (f_M_happens u hi x), f_M_happens u hi x) else (f_M_is u, u))) else (f_M_is u, u)
theorem two_k8 {u : MN} {k q : Int32} (h : q ≤ k) : g_M_two_k8 u k q = mTwoK u k q k 0 := by
  obtain ⟨a0, a1, a2, a3, a4, a5, a6, a7, a8, a9, a10, a11, a12, a13⟩ := u
  simp only [g_M_two_k8, mt14, mt16, mt22, mt24, mTwoK, if_pos h]
theorem two_k26 {u : MN} {k q : Int32} (h : ¬ q ≤ k) : g_M_two_k26 u k q = mTwoK u k q q 0 := by
  obtain ⟨a0, a1, a2, a3, a4, a5, a6, a7, a8, a9, a10, a11, a12, a13⟩ := u
  simp only [g_M_two_k26, mt32, mt34, mt40, mt42, mTwoK, if_neg h]
theorem two_k46 {u : MN} {k q : Int32} (h : q ≤ k) : g_M_two_k46 u k q = mTwoK u k q k 0 := by
  obtain ⟨a0, a1, a2, a3, a4, a5, a6, a7, a8, a9, a10, a11, a12, a13⟩ := u
  simp only [g_M_two_k46, mt52, mt54, mt60, mt62, mTwoK, if_pos h]
theorem two_k64 {u : MN} {k q : Int32} (h : ¬ q ≤ k) : g_M_two_k64 u k q = mTwoK u k q q 0 := by
  obtain ⟨a0, a1, a2, a3, a4, a5, a6, a7, a8, a9, a10, a11, a12, a13⟩ := u
  simp only [g_M_two_k64, mt70, mt72, mt78, mt80, mTwoK, if_neg h]
theorem two_k83 {u : MN} {k q : Int32} (h : q ≤ k) : g_M_two_k83 u k q = mTwoK u k q k 1 := by
  obtain ⟨a0, a1, a2, a3, a4, a5, a6, a7, a8, a9, a10, a11, a12, a13⟩ := u
  simp only [g_M_two_k83, mt89, mt91, mt97, mt99, mTwoK, if_pos h]
theorem two_k101 {u : MN} {k q : Int32} (h : ¬ q ≤ k) : g_M_two_k101 u k q = mTwoK u k q q 1 := by
  obtain ⟨a0, a1, a2, a3, a4, a5, a6, a7, a8, a9, a10, a11, a12, a13⟩ := u
  simp only [g_M_two_k101, mt107, mt109, mt115, mt117, mTwoK, if_neg h]
theorem two_core {a : NS} {b : MN} {k q lo hi x : Int32} (h : RelN a b) (hoff : a.2.2.1 = 0) (hx : x = 0 ∨ x = 1) (hk : 0 ≤ k ∧ k ≤ 10) (hq : 0 ≤ q ∧ q ≤ 10) (hlh : (lo = q ∧ hi = k) ∨ (lo = k ∧ hi = q)) :
    f_N_condition (f_N_undergoBoth_k2 (f_N_undergo a lo x) lo hi x) = (mTwoK (f_M_happens b lo x) k q hi x).1 ∧ RelN (f_N_undergoBoth_k2 (f_N_undergo a lo x) lo hi x) (mTwoK (f_M_happens b lo x) k q hi x).2 := by
  have hlo : 0 ≤ lo ∧ lo ≤ 10 := by rcases hlh with ⟨rfl, rfl⟩ | ⟨rfl, rfl⟩ <;> assumption
  have hhi : 0 ≤ hi ∧ hi ≤ 10 := by rcases hlh with ⟨rfl, rfl⟩ | ⟨rfl, rfl⟩ <;> assumption
  have hr := rel_hap h hoff hlo.1 hlo.2 hx
  generalize f_N_undergo a lo x = a2 at hr ⊢
  generalize f_M_happens b lo x = b2 at hr ⊢
  have eo := hr.off
  have eU : f_N_undergoBoth_k2 a2 lo hi x = if f_M_error lo = 0 then (if a2.2.2.1 = 0 then f_N_undergo a2 hi x else a2) else (if f_M_error hi = 0 then (if a2.2.2.1 = 0 then f_N_undergo a2 hi x else a2) else a2) := by
    rw [← err_eq hlo.1 hlo.2, ← err_eq hhi.1 hhi.2]
    exact xb2
  rw [eU]
  unfold mTwoK
  rw [← eo]
  by_cases ho : a2.2.2.1 = 0
  · have hr2 := rel_hap hr ho hhi.1 hhi.2 hx
    simp only [if_pos ho]
    rcases hlh with ⟨rfl, rfl⟩ | ⟨rfl, rfl⟩
    · by_cases e1 : f_M_error lo = 0
      · by_cases e2 : f_M_error hi = 0
        · simp only [if_pos e1, if_pos e2]; exact ⟨cond_is hr2, hr2⟩
        · simp only [if_pos e1, if_neg e2]; exact ⟨cond_is hr2, hr2⟩
      · by_cases e2 : f_M_error hi = 0
        · simp only [if_neg e1, if_pos e2]; exact ⟨cond_is hr2, hr2⟩
        · simp only [if_neg e1, if_neg e2]; exact ⟨cond_is hr, hr⟩
    · by_cases e1 : f_M_error lo = 0
      · simp only [if_pos e1]; exact ⟨cond_is hr2, hr2⟩
      · by_cases e2 : f_M_error hi = 0
        · simp only [if_neg e1, if_pos e2]; exact ⟨cond_is hr2, hr2⟩
        · simp only [if_neg e1, if_neg e2]; exact ⟨cond_is hr, hr⟩
  · simp only [if_neg ho]
    by_cases e1 : f_M_error lo = 0
    · simp only [if_pos e1]; exact ⟨cond_is hr, hr⟩
    · by_cases e2 : f_M_error hi = 0
      · simp only [if_neg e1, if_pos e2]; exact ⟨cond_is hr, hr⟩
      · simp only [if_neg e1, if_neg e2]; exact ⟨cond_is hr, hr⟩
theorem kind1 {k : Int32} : (¬ f_X_isKind k = 0 ∧ ¬ k = 0) ↔ (¬ k < 1 ∧ ¬ 10 < k) := by
  rw [isKind_iff]
  constructor
  · rintro ⟨h1, h2⟩
    have h1 := Classical.not_not.mp h1
    rw [ile, ile, t0, t10] at h1
    rw [ieq, t0] at h2
    rw [ilt, ilt, t1, t10]
    omega
  · rintro ⟨h1, h2⟩
    rw [ilt, t1] at h1
    rw [ilt, t10] at h2
    refine ⟨fun q => q ⟨by rw [ile, t0]; omega, by rw [ile, t10]; omega⟩, ?_⟩
    rw [ieq, t0]
    omega
theorem rn_two (k q : Int32) {a : NS} {b : MN} (h : RelN a b) : (g_X_two a k q).1 = (g_M_two b k q).1 ∧ RelN (g_X_two a k q).2 (g_M_two b k q).2 := by
  have eo := h.off
  have el := h.lis
  have es := h.snd
  by_cases hr : (¬ k < 1 ∧ ¬ 10 < k) ∧ (¬ q < 1 ∧ ¬ 10 < q)
  · have hk := kind1.mpr hr.1
    have hq := kind1.mpr hr.2
    have hk2 := Classical.not_not.mp (fun z => hk.1 (isKind_iff.mpr z))
    have hq2 := Classical.not_not.mp (fun z => hq.1 (isKind_iff.mpr z))
    have eX : g_X_two a k q = if a.2.2.1 = 0 then (f_N_condition (f_N_undergoBoth a (if q < k then q else k) (if k < q then q else k)), f_N_undergoBoth a (if q < k then q else k) (if k < q then q else k)) else (-3, a) := by
      obtain ⟨a0, a1, a2, a3, a4, a5, a6, a7, a8, a9, a10, a11, a12, a13, a14⟩ := a
      simp only [g_X_two, xt8, if_neg hk.1, if_neg hk.2, if_neg hq.1, if_neg hq.2]
    have eM : g_M_two b k q = if b.2.2.1 = 0 then (if b.2.2.2.2.2.1 = 0 then (if q ≤ k then mTwoK (f_M_happens b q 0) k q k 0 else mTwoK (f_M_happens b k 0) k q q 0) else (if b.2.2.2.2.2.2.2.2.1 = 0 then (if q ≤ k then mTwoK (f_M_happens b q 1) k q k 1 else mTwoK (f_M_happens b k 1) k q q 1) else (if q ≤ k then mTwoK (f_M_happens b q 0) k q k 0 else mTwoK (f_M_happens b k 0) k q q 0))) else (-3, b) := by
      obtain ⟨a0, a1, a2, a3, a4, a5, a6, a7, a8, a9, a10, a11, a12, a13⟩ := b
      by_cases hc : q ≤ k
      · simp only [g_M_two, if_neg hr.1.1, if_neg hr.1.2, if_neg hr.2.1, if_pos (le_of_nlt hr.2.2), if_pos hc, two_k8 hc, two_k46 hc, two_k83 hc]
      · simp only [g_M_two, if_neg hr.1.1, if_neg hr.1.2, if_neg hr.2.1, if_pos (le_of_nlt hr.2.2), if_neg hc, two_k26 hc, two_k64 hc, two_k101 hc]
    rw [eX, eM, ← eo, ← el, ← es]
    by_cases ho : a.2.2.1 = 0
    · rw [if_pos ho, if_pos ho]
      by_cases hc : q ≤ k
      · have e1 : (if q < k then q else k) = q := by
          by_cases z : q < k
          · rw [if_pos z]
          · rw [if_neg z]
            have z := le_of_nlt z
            rw [ile] at z hc
            rw [ieq]; omega
        have e2 : (if k < q then q else k) = k := by rw [if_neg (fun z => nle_of_lt z hc)]
        rw [e1, e2]
        simp only [if_pos hc]
        have c0 := two_core (k := k) (q := q) (lo := q) (hi := k) h ho (Or.inl rfl) hk2 hq2 (Or.inl ⟨rfl, rfl⟩)
        have c1 := two_core (k := k) (q := q) (lo := q) (hi := k) h ho (Or.inr rfl) hk2 hq2 (Or.inl ⟨rfl, rfl⟩)
        rw [xb]
        by_cases hs : a.2.2.2.2.2.2.2.2.1 = 0
        · simp only [if_pos hs]; exact c0
        · by_cases hl : a.2.2.2.2.2.2.2.1 = 0
          · simp only [if_neg hs, if_pos hl]; exact c1
          · simp only [if_neg hs, if_neg hl]; exact c0
      · have e1 : (if q < k then q else k) = k := by
          rw [if_neg (fun z => hc (by rw [ilt] at z; rw [ile]; omega))]
        have e2 : (if k < q then q else k) = q := by
          rw [if_pos (by rw [ile] at hc; rw [ilt]; omega)]
        rw [e1, e2]
        simp only [if_neg hc]
        have c0 := two_core (k := k) (q := q) (lo := k) (hi := q) h ho (Or.inl rfl) hk2 hq2 (Or.inr ⟨rfl, rfl⟩)
        have c1 := two_core (k := k) (q := q) (lo := k) (hi := q) h ho (Or.inr rfl) hk2 hq2 (Or.inr ⟨rfl, rfl⟩)
        rw [xb]
        by_cases hs : a.2.2.2.2.2.2.2.2.1 = 0
        · simp only [if_pos hs]; exact c0
        · by_cases hl : a.2.2.2.2.2.2.2.1 = 0
          · simp only [if_neg hs, if_pos hl]; exact c1
          · simp only [if_neg hs, if_neg hl]; exact c0
    · rw [if_neg ho, if_neg ho]; exact ⟨rfl, h⟩
  · have eX : g_X_two a k q = (-2, a) := by
      obtain ⟨a0, a1, a2, a3, a4, a5, a6, a7, a8, a9, a10, a11, a12, a13, a14⟩ := a
      simp only [g_X_two]
      by_cases z1 : f_X_isKind k = 0
      · rw [if_pos z1]
      · rw [if_neg z1]
        by_cases z2 : f_X_isKind q = 0
        · rw [if_pos z2]
        · rw [if_neg z2]
          by_cases z3 : k = 0
          · rw [if_pos z3]
          · rw [if_neg z3]
            by_cases z4 : q = 0
            · rw [if_pos z4]
            · exact absurd ⟨kind1.mp ⟨z1, z3⟩, kind1.mp ⟨z2, z4⟩⟩ hr
    have eM : g_M_two b k q = (-2, b) := by
      obtain ⟨a0, a1, a2, a3, a4, a5, a6, a7, a8, a9, a10, a11, a12, a13⟩ := b
      simp only [g_M_two]
      by_cases z1 : k < 1
      · rw [if_pos z1]
      · rw [if_neg z1]
        by_cases z2 : 10 < k
        · rw [if_pos z2]
        · rw [if_neg z2]
          by_cases z3 : q < 1
          · rw [if_pos z3]
          · rw [if_neg z3]
            by_cases z4 : q ≤ 10
            · exact absurd ⟨⟨z1, z2⟩, ⟨z3, fun z => nle_of_lt z z4⟩⟩ hr
            · rw [if_neg z4]
    rw [eX, eM]
    exact ⟨rfl, h⟩
theorem rel_counter {u : XS} {v : MS} (h : Rel u v) (n : Int32) (w : Int32) : (F_X_counter u n w).1 = (F_M_counter v n w).1 ∧ Rel (F_X_counter u n w).2 (F_M_counter v n w).2 := by
  unfold F_X_counter F_M_counter
  have hv : ix v.1 n = ix u.1 n := by rw [h.1]
  rw [hv]
  rcases hj : ix u.1 n with _ | j
  · exact ⟨rfl, h⟩
  · obtain ⟨hjl, -⟩ := ix_some h.2.1 hj
    obtain ⟨e1, e2⟩ := rn_counter w  (h.2.2.2.2.1 j hjl)
    exact ⟨e1, h.upM hjl e2⟩
theorem rel_state {u : XS} {v : MS} (h : Rel u v) (n : Int32)  : (F_X_state u n).1 = (F_M_state v n).1 ∧ Rel (F_X_state u n).2 (F_M_state v n).2 := by
  unfold F_X_state F_M_state
  have hv : ix v.1 n = ix u.1 n := by rw [h.1]
  rw [hv]
  rcases hj : ix u.1 n with _ | j
  · exact ⟨rfl, h⟩
  · obtain ⟨hjl, -⟩ := ix_some h.2.1 hj
    obtain ⟨e1, e2⟩ := rn_state   (h.2.2.2.2.1 j hjl)
    exact ⟨e1, h.upM hjl e2⟩
theorem rel_flag {u : XS} {v : MS} (h : Rel u v) (n : Int32)  : (F_X_flag u n).1 = (F_M_flag v n).1 ∧ Rel (F_X_flag u n).2 (F_M_flag v n).2 := by
  unfold F_X_flag F_M_flag
  have hv : ix v.1 n = ix u.1 n := by rw [h.1]
  rw [hv]
  rcases hj : ix u.1 n with _ | j
  · exact ⟨rfl, h⟩
  · obtain ⟨hjl, -⟩ := ix_some h.2.1 hj
    obtain ⟨e1, e2⟩ := rn_flag   (h.2.2.2.2.1 j hjl)
    exact ⟨e1, h.upM hjl e2⟩
theorem rel_suspended {u : XS} {v : MS} (h : Rel u v) (n : Int32)  : (F_X_suspended u n).1 = (F_M_suspended v n).1 ∧ Rel (F_X_suspended u n).2 (F_M_suspended v n).2 := by
  unfold F_X_suspended F_M_suspended
  have hv : ix v.1 n = ix u.1 n := by rw [h.1]
  rw [hv]
  rcases hj : ix u.1 n with _ | j
  · exact ⟨rfl, h⟩
  · obtain ⟨hjl, -⟩ := ix_some h.2.1 hj
    obtain ⟨e1, e2⟩ := rn_suspended   (h.2.2.2.2.1 j hjl)
    exact ⟨e1, h.upM hjl e2⟩
theorem rel_shot {u : XS} {v : MS} (h : Rel u v) (n : Int32) (w : Int32) (hw : w = 0 ∨ w = 1) : (F_X_shot u n w).1 = (F_M_shot v n w).1 ∧ Rel (F_X_shot u n w).2 (F_M_shot v n w).2 := by
  unfold F_X_shot F_M_shot
  have hv : ix v.1 n = ix u.1 n := by rw [h.1]
  rw [hv]
  rcases hj : ix u.1 n with _ | j
  · exact ⟨rfl, h⟩
  · obtain ⟨hjl, -⟩ := ix_some h.2.1 hj
    obtain ⟨e1, e2⟩ := rn_shot w hw (h.2.2.2.2.1 j hjl)
    exact ⟨e1, h.up hjl e2⟩
theorem rel_listen {u : XS} {v : MS} (h : Rel u v) (n : Int32) (w : Int32) (hw : w = 0 ∨ w = 1) : (F_X_listen u n w).1 = (F_M_listen v n w).1 ∧ Rel (F_X_listen u n w).2 (F_M_listen v n w).2 := by
  unfold F_X_listen F_M_listen
  have hv : ix v.1 n = ix u.1 n := by rw [h.1]
  rw [hv]
  rcases hj : ix u.1 n with _ | j
  · exact ⟨rfl, h⟩
  · obtain ⟨hjl, -⟩ := ix_some h.2.1 hj
    obtain ⟨e1, e2⟩ := rn_listen w hw (h.2.2.2.2.1 j hjl)
    exact ⟨e1, h.up hjl e2⟩
theorem rel_event {u : XS} {v : MS} (h : Rel u v) (n : Int32) (k : Int32) (w : Int32) (hw : w = 0 ∨ w = 1) : (F_X_event u n k w).1 = (F_M_event v n k w).1 ∧ Rel (F_X_event u n k w).2 (F_M_event v n k w).2 := by
  unfold F_X_event F_M_event
  have hv : ix v.1 n = ix u.1 n := by rw [h.1]
  rw [hv]
  rcases hj : ix u.1 n with _ | j
  · exact ⟨rfl, h⟩
  · obtain ⟨hjl, -⟩ := ix_some h.2.1 hj
    obtain ⟨e1, e2⟩ := rn_event k w hw (h.2.2.2.2.1 j hjl)
    exact ⟨e1, h.up hjl e2⟩
theorem rel_recover {u : XS} {v : MS} (h : Rel u v) (n : Int32) (k : Int32) : (F_X_recover u n k).1 = (F_M_recover v n k).1 ∧ Rel (F_X_recover u n k).2 (F_M_recover v n k).2 := by
  unfold F_X_recover F_M_recover
  have hv : ix v.1 n = ix u.1 n := by rw [h.1]
  rw [hv]
  rcases hj : ix u.1 n with _ | j
  · exact ⟨rfl, h⟩
  · obtain ⟨hjl, -⟩ := ix_some h.2.1 hj
    obtain ⟨e1, e2⟩ := rn_recover k  (h.2.2.2.2.1 j hjl)
    exact ⟨e1, h.up hjl e2⟩
theorem rel_two {u : XS} {v : MS} (h : Rel u v) (n : Int32) (k : Int32) (q : Int32) : (F_X_two u n k q).1 = (F_M_two v n k q).1 ∧ Rel (F_X_two u n k q).2 (F_M_two v n k q).2 := by
  unfold F_X_two F_M_two
  have hv : ix v.1 n = ix u.1 n := by rw [h.1]
  rw [hv]
  rcases hj : ix u.1 n with _ | j
  · exact ⟨rfl, h⟩
  · obtain ⟨hjl, -⟩ := ix_some h.2.1 hj
    obtain ⟨e1, e2⟩ := rn_two k q  (h.2.2.2.2.1 j hjl)
    exact ⟨e1, h.up hjl e2⟩
theorem rel_manager {u : XS} {v : MS} (h : Rel u v) (n : Int32) (t : Int64) : (F_X_manager u n t).1 = (F_M_manager v n t).1 ∧ Rel (F_X_manager u n t).2 (F_M_manager v n t).2 := by
  unfold F_X_manager F_M_manager
  have hv : ix v.1 n = ix u.1 n := by rw [h.1]
  rw [hv]
  rcases hj : ix u.1 n with _ | j
  · exact ⟨rfl, h⟩
  · obtain ⟨hjl, -⟩ := ix_some h.2.1 hj
    have hR := h.2.2.2.2.1 j hjl
    obtain ⟨e1, e2, e3, e4⟩ := rn_manager u.2.1 t h.2.2.2.1 hR
    have et := h.2.2.1
    refine ⟨?_, ?_⟩
    · show (g_X_manager u.2.1 (u.2.2 j) t).1 = (g_M_manager v.2.1 (v.2.2 (j + 1)) t).1
      rw [← et]; exact e1
    · show Rel (u.1, (g_X_manager u.2.1 (u.2.2 j) t).2.1, va_up u.2.2 j (g_X_manager u.2.1 (u.2.2 j) t).2.2) (v.1, (g_M_manager v.2.1 (v.2.2 (j + 1)) t).2.1, va_up v.2.2 (j + 1) (g_M_manager v.2.1 (v.2.2 (j + 1)) t).2.2)
      rw [← et, ← e2]
      exact h.upT hjl e4 e3

theorem sp_v (s r k : Int32) : sp s r k = 0 ∨ sp s r k = 8 := by
  unfold sp
  by_cases h1 : k = 6
  · rw [if_pos h1]; exact Or.inl rfl
  · rw [if_neg h1]
    by_cases h2 : k = 9
    · rw [if_pos h2]; exact Or.inl rfl
    · rw [if_neg h2]
      by_cases h3 : k = 5
      · rw [if_pos h3]
        by_cases h4 : cnd s r = 1
        · rw [if_pos h4]; exact Or.inl rfl
        · rw [if_neg h4]; exact Or.inr rfl
      · rw [if_neg h3]; exact Or.inr rfl
theorem rp_v (k : Int32) : rp k = 1 ∨ rp k = 8 := by
  unfold rp
  by_cases h1 : f_X_isAboutFlag k = 0
  · rw [if_pos h1]; exact Or.inl rfl
  · rw [if_neg h1]; exact Or.inr rfl
theorem sp_t (s r k : Int32) : 0 ≤ (sp s r k).toInt ∧ (sp s r k).toInt ≤ 8 := by
  rcases sp_v s r k with h | h <;> rw [h] <;> decide
theorem rp_t (k : Int32) : 0 ≤ (rp k).toInt ∧ (rp k).toInt ≤ 8 := by
  rcases rp_v k with h | h <;> rw [h] <;> decide
theorem ps_t {s r k : Int32} (h0 : 0 ≤ s.toInt) (h1 : s.toInt ≤ 256) : (s + sp s r k).toInt = s.toInt + (sp s r k).toInt := by
  have := sp_t s r k
  exact tadd rfl (by omega) (by omega)
theorem pr_t {r k : Int32} (h0 : 0 ≤ r.toInt) (h1 : r.toInt ≤ 256) : (r + rp k).toInt = r.toInt + (rp k).toInt := by
  have := rp_t k
  exact tadd rfl (by omega) (by omega)
theorem m1_t {s : Int32} (h0 : 0 ≤ s.toInt) (h1 : s.toInt ≤ 256) : (s - 1).toInt = s.toInt - 1 := by
  rw [tsub (by rw [t1]; omega) (by rw [t1]; omega), t1]
theorem m1_e {s : Int32} (h0 : 0 ≤ s.toInt) (h1 : s.toInt ≤ 256) : s + (-1) = s - 1 := by
  rw [ieq, m1_t h0 h1, tadd tm1 (by omega) (by omega)]
  omega
theorem cS_t {s r k w : Int32} (h0 : 0 ≤ s.toInt) (h1 : s.toInt ≤ 256) : 0 ≤ (cS s r k w).toInt ∧ (cS s r k w).toInt ≤ 256 := by
  have hp := sp_t s r k
  have e1 := ps_t (r := r) (k := k) h0 h1
  have e2 := m1_t h0 h1
  unfold cS
  by_cases hk : k = 0
  · rw [if_pos hk]
    by_cases hw : w = 0
    · rw [if_pos hw]; exact ⟨h0, h1⟩
    · rw [if_neg hw]
      by_cases h2 : s - 1 < 0
      · rw [if_pos h2]; decide
      · rw [if_neg h2]
        rw [ilt, t0] at h2
        omega
  · rw [if_neg hk]
    by_cases hw : w = 0
    · rw [if_pos hw]; exact ⟨h0, h1⟩
    · rw [if_neg hw]
      by_cases h2 : 256 < s + sp s r k
      · rw [if_pos h2]; decide
      · rw [if_neg h2]
        rw [ilt, t256] at h2
        omega
theorem cR_t {r k w : Int32} (h0 : 0 ≤ r.toInt) (h1 : r.toInt ≤ 255) : 0 ≤ (cR r k w).toInt ∧ (cR r k w).toInt ≤ 255 := by
  have hp := rp_t k
  have e1 := pr_t (k := k) h0 (show r.toInt ≤ 256 by omega)
  have e2 := m1_t h0 (show r.toInt ≤ 256 by omega)
  unfold cR
  by_cases hk : k = 0
  · rw [if_pos hk]
    by_cases hw : w = 0
    · rw [if_pos hw]
      by_cases h3 : r ≤ 127
      · rw [if_pos h3]
        by_cases h2 : r - 1 < 0
        · rw [if_pos h2]; decide
        · rw [if_neg h2]
          rw [ilt, t0] at h2
          omega
      · rw [if_neg h3]; decide
    · rw [if_neg hw]; exact ⟨h0, h1⟩
  · rw [if_neg hk]
    by_cases hw : w = 0
    · rw [if_pos hw]
      by_cases h2 : 255 < r + rp k
      · rw [if_pos h2]; decide
      · rw [if_neg h2]
        rw [ilt, t255] at h2
        omega
    · rw [if_neg hw]; exact ⟨h0, h1⟩
theorem f8_t {x : Int32} (h0 : 0 ≤ x.toInt) (h1 : x.toInt ≤ 10000) : (x + 8).toInt = x.toInt + 8 := tadd t8 (by omega) (by omega)
theorem f1_t {x : Int32} (h0 : 0 ≤ x.toInt) (h1 : x.toInt ≤ 10000) : (x + 1).toInt = x.toInt + 1 := tadd t1 (by omega) (by omega)
theorem cF_t {fl k : Int32} (h0 : 0 ≤ fl.toInt) (h1 : fl.toInt ≤ 10000) : 0 ≤ (cF fl k).toInt ∧ (cF fl k).toInt ≤ 10000 := by
  have e8 := f8_t h0 h1
  have e1 := f1_t h0 h1
  unfold cF
  by_cases hk : k = 0
  · rw [if_pos hk]; decide
  · rw [if_neg hk]
    by_cases he : f_X_isError k = 0
    · rw [if_pos he]
      by_cases h3 : fl ≤ 0
      · rw [if_pos h3]; exact ⟨h0, h1⟩
      · rw [if_neg h3]
        by_cases h8 : k = 8
        · rw [if_pos h8]
          by_cases h4 : 10000 < fl + 8
          · rw [if_pos h4]; decide
          · rw [if_neg h4]; rw [ilt, t10000] at h4; omega
        · rw [if_neg h8]
          by_cases h4 : 10000 < fl + 1
          · rw [if_pos h4]; decide
          · rw [if_neg h4]; rw [ilt, t10000] at h4; omega
    · rw [if_neg he]; decide
theorem nle_of_lt {x y : Int32} (h : x < y) : ¬ y ≤ x := fun q => by rw [ilt] at h; rw [ile] at q; omega
theorem le_of_nlt {x y : Int32} (h : ¬ x < y) : y ≤ x := by rw [ilt] at h; rw [ile]; omega
theorem mF_eq {fl k : Int32} (he : f_X_isError k = f_M_error k) : mF fl 0 k = cF fl k := by
  unfold mF cF
  rw [he, if_pos (rfl : (0 : Int32) = 0)]
  by_cases hk : k = 0
  · rw [if_pos hk, if_pos hk]
  · rw [if_neg hk, if_neg hk]
    by_cases h1 : f_M_error k = 0
    · rw [if_pos h1, if_pos h1]
      by_cases h3 : fl ≤ 0
      · rw [if_pos h3, if_pos h3]
      · rw [if_neg h3, if_neg h3]
        by_cases h8 : k = 8
        · rw [if_pos h8, if_pos h8]
          by_cases h4 : 10000 < fl + 8
          · rw [if_pos h4, if_neg (nle_of_lt h4)]
          · rw [if_neg h4, if_pos (le_of_nlt h4)]
        · rw [if_neg h8, if_neg h8]
          by_cases h4 : 10000 < fl + 1
          · rw [if_pos h4, if_neg (nle_of_lt h4)]
          · rw [if_neg h4, if_pos (le_of_nlt h4)]
    · rw [if_neg h1, if_neg h1]
theorem mF_n {fl lis k : Int32} (h : ¬ lis = 0) : mF fl lis k = 0 := by
  unfold mF
  by_cases hk : k = 0
  · rw [if_pos hk]
  · rw [if_neg hk, if_neg h]
theorem mV_eq {k w single given : Int32} (he : f_X_isError k = f_M_error k) : mV k w single given = cV k w single given := by
  unfold mV cV
  rw [he]
  by_cases h1 : f_M_error k = 0
  · by_cases h2 : single = 0
    · simp only [if_pos h1, if_pos h2]
    · by_cases h3 : w = 0
      · simp only [if_pos h1, if_neg h2, if_pos h3]
      · simp only [if_pos h1, if_neg h2, if_neg h3]
  · by_cases h2 : single = 0
    · by_cases h3 : w = 0
      · simp only [if_neg h1, if_pos h2, if_pos h3]
      · simp only [if_neg h1, if_pos h2, if_neg h3]
    · by_cases h3 : w = 0
      · simp only [if_neg h1, if_neg h2, if_pos h3]
      · simp only [if_neg h1, if_neg h2, if_neg h3]
theorem more0 {a0 a1 a2 a3 a4 a5 a6 a7 a8 a10 a11 a12 a13 : Int32} {a9 : Int64} {k : Int32} (hk0 : 0 ≤ k) (hk1 : k ≤ 10) (hk : ¬ k = 0) : f_M_more (a0, a1, a2, a3, a4, a5, a6, a7, a8, a9, a10, a11, a12, a13) k 0 = rp k := by
  rcases kinds hk0 hk1 with rfl | rfl | rfl | rfl | rfl | rfl | rfl | rfl | rfl | rfl | rfl <;> first | exact absurd rfl hk | rfl
theorem more1 {a0 a1 a3 a4 a5 a6 a7 a8 a10 a11 a12 a13 : Int32} {a9 : Int64} {k : Int32} (hk0 : 0 ≤ k) (hk1 : k ≤ 10) (hk : ¬ k = 0) : f_M_more (a0, a1, 0, a3, a4, a5, a6, a7, a8, a9, a10, a11, a12, a13) k 1 = sp a0 a1 k := by
  rcases kinds hk0 hk1 with rfl | rfl | rfl | rfl | rfl | rfl | rfl | rfl | rfl | rfl | rfl <;> first | exact absurd rfl hk | rfl
theorem more00 {a0 a1 a2 a3 a4 a5 a6 a7 a8 a10 a11 a12 a13 : Int32} {a9 : Int64} {w : Int32} : f_M_more (a0, a1, a2, a3, a4, a5, a6, a7, a8, a9, a10, a11, a12, a13) 0 w = -1 := by
  simp only [f_M_more, if_true]
/-- the two counters behind an event, by the reference -/
theorem m_start {a0 a1 a3 a4 a5 a6 a7 a8 a10 a11 a12 a13 : Int32} {a9 : Int64} {k w : Int32} (hk0 : 0 ≤ k) (hk1 : k ≤ 10) (hw : w = 0 ∨ w = 1) (hs0 : 0 ≤ a0.toInt) (hs1 : a0.toInt ≤ 256) (hr0 : 0 ≤ a1.toInt) (hr1 : a1.toInt ≤ 255) (h : a8 = 0) : f_M_happens (a0, a1, 0, a3, a4, a5, a6, a7, a8, a9, a10, a11, a12, a13) k w = f_M_happens_j174 (cS a0 a1 k w, cR a1 k w, 0, a3, a4, a5, a6, a7, a8, a9, a10, a11, a12, a13) k w := by
  rcases hw with rfl | rfl
  · have eS : cS a0 a1 k 0 = a0 := by
      unfold cS
      rw [if_pos (rfl : (0 : Int32) = 0)]
      by_cases hk : k = 0
      · rw [if_pos hk]
      · rw [if_neg hk, if_pos rfl]
    rw [eS]
    by_cases hk : k = 0
    · subst hk
      by_cases h1 : a1 ≤ 127
      · simp only [f_M_happens, if_pos h, if_true, if_pos h1, more00, m1_e hr0 (show a1.toInt ≤ 256 by omega), cR]
        have e2 := m1_t hr0 (show a1.toInt ≤ 256 by omega)
        by_cases h2 : a1 - 1 < 0
        · rw [if_neg (nle_of_lt h2), if_pos h2]
        · have h3 : a1 - 1 ≤ 255 := by rw [ile, e2, t255]; omega
          rw [if_pos (le_of_nlt h2), if_pos h3, if_neg h2]
      · simp only [f_M_happens, if_pos h, if_true, if_neg h1, cR]
    · have e1 := pr_t (k := k) hr0 (show a1.toInt ≤ 256 by omega)
      have hp := rp_t k
      have h3 : 0 ≤ a1 + rp k := by rw [ile, e1, t0]; omega
      simp only [f_M_happens, if_pos h, if_true, if_neg hk, more0 hk0 hk1 hk, cR, if_pos h3]
      by_cases h2 : 255 < a1 + rp k
      · rw [if_neg (nle_of_lt h2), if_pos h2]
      · rw [if_pos (le_of_nlt h2), if_neg h2]
  · have hw1 : ¬ (1 : Int32) = 0 := by decide
    have eR : cR a1 k 1 = a1 := by
      unfold cR
      by_cases hk : k = 0
      · rw [if_pos hk, if_neg hw1]
      · rw [if_neg hk, if_neg hw1]
    rw [eR]
    by_cases hk : k = 0
    · subst hk
      simp only [f_M_happens, if_pos h, if_neg hw1, if_true, more00, m1_e hs0 hs1, cS]
      have e2 := m1_t hs0 hs1
      by_cases h2 : a0 - 1 < 0
      · rw [if_neg (nle_of_lt h2), if_pos h2]
      · have h3 : a0 - 1 ≤ 256 := by rw [ile, e2, t256]; omega
        rw [if_pos (le_of_nlt h2), if_pos h3, if_neg h2]
    · have e1 := ps_t (r := a1) (k := k) hs0 hs1
      have hp := sp_t a0 a1 k
      have h3 : 0 ≤ a0 + sp a0 a1 k := by rw [ile, e1, t0]; omega
      simp only [f_M_happens, if_pos h, if_neg hw1, if_neg hk, more1 hk0 hk1 hk, cS, if_pos h3]
      by_cases h2 : 256 < a0 + sp a0 a1 k
      · rw [if_neg (nle_of_lt h2), if_pos h2]
      · rw [if_pos (le_of_nlt h2), if_neg h2]
theorem m_startn {a0 a1 a2 a3 a4 a5 a6 a7 a8 a10 a11 a12 a13 : Int32} {a9 : Int64} {k w : Int32} (h : ¬ a8 = 0) : f_M_happens (a0, a1, a2, a3, a4, a5, a6, a7, a8, a9, a10, a11, a12, a13) k w = f_M_happens_j174 (a0, a1, a2, a3, a4, a5, a6, a7, a8, a9, a10, a11, a12, a13) k w := by
  simp only [f_M_happens, if_neg h]
/-- good frames: the class stays at 100, the reference begins anew -/
theorem good_rel {k good fine offs : Int32} (he : f_X_isError k = f_M_error k) (h : (good = fine ∧ 0 ≤ good.toInt ∧ good.toInt < 100) ∨ (good = 100 ∧ offs = 0 ∧ 0 ≤ fine.toInt ∧ fine.toInt < 100)) :
    ∃ O2 F2 : Int32, ((mN k fine = 100 ∧ O2 = 0 ∧ F2 = 0) ∨ (¬ mN k fine = 100 ∧ O2 = offs ∧ F2 = mN k fine)) ∧ cO k good offs = O2 ∧ ((cG k good = F2 ∧ 0 ≤ (cG k good).toInt ∧ (cG k good).toInt < 100) ∨ (cG k good = 100 ∧ O2 = 0 ∧ 0 ≤ F2.toInt ∧ F2.toInt < 100)) := by
  by_cases h1 : f_M_error k = 0
  · have h1' : f_X_isError k = 0 := he.trans h1
    by_cases hk : k = 0
    · have eN : mN k fine = fine + 1 := by unfold mN; rw [if_pos h1, if_pos hk]
      have eG : cG k good = if 100 < (good + 1) then 100 else (good + 1) := by unfold cG; rw [if_pos h1', if_pos hk]
      have eO : cO k good offs = if cG k good < 100 then offs else 0 := by unfold cO; rw [if_pos h1']
      rcases h with ⟨rfl, g0, g1⟩ | ⟨rfl, rfl, g0, g1⟩
      · have et : (good + 1).toInt = good.toInt + 1 := f1_t g0 (by omega)
        have hn : ¬ 100 < good + 1 := by rw [ilt, et, t100]; omega
        rw [if_neg hn] at eG
        by_cases h2 : good + 1 = 100
        · refine ⟨0, 0, Or.inl ⟨eN.trans h2, rfl, rfl⟩, ?_, Or.inr ⟨eG.trans h2, rfl, by decide, by decide⟩⟩
          rw [eO, eG, h2, if_neg (by decide)]
        · have h3 : good + 1 < 100 := by
            rw [ieq, et, t100] at h2
            rw [ilt, et, t100]; omega
          refine ⟨offs, good + 1, Or.inr ⟨by rw [eN]; exact h2, rfl, eN.symm⟩, ?_, Or.inl ⟨eG, by rw [eG, et]; omega, ?_⟩⟩
          · rw [eO, eG, if_pos h3]
          · rw [eG]; rw [ilt, t100] at h3; exact h3
      · have eG2 : cG k 100 = 100 := by rw [eG]; decide
        have eO2 : cO k 100 0 = 0 := by rw [eO, eG2]; decide
        have et : (fine + 1).toInt = fine.toInt + 1 := f1_t g0 (by omega)
        by_cases h2 : fine + 1 = 100
        · exact ⟨0, 0, Or.inl ⟨eN.trans h2, rfl, rfl⟩, eO2, Or.inr ⟨eG2, rfl, by decide, by decide⟩⟩
        · refine ⟨0, fine + 1, Or.inr ⟨by rw [eN]; exact h2, rfl, eN.symm⟩, eO2, Or.inr ⟨eG2, rfl, by omega, ?_⟩⟩
          rw [ieq, et, t100] at h2
          omega
    · have eN : mN k fine = fine := by unfold mN; rw [if_pos h1, if_neg hk]
      have eG : cG k good = good := by unfold cG; rw [if_pos h1', if_neg hk]
      have eO : cO k good offs = if good < 100 then offs else 0 := by unfold cO; rw [if_pos h1', eG]
      rcases h with ⟨rfl, g0, g1⟩ | ⟨rfl, rfl, g0, g1⟩
      · have h3 : good < 100 := by rw [ilt, t100]; omega
        refine ⟨offs, good, Or.inr ⟨fun q => ?_, rfl, eN.symm⟩, by rw [eO, if_pos h3], Or.inl ⟨eG, by rw [eG]; exact g0, by rw [eG]; exact g1⟩⟩
        rw [eN, ieq, t100] at q
        omega
      · refine ⟨0, fine, Or.inr ⟨fun q => ?_, rfl, eN.symm⟩, by rw [eO]; decide, Or.inr ⟨eG, rfl, g0, g1⟩⟩
        rw [eN, ieq, t100] at q
        omega
  · have h1' : ¬ f_X_isError k = 0 := fun q => h1 (he.symm.trans q)
    have eN : mN k fine = 0 := by unfold mN; rw [if_neg h1]
    have eG : cG k good = 0 := by unfold cG; rw [if_neg h1']
    have eO : cO k good offs = offs := by unfold cO; rw [if_neg h1']
    exact ⟨offs, 0, Or.inr ⟨by rw [eN]; decide, rfl, eN.symm⟩, eO, Or.inl ⟨eG, by rw [eG]; decide, by rw [eG]; decide⟩⟩
theorem rel_tail {S R F V mw single lis good fine offs asked rows mrows lt w k : Int32} {first masked : Int64} (he : f_X_isError k = f_M_error k) (hw : w = 0 ∨ w = 1) (hbs : single = 0 ∨ single = 1) (hbl : lis = 0 ∨ lis = 1) (hblt : lt = 0 ∨ lt = 1)
    (hS0 : 0 ≤ S.toInt) (hS1 : S.toInt ≤ 256) (hR0 : 0 ≤ R.toInt) (hR1 : R.toInt ≤ 255) (hF0 : 0 ≤ F.toInt) (hF1 : F.toInt ≤ 10000) (h_lis : lis = 1 → F = 0)
    (h_good : (good = fine ∧ 0 ≤ good.toInt ∧ good.toInt < 100) ∨ (good = 100 ∧ offs = 0 ∧ 0 ≤ fine.toInt ∧ fine.toInt < 100))
    (h_ask : (asked = 0 ∧ masked = -1 ∧ lt = 0) ∨ (asked = 1 ∧ masked = first ∧ 0 ≤ first)) :
    RelN (if S < 256 then (S, R, 0, F, cW S R w, single, V, lis, w, cG k good, cO k good offs, asked, first, lt, rows) else (S, R, 1, 0, cW S R w, single, V, lis, w, 0, cO k good offs + 1, 0, first, 0, 0)) (f_M_happens_j355 (S, R, 0, F, mw, w, single, V, lis, masked, lt, mrows, offs, mN k fine) k w) := by
  obtain ⟨O2, F2, h1, h2, h3⟩ := good_rel he h_good
  have e355 : f_M_happens_j355 (S, R, 0, F, mw, w, single, V, lis, masked, lt, mrows, offs, mN k fine) k w = f_M_happens_j380 (S, R, 0, F, mw, w, single, V, lis, masked, lt, mrows, O2, F2) k w := by
    rcases h1 with ⟨a, rfl, rfl⟩ | ⟨a, rfl, rfl⟩
    · simp only [f_M_happens_j355, if_pos a]
    · simp only [f_M_happens_j355, if_neg a]
  rw [e355, h2]
  by_cases hS : S < 256
  · have hne : ¬ S = 256 := fun q => by rw [q] at hS; exact absurd hS (by decide)
    have e380 : f_M_happens_j380 (S, R, 0, F, mw, w, single, V, lis, masked, lt, mrows, O2, F2) k w = (S, R, 0, F, cW S R w, w, single, V, lis, masked, lt, mrows, O2, F2) := by
      simp only [f_M_happens_j380, if_neg hne, m_446, m_is, cW]
    rw [e380, if_pos hS]
    rw [ilt, t256] at hS
    exact ⟨S, R, 0, F, cW S R w, cW S R w, single, V, lis, w, cG k good, F2, O2, asked, rows, mrows, lt, first, masked, rfl, rfl, Or.inl rfl, hbs, hbl, hw, hblt, ⟨hS0, hS1, hR0, hR1, hF0, hF1⟩, fun _ => ⟨rfl, hS⟩, fun q => absurd q (by decide), h_lis, h3, h_ask⟩
  · have heq : S = 256 := by
      rw [ilt, t256] at hS
      rw [ieq, t256]; omega
    have e380 : ∃ W2, f_M_happens_j380 (S, R, 0, F, mw, w, single, V, lis, masked, lt, mrows, O2, F2) k w = (S, R, 1, 0, W2, w, single, V, lis, -1, 0, 0, O2 + 1, 0) := by
      refine ⟨if w = 0 then 3 else (if f_M_is (S, R, 1, 0, mw, w, single, V, lis, -1, 0, 0, O2 + 1, 0) = 1 then 11 else 3), ?_⟩
      simp only [f_M_happens_j380, if_pos heq, m_446]
    obtain ⟨W2, e380⟩ := e380
    rw [e380, if_neg hS]
    exact ⟨S, R, 1, 0, cW S R w, W2, single, V, lis, w, 0, 0, O2 + 1, 0, 0, 0, 0, first, -1, rfl, rfl, Or.inr rfl, hbs, hbl, hw, Or.inl rfl, ⟨hS0, hS1, hR0, hR1, by decide, by decide⟩, fun q => absurd q (by decide), fun _ => ⟨rfl, by decide, by decide⟩, fun _ => rfl, Or.inl ⟨rfl, by decide, by decide⟩, Or.inl ⟨rfl, rfl, rfl⟩⟩
/-- an event, of a node that is not off -/
theorem rel_hap {a : NS} {b : MN} {k w : Int32} (h : RelN a b) (hoff : a.2.2.1 = 0) (hk0 : 0 ≤ k) (hk1 : k ≤ 10) (hw : w = 0 ∨ w = 1) : RelN (f_N_undergo a k w) (f_M_happens b k w) := by
  obtain ⟨s, r, off, fl, wt, mw, single, given, lis, snd, good, fine, offs, asked, rows, mrows, lt, first, masked, rfl, rfl, hbo, hbs, hbl, hbn, hblt, ⟨hs0, hs1, hr0, hr1, hf0, hf1⟩, h_off0, h_off1, h_lis, h_good, h_ask⟩ := h
  have hoff : off = 0 := hoff
  subst hoff
  have he := err_eq hk0 hk1
  by_cases hl : lis = 0
  · subst hl
    rw [q_und rfl, m_start hk0 hk1 hw hs0 hs1 hr0 hr1 rfl, m_174, m_280, m_317, mF_eq he, mV_eq he]
    have h1 := cS_t (r := r) (k := k) (w := w) hs0 hs1
    have h2 := cR_t (k := k) (w := w) hr0 hr1
    have h3 := cF_t (k := k) hf0 hf1
    exact rel_tail he hw hbs hbl hblt h1.1 h1.2 h2.1 h2.2 h3.1 h3.2 (fun q => absurd q (by decide)) h_good h_ask
  · have hf := h_lis (b01 hbl hl)
    rw [q_undn hl, m_startn hl, m_174, m_280, m_317, mF_n hl, mV_eq he]
    subst hf
    exact rel_tail he hw hbs hbl hblt hs0 hs1 hr0 hr1 hf0 hf1 (fun _ => rfl) h_good h_ask

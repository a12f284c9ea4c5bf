theorem tadd {x y : Int32} {z : Int} (hy : y.toInt = z) (h1 : -2147483648 ≤ x.toInt + z) (h2 : x.toInt + z < 2147483648) : (x + y).toInt = x.toInt + z := by
  rw [Int32.toInt_add, hy]
  exact Int.bmod_eq_of_le (by omega) (by omega)
theorem tsub {x y : Int32} (h1 : -2147483648 ≤ x.toInt - y.toInt) (h2 : x.toInt - y.toInt < 2147483648) : (x - y).toInt = x.toInt - y.toInt := by
  rw [Int32.toInt_sub]
  exact Int.bmod_eq_of_le (by omega) (by omega)
theorem t0 : (0 : Int32).toInt = 0 := by decide
theorem t1 : (1 : Int32).toInt = 1 := by decide
theorem t3 : (3 : Int32).toInt = 3 := by decide
theorem t6 : (6 : Int32).toInt = 6 := by decide
theorem t8 : (8 : Int32).toInt = 8 := by decide
theorem t10 : (10 : Int32).toInt = 10 := by decide
theorem tm1 : (-1 : Int32).toInt = -1 := by decide
theorem t100 : (100 : Int32).toInt = 100 := by decide
theorem t119 : (119 : Int32).toInt = 119 := by decide
theorem t127 : (127 : Int32).toInt = 127 := by decide
theorem t128 : (128 : Int32).toInt = 128 := by decide
theorem t255 : (255 : Int32).toInt = 255 := by decide
theorem t256 : (256 : Int32).toInt = 256 := by decide
theorem t10000 : (10000 : Int32).toInt = 10000 := by decide
theorem ile {x y : Int32} : x ≤ y ↔ x.toInt ≤ y.toInt := Int32.le_iff_toInt_le
theorem ilt {x y : Int32} : x < y ↔ x.toInt < y.toInt := Int32.lt_iff_toInt_lt
theorem ieq {x y : Int32} : x = y ↔ x.toInt = y.toInt := Int32.toInt_inj.symm
theorem b01 {x : Int32} (h : x = 0 ∨ x = 1) (h0 : ¬ x = 0) : x = 1 := h.resolve_left h0
/-- the kinds -/
theorem kinds {k : Int32} (h0 : 0 ≤ k) (h1 : k ≤ 10) : k = 0 ∨ k = 1 ∨ k = 2 ∨ k = 3 ∨ k = 4 ∨ k = 5 ∨ k = 6 ∨ k = 7 ∨ k = 8 ∨ k = 9 ∨ k = 10 := by
  rw [ile, t0] at h0
  rw [ile, t10] at h1
  have e : ∀ c : Int32, k.toInt = c.toInt → k = c := fun c h => Int32.toInt_inj.mp h
  rcases (show k.toInt = 0 ∨ k.toInt = 1 ∨ k.toInt = 2 ∨ k.toInt = 3 ∨ k.toInt = 4 ∨ k.toInt = 5 ∨ k.toInt = 6 ∨ k.toInt = 7 ∨ k.toInt = 8 ∨ k.toInt = 9 ∨ k.toInt = 10 by omega) with h | h | h | h | h | h | h | h | h | h | h
  · exact Or.inl (e 0 h)
  · exact Or.inr (Or.inl (e 1 h))
  · exact Or.inr (Or.inr (Or.inl (e 2 h)))
  · exact Or.inr (Or.inr (Or.inr (Or.inl (e 3 h))))
  · exact Or.inr (Or.inr (Or.inr (Or.inr (Or.inl (e 4 h)))))
  · exact Or.inr (Or.inr (Or.inr (Or.inr (Or.inr (Or.inl (e 5 h))))))
  · exact Or.inr (Or.inr (Or.inr (Or.inr (Or.inr (Or.inr (Or.inl (e 6 h)))))))
  · exact Or.inr (Or.inr (Or.inr (Or.inr (Or.inr (Or.inr (Or.inr (Or.inl (e 7 h))))))))
  · exact Or.inr (Or.inr (Or.inr (Or.inr (Or.inr (Or.inr (Or.inr (Or.inr (Or.inl (e 8 h)))))))))
  · exact Or.inr (Or.inr (Or.inr (Or.inr (Or.inr (Or.inr (Or.inr (Or.inr (Or.inr (Or.inl (e 9 h))))))))))
  · exact Or.inr (Or.inr (Or.inr (Or.inr (Or.inr (Or.inr (Or.inr (Or.inr (Or.inr (Or.inr (e 10 h))))))))))
theorem err_eq {k : Int32} (h0 : 0 ≤ k) (h1 : k ≤ 10) : f_X_isError k = f_M_error k := by
  rcases kinds h0 h1 with rfl | rfl | rfl | rfl | rfl | rfl | rfl | rfl | rfl | rfl | rfl <;> decide
-- the parts of a node behind an event, by the class's own words
def cnd (s r : Int32) : Int32 := if 127 < s then 1 else (if r ≤ 127 then 0 else 1)
def sp (s r k : Int32) : Int32 := if k = 6 then 0 else (if k = 9 then 0 else (if k = 5 then (if cnd s r = 1 then 0 else 8) else 8))
def rp (k : Int32) : Int32 := if f_X_isAboutFlag k = 0 then 1 else 8
def cG (k g : Int32) : Int32 := if f_X_isError k = 0 then (if k = 0 then (if 100 < (g + 1) then 100 else (g + 1)) else g) else 0
def cO (k g o : Int32) : Int32 := if f_X_isError k = 0 then (if cG k g < 100 then o else 0) else o
def cV (k w single given : Int32) : Int32 := if single = 0 then given else (if w = 0 then given else (if f_X_isError k = 0 then given else given + 1))
def cS (s r k w : Int32) : Int32 := if k = 0 then (if w = 0 then s else (if (s - 1) < 0 then 0 else (s - 1))) else (if w = 0 then s else (if 256 < (s + sp s r k) then 256 else (s + sp s r k)))
def cR (r k w : Int32) : Int32 := if k = 0 then (if w = 0 then (if r ≤ 127 then (if (r - 1) < 0 then 0 else (r - 1)) else 119) else r) else (if w = 0 then (if 255 < (r + rp k) then 255 else (r + rp k)) else r)
def cF (fl k : Int32) : Int32 := if k = 0 then 0 else (if f_X_isError k = 0 then (if fl ≤ 0 then fl else (if k = 8 then (if 10000 < (fl + 8) then 10000 else (fl + 8)) else (if 10000 < (fl + 1) then 10000 else (fl + 1)))) else 6)
def cW (s r w : Int32) : Int32 := if w = 0 then 3 else (if cnd s r = 1 then 11 else 3)
theorem q_good {a0 a1 a2 a3 a4 a5 a6 a7 a8 a9 a10 a11 a13 a14 : Int32} {a12 : Int64} {k : Int32} : f_N_countGoodFrames (a0, a1, a2, a3, a4, a5, a6, a7, a8, a9, a10, a11, a12, a13, a14) k = (a0, a1, a2, a3, a4, a5, a6, a7, a8, cG k a9, cO k a9 a10, a11, a12, a13, a14) := by
  simp only [f_N_countGoodFrames, cG, cO]
  by_cases h1 : f_X_isError k = 0
  · by_cases h2 : k = 0
    · simp only [if_pos h1, if_pos h2]
      by_cases h3 : (if 100 < (a9 + 1) then 100 else (a9 + 1)) < 100
      · simp only [if_pos h3]
      · simp only [if_neg h3]
    · simp only [if_pos h1, if_neg h2]
      by_cases h3 : a9 < 100
      · simp only [if_pos h3]
      · simp only [if_neg h3]
  · simp only [if_neg h1]
theorem q_flag {a0 a1 a2 a3 a4 a5 a6 a7 a8 a9 a10 a11 a13 a14 : Int32} {a12 : Int64} {k : Int32} : f_N_changeFlag (a0, a1, a2, a3, a4, a5, a6, a7, a8, a9, a10, a11, a12, a13, a14) k = (a0, a1, a2, cF a3 k, a4, a5, a6, a7, a8, a9, a10, a11, a12, a13, a14) := by
  simp only [f_N_changeFlag, cF]
  by_cases h1 : k = 0
  · simp only [if_pos h1]
  · by_cases h2 : f_X_isError k = 0
    · by_cases h3 : a3 ≤ 0
      · simp only [if_neg h1, if_pos h2, if_pos h3]
      · by_cases h4 : k = 8
        · simp only [if_neg h1, if_pos h2, if_neg h3, if_pos h4]
        · simp only [if_neg h1, if_pos h2, if_neg h3, if_neg h4]
    · simp only [if_neg h1, if_neg h2]
theorem q_cnd {a0 a1 a3 a4 a5 a6 a7 a8 a9 a10 a11 a13 a14 : Int32} {a12 : Int64} : f_N_condition (a0, a1, 0, a3, a4, a5, a6, a7, a8, a9, a10, a11, a12, a13, a14) = cnd a0 a1 := by
  simp only [f_N_condition, cnd, if_true]
theorem q_err {a0 a1 a3 a4 a5 a6 a7 a8 a9 a10 a11 a13 a14 : Int32} {a12 : Int64} {k w : Int32} : f_N_countErrors (a0, a1, 0, a3, a4, a5, a6, a7, a8, a9, a10, a11, a12, a13, a14) k w = (cS a0 a1 k w, cR a1 k w, 0, a3, a4, a5, a6, a7, a8, a9, a10, a11, a12, a13, a14) := by
  have hs : ∀ {k : Int32}, f_N_senderPenalty (a0, a1, 0, a3, a4, a5, a6, a7, a8, a9, a10, a11, a12, a13, a14) k = sp a0 a1 k := by
    intro k
    simp only [f_N_senderPenalty, sp, q_cnd]
  have hr : ∀ {k : Int32}, f_N_receiverPenalty (a0, a1, 0, a3, a4, a5, a6, a7, a8, a9, a10, a11, a12, a13, a14) k = rp k := by
    intro k
    simp only [f_N_receiverPenalty, rp]
  simp only [f_N_countErrors, f_N_countErrors_k5, f_N_lowerCounter, cS, cR, hs, hr]
  by_cases h1 : k = 0
  · by_cases h2 : w = 0
    · by_cases h3 : a1 ≤ 127
      · simp only [if_pos h1, if_pos h2, if_pos h3]
      · simp only [if_pos h1, if_pos h2, if_neg h3]
    · simp only [if_pos h1, if_neg h2]
  · by_cases h2 : w = 0
    · simp only [if_neg h1, if_pos h2]
    · simp only [if_neg h1, if_neg h2]
theorem q_end {a0 a1 a3 a4 a5 a6 a7 a8 a9 a10 a11 a13 a14 : Int32} {a12 : Int64} {w : Int32} : f_N_undergo_j56 (a0, a1, 0, a3, a4, a5, a6, a7, a8, a9, a10, a11, a12, a13, a14) w = if a0 < 256 then (a0, a1, 0, a3, cW a0 a1 w, a5, a6, a7, a8, a9, a10, a11, a12, a13, a14) else (a0, a1, 1, 0, cW a0 a1 w, a5, a6, a7, a8, 0, a10 + 1, 0, a12, 0, 0) := by
  simp only [f_N_undergo_j56, f_N_undergo_j88, f_N_undergo_k6, f_N_goOff, q_cnd, cW]
  by_cases h1 : w = 0
  · simp only [if_pos h1]
  · by_cases h2 : cnd a0 a1 = 1
    · simp only [if_neg h1, if_pos h2]
    · simp only [if_neg h1, if_neg h2]
theorem q_j38 {a0 a1 a3 a4 a5 a6 a7 a8 a9 a10 a11 a13 a14 : Int32} {a12 : Int64} {k w : Int32} (h : a7 = 0) : f_N_undergo_j38 (a0, a1, 0, a3, a4, a5, a6, a7, a8, a9, a10, a11, a12, a13, a14) k w = f_N_undergo_j56 (cS a0 a1 k w, cR a1 k w, 0, cF a3 k, a4, a5, a6, a7, a8, a9, a10, a11, a12, a13, a14) w := by
  simp only [f_N_undergo_j38, if_pos h, q_err, f_N_undergo_k9, q_flag, f_N_undergo_k10]
theorem q_j38n {a0 a1 a3 a4 a5 a6 a7 a8 a9 a10 a11 a13 a14 : Int32} {a12 : Int64} {k w : Int32} (h : ¬ a7 = 0) : f_N_undergo_j38 (a0, a1, 0, a3, a4, a5, a6, a7, a8, a9, a10, a11, a12, a13, a14) k w = f_N_undergo_j56 (a0, a1, 0, a3, a4, a5, a6, a7, a8, a9, a10, a11, a12, a13, a14) w := by
  simp only [f_N_undergo_j38, if_neg h]
theorem q_k1 {a0 a1 a2 a3 a4 a5 a6 a7 a8 a9 a10 a11 a13 a14 : Int32} {a12 : Int64} {k w : Int32} : f_N_undergo_k1 (a0, a1, a2, a3, a4, a5, a6, a7, a8, a9, a10, a11, a12, a13, a14) k w = f_N_undergo_j38 (a0, a1, a2, a3, a4, a5, cV k w a5 a6, a7, a8, a9, a10, a11, a12, a13, a14) k w := by
  simp only [f_N_undergo_k1, cV]
  by_cases h1 : a5 = 0
  · simp only [if_pos h1]
  · by_cases h2 : w = 0
    · simp only [if_neg h1, if_pos h2]
    · by_cases h3 : f_X_isError k = 0
      · simp only [if_neg h1, if_neg h2, if_pos h3]
      · simp only [if_neg h1, if_neg h2, if_neg h3]
/-- undergo, of a node that is not off and does not listen alone -/
theorem q_und {a0 a1 a3 a4 a5 a6 a7 a8 a9 a10 a11 a13 a14 : Int32} {a12 : Int64} {k w : Int32} (h : a7 = 0) : f_N_undergo (a0, a1, 0, a3, a4, a5, a6, a7, a8, a9, a10, a11, a12, a13, a14) k w = if cS a0 a1 k w < 256 then (cS a0 a1 k w, cR a1 k w, 0, cF a3 k, cW (cS a0 a1 k w) (cR a1 k w) w, a5, cV k w a5 a6, a7, w, cG k a9, cO k a9 a10, a11, a12, a13, a14) else (cS a0 a1 k w, cR a1 k w, 1, 0, cW (cS a0 a1 k w) (cR a1 k w) w, a5, cV k w a5 a6, a7, w, 0, cO k a9 a10 + 1, 0, a12, 0, 0) := by
  simp only [f_N_undergo, q_good, q_k1, q_j38 h, q_end]
theorem q_undn {a0 a1 a3 a4 a5 a6 a7 a8 a9 a10 a11 a13 a14 : Int32} {a12 : Int64} {k w : Int32} (h : ¬ a7 = 0) : f_N_undergo (a0, a1, 0, a3, a4, a5, a6, a7, a8, a9, a10, a11, a12, a13, a14) k w = if a0 < 256 then (a0, a1, 0, a3, cW (a0) (a1) w, a5, cV k w a5 a6, a7, w, cG k a9, cO k a9 a10, a11, a12, a13, a14) else (a0, a1, 1, 0, cW (a0) (a1) w, a5, cV k w a5 a6, a7, w, 0, cO k a9 a10 + 1, 0, a12, 0, 0) := by
  simp only [f_N_undergo, q_good, q_k1, q_j38n h, q_end]
theorem m_is {a0 a1 a3 a4 a5 a6 a7 a8 a10 a11 a12 a13 : Int32} {a9 : Int64} : f_M_is (a0, a1, 0, a3, a4, a5, a6, a7, a8, a9, a10, a11, a12, a13) = cnd a0 a1 := by
  simp only [f_M_is, cnd, if_true]
theorem m_is1 {a0 a1 a3 a4 a5 a6 a7 a8 a10 a11 a12 a13 : Int32} {a9 : Int64} : f_M_is (a0, a1, 1, a3, a4, a5, a6, a7, a8, a9, a10, a11, a12, a13) = 2 := by
  simp only [f_M_is, if_neg (show ¬ (1 : Int32) = 0 by decide)]
theorem m_446 {a0 a1 a2 a3 a4 a5 a6 a7 a8 a10 a11 a12 a13 : Int32} {a9 : Int64} {k w : Int32} : f_M_happens_j446 (a0, a1, a2, a3, a4, a5, a6, a7, a8, a9, a10, a11, a12, a13) k w = (a0, a1, a2, a3, if w = 0 then 3 else (if f_M_is (a0, a1, a2, a3, a4, a5, a6, a7, a8, a9, a10, a11, a12, a13) = 1 then 11 else 3), a5, a6, a7, a8, a9, a10, a11, a12, a13) := by
  simp only [f_M_happens_j446]
  by_cases h1 : w = 0
  · simp only [if_pos h1]
  · by_cases h2 : f_M_is (a0, a1, a2, a3, a4, a5, a6, a7, a8, a9, a10, a11, a12, a13) = 1
    · simp only [if_neg h1, if_pos h2]
    · simp only [if_neg h1, if_neg h2]
def mN (k f : Int32) : Int32 := if f_M_error k = 0 then (if k = 0 then f + 1 else f) else 0
def mV (k w single given : Int32) : Int32 := if f_M_error k = 0 then given else (if w = 0 then given else (if single = 0 then given else given + 1))
def mF (fl lis k : Int32) : Int32 := if k = 0 then 0 else (if lis = 0 then (if f_M_error k = 0 then (if fl ≤ 0 then fl else (if k = 8 then (if (fl + 8) ≤ 10000 then fl + 8 else 10000) else (if (fl + 1) ≤ 10000 then fl + 1 else 10000))) else 6) else 0)
theorem m_317 {a0 a1 a2 a3 a4 a5 a6 a7 a8 a10 a11 a12 a13 : Int32} {a9 : Int64} {k w : Int32} : f_M_happens_j317 (a0, a1, a2, a3, a4, a5, a6, a7, a8, a9, a10, a11, a12, a13) k w = f_M_happens_j355 (a0, a1, a2, a3, a4, a5, a6, a7, a8, a9, a10, a11, a12, mN k a13) k w := by
  simp only [f_M_happens_j317, mN]
  by_cases h1 : f_M_error k = 0
  · by_cases h2 : k = 0
    · simp only [if_pos h1, if_pos h2]
    · simp only [if_pos h1, if_neg h2]
  · simp only [if_neg h1]
theorem m_280 {a0 a1 a2 a3 a4 a5 a6 a7 a8 a10 a11 a12 a13 : Int32} {a9 : Int64} {k w : Int32} : f_M_happens_j280 (a0, a1, a2, a3, a4, a5, a6, a7, a8, a9, a10, a11, a12, a13) k w = f_M_happens_j317 (a0, a1, a2, a3, a4, w, a6, mV k w a6 a7, a8, a9, a10, a11, a12, a13) k w := by
  simp only [f_M_happens_j280, mV]
  by_cases h1 : f_M_error k = 0
  · simp only [if_pos h1]
  · by_cases h2 : w = 0
    · simp only [if_neg h1, if_pos h2]
    · by_cases h3 : a6 = 0
      · simp only [if_neg h1, if_neg h2, if_pos h3]
      · simp only [if_neg h1, if_neg h2, if_neg h3]
theorem m_174 {a0 a1 a2 a3 a4 a5 a6 a7 a8 a10 a11 a12 a13 : Int32} {a9 : Int64} {k w : Int32} : f_M_happens_j174 (a0, a1, a2, a3, a4, a5, a6, a7, a8, a9, a10, a11, a12, a13) k w = f_M_happens_j280 (a0, a1, a2, mF a3 a8 k, a4, a5, a6, a7, a8, a9, a10, a11, a12, a13) k w := by
  simp only [f_M_happens_j174, mF]
  by_cases h1 : k = 0
  · simp only [if_pos h1]
  · by_cases h2 : a8 = 0
    · by_cases h3 : f_M_error k = 0
      · by_cases h4 : a3 ≤ 0
        · simp only [if_neg h1, if_pos h2, if_pos h3, if_pos h4]
        · by_cases h5 : k = 8
          · by_cases h6 : (a3 + 8) ≤ 10000
            · simp only [if_neg h1, if_pos h2, if_pos h3, if_neg h4, if_pos h5, if_pos h6]
            · simp only [if_neg h1, if_pos h2, if_pos h3, if_neg h4, if_pos h5, if_neg h6]
          · by_cases h6 : (a3 + 1) ≤ 10000
            · simp only [if_neg h1, if_pos h2, if_pos h3, if_neg h4, if_neg h5, if_pos h6]
            · simp only [if_neg h1, if_pos h2, if_pos h3, if_neg h4, if_neg h5, if_neg h6]
      · simp only [if_neg h1, if_pos h2, if_neg h3]
    · simp only [if_neg h1, if_neg h2]

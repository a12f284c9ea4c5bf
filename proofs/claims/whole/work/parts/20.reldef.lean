-- class and reference: when a node of the one and a node of the other say the same
def RelN (u : NS) (a : MN) : Prop := ∃ (s r off fl w mw single given lis snd good fine offs asked rows mrows lt : Int32) (first masked : Int64),
  u = (s, r, off, fl, w, single, given, lis, snd, good, offs, asked, first, lt, rows) ∧ a = (s, r, off, fl, mw, snd, single, given, lis, masked, lt, mrows, offs, fine) ∧
  (off = 0 ∨ off = 1) ∧ (single = 0 ∨ single = 1) ∧ (lis = 0 ∨ lis = 1) ∧ (snd = 0 ∨ snd = 1) ∧ (lt = 0 ∨ lt = 1) ∧
  (0 ≤ s.toInt ∧ s.toInt ≤ 256 ∧ 0 ≤ r.toInt ∧ r.toInt ≤ 255 ∧ 0 ≤ fl.toInt ∧ fl.toInt ≤ 10000) ∧
  (off = 0 → w = mw ∧ s.toInt < 256) ∧ (off = 1 → rows = mrows ∧ 0 ≤ rows.toInt ∧ rows.toInt < 128) ∧ (lis = 1 → fl = 0) ∧
  ((good = fine ∧ 0 ≤ good.toInt ∧ good.toInt < 100) ∨ (good = 100 ∧ offs = 0 ∧ 0 ≤ fine.toInt ∧ fine.toInt < 100)) ∧
  ((asked = 0 ∧ masked = -1 ∧ lt = 0) ∨ (asked = 1 ∧ masked = first ∧ 0 ≤ first))
def Rel (u : XS) (v : MS) : Prop := u.1 = v.1 ∧ u.1 ≤ 100 ∧ u.2.1 = v.2.1 ∧ 0 ≤ u.2.1 ∧ (∀ j, j < u.1 → RelN (u.2.2 j) (v.2.2 (j + 1))) ∧ ∀ j, u.1 < j → v.2.2 j = m_0
theorem Rel.hz {u : XS} {v : MS} (h : Rel u v) : ∀ j, j < u.1 → (u.2.2 j).2.2.2.2.2.2.2.2.2.2.2.2.2.1 = 0 ∨ (u.2.2 j).2.2.2.2.2.2.2.2.2.2.2.2.2.1 = 1 := by
  intro j hj
  obtain ⟨s, r, off, fl, w, mw, single, given, lis, snd, good, fine, offs, asked, rows, mrows, lt, first, masked, e1, -, -, -, -, -, h5, -⟩ := h.2.2.2.2.1 j hj
  rw [e1]
  exact h5
theorem rel_0 : Rel (0, 0, fun _ => n_0) (0, 0, fun _ => m_0) := ⟨rfl, by decide, rfl, by decide, fun j hj => absurd hj (Nat.not_lt_zero j), fun _ _ => rfl⟩
theorem Rel.up {u : XS} {v : MS} (h : Rel u v) {j : Nat} (hj : j < u.1) {a : NS} {b : MN} (hr : RelN a b) : Rel (u.1, u.2.1, va_up u.2.2 j a) (v.1, v.2.1, va_up v.2.2 (j + 1) b) := by
  obtain ⟨h1, h2, h3, h4, h5, h6⟩ := h
  refine ⟨h1, h2, h3, h4, fun i hi => ?_, fun i hi => ?_⟩
  · show RelN (va_up u.2.2 j a i) (va_up v.2.2 (j + 1) b (i + 1))
    by_cases e : i = j
    · subst e; rw [va_up_self, va_up_self]; exact hr
    · rw [va_up_ne _ _ e, va_up_ne _ _ (by omega)]; exact h5 i hi
  · show va_up v.2.2 (j + 1) b i = m_0
    have hi : u.1 < i := hi
    rw [va_up_ne _ _ (by omega)]; exact h6 i hi
theorem Rel.upM {u : XS} {v : MS} (h : Rel u v) {j : Nat} (hj : j < u.1) {b : MN} (hr : RelN (u.2.2 j) b) : Rel u (v.1, v.2.1, va_up v.2.2 (j + 1) b) := by
  obtain ⟨h1, h2, h3, h4, h5, h6⟩ := h
  refine ⟨h1, h2, h3, h4, fun i hi => ?_, fun i hi => ?_⟩
  · show RelN (u.2.2 i) (va_up v.2.2 (j + 1) b (i + 1))
    by_cases e : i = j
    · subst e; rw [va_up_self]; exact hr
    · rw [va_up_ne _ _ (by omega)]; exact h5 i hi
  · show va_up v.2.2 (j + 1) b i = m_0
    rw [va_up_ne _ _ (by omega)]; exact h6 i hi
theorem Rel.upT {u : XS} {v : MS} (h : Rel u v) {j : Nat} (hj : j < u.1) {a : NS} {b : MN} (hr : RelN a b) {t : Int64} (ht : 0 ≤ t) : Rel (u.1, t, va_up u.2.2 j a) (v.1, t, va_up v.2.2 (j + 1) b) := by
  obtain ⟨h1, h2, h3, h4, h5, h6⟩ := h
  refine ⟨h1, h2, rfl, ht, fun i hi => ?_, fun i hi => ?_⟩
  · show RelN (va_up u.2.2 j a i) (va_up v.2.2 (j + 1) b (i + 1))
    by_cases e : i = j
    · subst e; rw [va_up_self, va_up_self]; exact hr
    · rw [va_up_ne _ _ e, va_up_ne _ _ (by omega)]; exact h5 i hi
  · show va_up v.2.2 (j + 1) b i = m_0
    have hi : u.1 < i := hi
    rw [va_up_ne _ _ (by omega)]; exact h6 i hi
theorem rel_node {u : XS} {v : MS} (h : Rel u v) : (F_X_node u).1 = (F_M_node v).1 ∧ Rel (F_X_node u).2 (F_M_node v).2 := by
  have h0 := h
  obtain ⟨h1, h2, h3, h4, h5, h6⟩ := h
  unfold F_X_node F_M_node
  by_cases e : v.1 = 100
  · rw [if_pos e, if_neg (by omega)]; exact ⟨rfl, h0⟩
  · rw [if_neg e, if_pos (by omega)]
    refine ⟨by rw [h1], by show u.1 + 1 = v.1 + 1; omega, by show u.1 + 1 ≤ 100; omega, h3, h4, fun i hi => ?_, fun i hi => ?_⟩
    · have hi : i < u.1 + 1 := hi
      show RelN (va_up u.2.2 u.1 n_0 i) (va_up v.2.2 (v.1 + 1) (m_new (v.2.2 (v.1 + 1))) (i + 1))
      by_cases e2 : i = u.1
      · subst e2
        rw [← h1, va_up_self, va_up_self, h6 (u.1 + 1) (by omega)]
        exact ⟨0, 0, 0, 0, 0, 0, 0, 0, 0, 0, 0, 0, 0, 0, 0, 0, 0, 0, -1, rfl, rfl, by decide, by decide, by decide, by decide, by decide, by decide, by decide, by decide, by decide, by decide, by decide⟩
      · rw [va_up_ne _ _ e2, va_up_ne _ _ (by omega)]
        exact h5 i (by omega)
    · have hi : u.1 + 1 < i := hi
      show va_up v.2.2 (v.1 + 1) (m_new (v.2.2 (v.1 + 1))) i = m_0
      rw [va_up_ne _ _ (by omega)]
      exact h6 i (by omega)

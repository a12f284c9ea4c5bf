theorem rel_event {u : XS} {v : MS} (h : Rel u v) (n k w : Int32) (hw : w = 0 ∨ w = 1) : (F_X_event u n k w).1 = (F_M_event v n k w).1 ∧ Rel (F_X_event u n k w).2 (F_M_event v n k w).2 := sorry
theorem rel_counter {u : XS} {v : MS} (h : Rel u v) (n w : Int32) : (F_X_counter u n w).1 = (F_M_counter v n w).1 ∧ Rel (F_X_counter u n w).2 (F_M_counter v n w).2 := sorry
theorem rel_state {u : XS} {v : MS} (h : Rel u v) (n : Int32) : (F_X_state u n).1 = (F_M_state v n).1 ∧ Rel (F_X_state u n).2 (F_M_state v n).2 := sorry
theorem rel_recover {u : XS} {v : MS} (h : Rel u v) (n k : Int32) : (F_X_recover u n k).1 = (F_M_recover v n k).1 ∧ Rel (F_X_recover u n k).2 (F_M_recover v n k).2 := sorry
theorem rel_flag {u : XS} {v : MS} (h : Rel u v) (n : Int32) : (F_X_flag u n).1 = (F_M_flag v n).1 ∧ Rel (F_X_flag u n).2 (F_M_flag v n).2 := sorry
theorem rel_manager {u : XS} {v : MS} (h : Rel u v) (n : Int32) (t : Int64) : (F_X_manager u n t).1 = (F_M_manager v n t).1 ∧ Rel (F_X_manager u n t).2 (F_M_manager v n t).2 := sorry
theorem rel_shot {u : XS} {v : MS} (h : Rel u v) (n w : Int32) (hw : w = 0 ∨ w = 1) : (F_X_shot u n w).1 = (F_M_shot v n w).1 ∧ Rel (F_X_shot u n w).2 (F_M_shot v n w).2 := sorry
theorem rel_listen {u : XS} {v : MS} (h : Rel u v) (n w : Int32) (hw : w = 0 ∨ w = 1) : (F_X_listen u n w).1 = (F_M_listen v n w).1 ∧ Rel (F_X_listen u n w).2 (F_M_listen v n w).2 := sorry
theorem rel_two {u : XS} {v : MS} (h : Rel u v) (n k q : Int32) : (F_X_two u n k q).1 = (F_M_two v n k q).1 ∧ Rel (F_X_two u n k q).2 (F_M_two v n k q).2 := sorry
theorem rel_suspended {u : XS} {v : MS} (h : Rel u v) (n : Int32) : (F_X_suspended u n).1 = (F_M_suspended v n).1 ∧ Rel (F_X_suspended u n).2 (F_M_suspended v n).2 := sorry

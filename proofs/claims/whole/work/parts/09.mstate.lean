abbrev MN : Type := Int32 × Int32 × Int32 × Int32 × Int32 × Int32 × Int32 × Int32 × Int32 × Int64 × Int32 × Int32 × Int32 × Int32
abbrev MS : Type := Nat × Int64 × (Nat → MN)
def oM (qq : Nat → Nat) (c nn : Int32) (lt : Int64) : List Value := [.int c, .int nn, .ref (qq 0), .ref (qq 1), .ref (qq 2), .ref (qq 3), .ref (qq 4), .ref (qq 5), .ref (qq 6), .ref (qq 7), .ref (qq 8), .ref (qq 9), .ref (qq 10), .ref (qq 11), .ref (qq 12), .ref (qq 13), .long lt]
def wMg (h0 : Nat) (qq : Nat → Nat) (cc : Nat → ClassId) (ff : Nat → Nat → Int32) (fl : Nat → Int64) (c nn : Int32) (lt : Int64) : va_W := [(h0, .inr (2, oM qq c nn lt)), (qq 0, .inl (cc 0, 101, .inl (ff 0))), (qq 1, .inl (cc 1, 101, .inl (ff 1))), (qq 2, .inl (cc 2, 101, .inl (ff 2))), (qq 3, .inl (cc 3, 101, .inl (ff 3))), (qq 4, .inl (cc 4, 101, .inl (ff 4))), (qq 5, .inl (cc 5, 101, .inl (ff 5))), (qq 6, .inl (cc 6, 101, .inl (ff 6))), (qq 7, .inl (cc 7, 101, .inl (ff 7))), (qq 8, .inl (cc 8, 101, .inl (ff 8))), (qq 9, .inl (cc 9, 101, .inr (.inl (fl)))), (qq 10, .inl (cc 10, 101, .inl (ff 10))), (qq 11, .inl (cc 11, 101, .inl (ff 11))), (qq 12, .inl (cc 12, 101, .inl (ff 12))), (qq 13, .inl (cc 13, 101, .inl (ff 13)))]
def wM (h0 : Nat) (qq : Nat → Nat) (cc : Nat → ClassId) (ff : Nat → Nat → Int32) (fl : Nat → Int64) (k : Nat) (c nn : Int32) (lt : Int64) (a : MN) : va_W := [(h0, .inr (2, oM qq c nn lt)), (qq 0, .inl (cc 0, 101, .inl (upd (ff 0) k a.1))), (qq 1, .inl (cc 1, 101, .inl (upd (ff 1) k a.2.1))), (qq 2, .inl (cc 2, 101, .inl (upd (ff 2) k a.2.2.1))), (qq 3, .inl (cc 3, 101, .inl (upd (ff 3) k a.2.2.2.1))), (qq 4, .inl (cc 4, 101, .inl (upd (ff 4) k a.2.2.2.2.1))), (qq 5, .inl (cc 5, 101, .inl (upd (ff 5) k a.2.2.2.2.2.1))), (qq 6, .inl (cc 6, 101, .inl (upd (ff 6) k a.2.2.2.2.2.2.1))), (qq 7, .inl (cc 7, 101, .inl (upd (ff 7) k a.2.2.2.2.2.2.2.1))), (qq 8, .inl (cc 8, 101, .inl (upd (ff 8) k a.2.2.2.2.2.2.2.2.1))), (qq 9, .inl (cc 9, 101, .inr (.inl (vp_updL fl k a.2.2.2.2.2.2.2.2.2.1)))), (qq 10, .inl (cc 10, 101, .inl (upd (ff 10) k a.2.2.2.2.2.2.2.2.2.2.1))), (qq 11, .inl (cc 11, 101, .inl (upd (ff 11) k a.2.2.2.2.2.2.2.2.2.2.2.1))), (qq 12, .inl (cc 12, 101, .inl (upd (ff 12) k a.2.2.2.2.2.2.2.2.2.2.2.2.1))), (qq 13, .inl (cc 13, 101, .inl (upd (ff 13) k a.2.2.2.2.2.2.2.2.2.2.2.2.2)))]
def tM (cc : Nat → ClassId) : List (ClassId × FieldType) := [(cc 0, .int), (cc 1, .int), (cc 2, .boolean), (cc 3, .int), (cc 4, .int), (cc 5, .boolean), (cc 6, .boolean), (cc 7, .int), (cc 8, .boolean), (cc 9, .long), (cc 10, .boolean), (cc 11, .int), (cc 12, .int), (cc 13, .int)]
def tupM (ff : Nat → Nat → Int32) (fl : Nat → Int64) (k : Nat) : MN := (ff 0 k, ff 1 k, ff 2 k, ff 3 k, ff 4 k, ff 5 k, ff 6 k, ff 7 k, ff 8 k, fl k, ff 10 k, ff 11 k, ff 12 k, ff 13 k)
def uff (ff : Nat → Nat → Int32) (k : Nat) (a : MN) : Nat → Nat → Int32 := fun i => match i with
  | 0 => upd (ff 0) k a.1
  | 1 => upd (ff 1) k a.2.1
  | 2 => upd (ff 2) k a.2.2.1
  | 3 => upd (ff 3) k a.2.2.2.1
  | 4 => upd (ff 4) k a.2.2.2.2.1
  | 5 => upd (ff 5) k a.2.2.2.2.2.1
  | 6 => upd (ff 6) k a.2.2.2.2.2.2.1
  | 7 => upd (ff 7) k a.2.2.2.2.2.2.2.1
  | 8 => upd (ff 8) k a.2.2.2.2.2.2.2.2.1
  | 10 => upd (ff 10) k a.2.2.2.2.2.2.2.2.2.2.1
  | 11 => upd (ff 11) k a.2.2.2.2.2.2.2.2.2.2.2.1
  | 12 => upd (ff 12) k a.2.2.2.2.2.2.2.2.2.2.2.2.1
  | 13 => upd (ff 13) k a.2.2.2.2.2.2.2.2.2.2.2.2.2
  | _ => ff 99
theorem wM_g {h0 : Nat} {qq : Nat → Nat} {cc : Nat → ClassId} {ff : Nat → Nat → Int32} {fl : Nat → Int64} {k : Nat} {c nn : Int32} {lt : Int64} {a : MN} : wM h0 qq cc ff fl k c nn lt a = wMg h0 qq cc (uff ff k a) (vp_updL fl k a.2.2.2.2.2.2.2.2.2.1) c nn lt := rfl
theorem u_self {f : Nat → Int32} {k : Nat} : upd f k (f k) = f := funext fun j => by
  unfold upd
  by_cases h : j = k
  · rw [if_pos h, h]
  · rw [if_neg h]
theorem ul_self {f : Nat → Int64} {k : Nat} : vp_updL f k (f k) = f := funext fun j => by
  unfold vp_updL
  by_cases h : j = k
  · rw [if_pos h, h]
  · rw [if_neg h]
theorem u_uu {f : Nat → Int32} {k : Nat} {a b : Int32} : upd (upd f k a) k b = upd f k b := funext fun j => by
  unfold upd
  by_cases h : j = k
  · rw [if_pos h, if_pos h]
  · rw [if_neg h, if_neg h, if_neg h]
theorem ul_uu {f : Nat → Int64} {k : Nat} {a b : Int64} : vp_updL (vp_updL f k a) k b = vp_updL f k b := funext fun j => by
  unfold vp_updL
  by_cases h : j = k
  · rw [if_pos h, if_pos h]
  · rw [if_neg h, if_neg h, if_neg h]
theorem wM_self {h0 : Nat} {qq : Nat → Nat} {cc : Nat → ClassId} {ff : Nat → Nat → Int32} {fl : Nat → Int64} {k : Nat} {c nn : Int32} {lt : Int64} : wM h0 qq cc ff fl k c nn lt (tupM ff fl k) = wMg h0 qq cc ff fl c nn lt := by
  simp only [wM, wMg, tupM, u_self, ul_self]
theorem tup_uff {ff : Nat → Nat → Int32} {fl : Nat → Int64} {k j : Nat} {a : MN} : tupM (uff ff k a) (vp_updL fl k a.2.2.2.2.2.2.2.2.2.1) j = va_up (tupM ff fl) k a j := by
  obtain ⟨a0, a1, a2, a3, a4, a5, a6, a7, a8, a9, a10, a11, a12, a13⟩ := a
  by_cases h : j = k
  · subst h
    rw [va_up_self]
    simp only [tupM, uff, upd, vp_updL, if_true]
  · rw [va_up_ne _ _ h]
    simp only [tupM, uff, upd, vp_updL, if_neg h]
theorem ws_0 {h0 : Nat} {qq : Nat → Nat} {cc : Nat → ClassId} {ff : Nat → Nat → Int32} {fl : Nat → Int64} {k : Nat} {c nn : Int32} {lt : Int64} {a : MN} {v x : Int32} : (wM h0 qq cc ff fl k c nn lt a).set 1 (qq 0, .inl (cc 0, 101, .inl (upd (upd (ff 0) k v) k x))) = wM h0 qq cc ff fl k c nn lt (x, a.2.1, a.2.2.1, a.2.2.2.1, a.2.2.2.2.1, a.2.2.2.2.2.1, a.2.2.2.2.2.2.1, a.2.2.2.2.2.2.2.1, a.2.2.2.2.2.2.2.2.1, a.2.2.2.2.2.2.2.2.2.1, a.2.2.2.2.2.2.2.2.2.2.1, a.2.2.2.2.2.2.2.2.2.2.2.1, a.2.2.2.2.2.2.2.2.2.2.2.2.1, a.2.2.2.2.2.2.2.2.2.2.2.2.2) := by rw [u_uu]; rfl
theorem ws_1 {h0 : Nat} {qq : Nat → Nat} {cc : Nat → ClassId} {ff : Nat → Nat → Int32} {fl : Nat → Int64} {k : Nat} {c nn : Int32} {lt : Int64} {a : MN} {v x : Int32} : (wM h0 qq cc ff fl k c nn lt a).set 2 (qq 1, .inl (cc 1, 101, .inl (upd (upd (ff 1) k v) k x))) = wM h0 qq cc ff fl k c nn lt (a.1, x, a.2.2.1, a.2.2.2.1, a.2.2.2.2.1, a.2.2.2.2.2.1, a.2.2.2.2.2.2.1, a.2.2.2.2.2.2.2.1, a.2.2.2.2.2.2.2.2.1, a.2.2.2.2.2.2.2.2.2.1, a.2.2.2.2.2.2.2.2.2.2.1, a.2.2.2.2.2.2.2.2.2.2.2.1, a.2.2.2.2.2.2.2.2.2.2.2.2.1, a.2.2.2.2.2.2.2.2.2.2.2.2.2) := by rw [u_uu]; rfl
theorem ws_2 {h0 : Nat} {qq : Nat → Nat} {cc : Nat → ClassId} {ff : Nat → Nat → Int32} {fl : Nat → Int64} {k : Nat} {c nn : Int32} {lt : Int64} {a : MN} {v x : Int32} : (wM h0 qq cc ff fl k c nn lt a).set 3 (qq 2, .inl (cc 2, 101, .inl (upd (upd (ff 2) k v) k x))) = wM h0 qq cc ff fl k c nn lt (a.1, a.2.1, x, a.2.2.2.1, a.2.2.2.2.1, a.2.2.2.2.2.1, a.2.2.2.2.2.2.1, a.2.2.2.2.2.2.2.1, a.2.2.2.2.2.2.2.2.1, a.2.2.2.2.2.2.2.2.2.1, a.2.2.2.2.2.2.2.2.2.2.1, a.2.2.2.2.2.2.2.2.2.2.2.1, a.2.2.2.2.2.2.2.2.2.2.2.2.1, a.2.2.2.2.2.2.2.2.2.2.2.2.2) := by rw [u_uu]; rfl
theorem ws_3 {h0 : Nat} {qq : Nat → Nat} {cc : Nat → ClassId} {ff : Nat → Nat → Int32} {fl : Nat → Int64} {k : Nat} {c nn : Int32} {lt : Int64} {a : MN} {v x : Int32} : (wM h0 qq cc ff fl k c nn lt a).set 4 (qq 3, .inl (cc 3, 101, .inl (upd (upd (ff 3) k v) k x))) = wM h0 qq cc ff fl k c nn lt (a.1, a.2.1, a.2.2.1, x, a.2.2.2.2.1, a.2.2.2.2.2.1, a.2.2.2.2.2.2.1, a.2.2.2.2.2.2.2.1, a.2.2.2.2.2.2.2.2.1, a.2.2.2.2.2.2.2.2.2.1, a.2.2.2.2.2.2.2.2.2.2.1, a.2.2.2.2.2.2.2.2.2.2.2.1, a.2.2.2.2.2.2.2.2.2.2.2.2.1, a.2.2.2.2.2.2.2.2.2.2.2.2.2) := by rw [u_uu]; rfl
theorem ws_4 {h0 : Nat} {qq : Nat → Nat} {cc : Nat → ClassId} {ff : Nat → Nat → Int32} {fl : Nat → Int64} {k : Nat} {c nn : Int32} {lt : Int64} {a : MN} {v x : Int32} : (wM h0 qq cc ff fl k c nn lt a).set 5 (qq 4, .inl (cc 4, 101, .inl (upd (upd (ff 4) k v) k x))) = wM h0 qq cc ff fl k c nn lt (a.1, a.2.1, a.2.2.1, a.2.2.2.1, x, a.2.2.2.2.2.1, a.2.2.2.2.2.2.1, a.2.2.2.2.2.2.2.1, a.2.2.2.2.2.2.2.2.1, a.2.2.2.2.2.2.2.2.2.1, a.2.2.2.2.2.2.2.2.2.2.1, a.2.2.2.2.2.2.2.2.2.2.2.1, a.2.2.2.2.2.2.2.2.2.2.2.2.1, a.2.2.2.2.2.2.2.2.2.2.2.2.2) := by rw [u_uu]; rfl
theorem ws_5 {h0 : Nat} {qq : Nat → Nat} {cc : Nat → ClassId} {ff : Nat → Nat → Int32} {fl : Nat → Int64} {k : Nat} {c nn : Int32} {lt : Int64} {a : MN} {v x : Int32} : (wM h0 qq cc ff fl k c nn lt a).set 6 (qq 5, .inl (cc 5, 101, .inl (upd (upd (ff 5) k v) k x))) = wM h0 qq cc ff fl k c nn lt (a.1, a.2.1, a.2.2.1, a.2.2.2.1, a.2.2.2.2.1, x, a.2.2.2.2.2.2.1, a.2.2.2.2.2.2.2.1, a.2.2.2.2.2.2.2.2.1, a.2.2.2.2.2.2.2.2.2.1, a.2.2.2.2.2.2.2.2.2.2.1, a.2.2.2.2.2.2.2.2.2.2.2.1, a.2.2.2.2.2.2.2.2.2.2.2.2.1, a.2.2.2.2.2.2.2.2.2.2.2.2.2) := by rw [u_uu]; rfl
theorem ws_6 {h0 : Nat} {qq : Nat → Nat} {cc : Nat → ClassId} {ff : Nat → Nat → Int32} {fl : Nat → Int64} {k : Nat} {c nn : Int32} {lt : Int64} {a : MN} {v x : Int32} : (wM h0 qq cc ff fl k c nn lt a).set 7 (qq 6, .inl (cc 6, 101, .inl (upd (upd (ff 6) k v) k x))) = wM h0 qq cc ff fl k c nn lt (a.1, a.2.1, a.2.2.1, a.2.2.2.1, a.2.2.2.2.1, a.2.2.2.2.2.1, x, a.2.2.2.2.2.2.2.1, a.2.2.2.2.2.2.2.2.1, a.2.2.2.2.2.2.2.2.2.1, a.2.2.2.2.2.2.2.2.2.2.1, a.2.2.2.2.2.2.2.2.2.2.2.1, a.2.2.2.2.2.2.2.2.2.2.2.2.1, a.2.2.2.2.2.2.2.2.2.2.2.2.2) := by rw [u_uu]; rfl
theorem ws_7 {h0 : Nat} {qq : Nat → Nat} {cc : Nat → ClassId} {ff : Nat → Nat → Int32} {fl : Nat → Int64} {k : Nat} {c nn : Int32} {lt : Int64} {a : MN} {v x : Int32} : (wM h0 qq cc ff fl k c nn lt a).set 8 (qq 7, .inl (cc 7, 101, .inl (upd (upd (ff 7) k v) k x))) = wM h0 qq cc ff fl k c nn lt (a.1, a.2.1, a.2.2.1, a.2.2.2.1, a.2.2.2.2.1, a.2.2.2.2.2.1, a.2.2.2.2.2.2.1, x, a.2.2.2.2.2.2.2.2.1, a.2.2.2.2.2.2.2.2.2.1, a.2.2.2.2.2.2.2.2.2.2.1, a.2.2.2.2.2.2.2.2.2.2.2.1, a.2.2.2.2.2.2.2.2.2.2.2.2.1, a.2.2.2.2.2.2.2.2.2.2.2.2.2) := by rw [u_uu]; rfl
theorem ws_8 {h0 : Nat} {qq : Nat → Nat} {cc : Nat → ClassId} {ff : Nat → Nat → Int32} {fl : Nat → Int64} {k : Nat} {c nn : Int32} {lt : Int64} {a : MN} {v x : Int32} : (wM h0 qq cc ff fl k c nn lt a).set 9 (qq 8, .inl (cc 8, 101, .inl (upd (upd (ff 8) k v) k x))) = wM h0 qq cc ff fl k c nn lt (a.1, a.2.1, a.2.2.1, a.2.2.2.1, a.2.2.2.2.1, a.2.2.2.2.2.1, a.2.2.2.2.2.2.1, a.2.2.2.2.2.2.2.1, x, a.2.2.2.2.2.2.2.2.2.1, a.2.2.2.2.2.2.2.2.2.2.1, a.2.2.2.2.2.2.2.2.2.2.2.1, a.2.2.2.2.2.2.2.2.2.2.2.2.1, a.2.2.2.2.2.2.2.2.2.2.2.2.2) := by rw [u_uu]; rfl
theorem ws_9 {h0 : Nat} {qq : Nat → Nat} {cc : Nat → ClassId} {ff : Nat → Nat → Int32} {fl : Nat → Int64} {k : Nat} {c nn : Int32} {lt : Int64} {a : MN} {v x : Int64} : (wM h0 qq cc ff fl k c nn lt a).set 10 (qq 9, .inl (cc 9, 101, .inr (.inl (vp_updL (vp_updL fl k v) k x)))) = wM h0 qq cc ff fl k c nn lt (a.1, a.2.1, a.2.2.1, a.2.2.2.1, a.2.2.2.2.1, a.2.2.2.2.2.1, a.2.2.2.2.2.2.1, a.2.2.2.2.2.2.2.1, a.2.2.2.2.2.2.2.2.1, x, a.2.2.2.2.2.2.2.2.2.2.1, a.2.2.2.2.2.2.2.2.2.2.2.1, a.2.2.2.2.2.2.2.2.2.2.2.2.1, a.2.2.2.2.2.2.2.2.2.2.2.2.2) := by rw [ul_uu]; rfl
theorem ws_10 {h0 : Nat} {qq : Nat → Nat} {cc : Nat → ClassId} {ff : Nat → Nat → Int32} {fl : Nat → Int64} {k : Nat} {c nn : Int32} {lt : Int64} {a : MN} {v x : Int32} : (wM h0 qq cc ff fl k c nn lt a).set 11 (qq 10, .inl (cc 10, 101, .inl (upd (upd (ff 10) k v) k x))) = wM h0 qq cc ff fl k c nn lt (a.1, a.2.1, a.2.2.1, a.2.2.2.1, a.2.2.2.2.1, a.2.2.2.2.2.1, a.2.2.2.2.2.2.1, a.2.2.2.2.2.2.2.1, a.2.2.2.2.2.2.2.2.1, a.2.2.2.2.2.2.2.2.2.1, x, a.2.2.2.2.2.2.2.2.2.2.2.1, a.2.2.2.2.2.2.2.2.2.2.2.2.1, a.2.2.2.2.2.2.2.2.2.2.2.2.2) := by rw [u_uu]; rfl
theorem ws_11 {h0 : Nat} {qq : Nat → Nat} {cc : Nat → ClassId} {ff : Nat → Nat → Int32} {fl : Nat → Int64} {k : Nat} {c nn : Int32} {lt : Int64} {a : MN} {v x : Int32} : (wM h0 qq cc ff fl k c nn lt a).set 12 (qq 11, .inl (cc 11, 101, .inl (upd (upd (ff 11) k v) k x))) = wM h0 qq cc ff fl k c nn lt (a.1, a.2.1, a.2.2.1, a.2.2.2.1, a.2.2.2.2.1, a.2.2.2.2.2.1, a.2.2.2.2.2.2.1, a.2.2.2.2.2.2.2.1, a.2.2.2.2.2.2.2.2.1, a.2.2.2.2.2.2.2.2.2.1, a.2.2.2.2.2.2.2.2.2.2.1, x, a.2.2.2.2.2.2.2.2.2.2.2.2.1, a.2.2.2.2.2.2.2.2.2.2.2.2.2) := by rw [u_uu]; rfl
theorem ws_12 {h0 : Nat} {qq : Nat → Nat} {cc : Nat → ClassId} {ff : Nat → Nat → Int32} {fl : Nat → Int64} {k : Nat} {c nn : Int32} {lt : Int64} {a : MN} {v x : Int32} : (wM h0 qq cc ff fl k c nn lt a).set 13 (qq 12, .inl (cc 12, 101, .inl (upd (upd (ff 12) k v) k x))) = wM h0 qq cc ff fl k c nn lt (a.1, a.2.1, a.2.2.1, a.2.2.2.1, a.2.2.2.2.1, a.2.2.2.2.2.1, a.2.2.2.2.2.2.1, a.2.2.2.2.2.2.2.1, a.2.2.2.2.2.2.2.2.1, a.2.2.2.2.2.2.2.2.2.1, a.2.2.2.2.2.2.2.2.2.2.1, a.2.2.2.2.2.2.2.2.2.2.2.1, x, a.2.2.2.2.2.2.2.2.2.2.2.2.2) := by rw [u_uu]; rfl
theorem ws_13 {h0 : Nat} {qq : Nat → Nat} {cc : Nat → ClassId} {ff : Nat → Nat → Int32} {fl : Nat → Int64} {k : Nat} {c nn : Int32} {lt : Int64} {a : MN} {v x : Int32} : (wM h0 qq cc ff fl k c nn lt a).set 14 (qq 13, .inl (cc 13, 101, .inl (upd (upd (ff 13) k v) k x))) = wM h0 qq cc ff fl k c nn lt (a.1, a.2.1, a.2.2.1, a.2.2.2.1, a.2.2.2.2.1, a.2.2.2.2.2.1, a.2.2.2.2.2.2.1, a.2.2.2.2.2.2.2.1, a.2.2.2.2.2.2.2.2.1, a.2.2.2.2.2.2.2.2.2.1, a.2.2.2.2.2.2.2.2.2.2.1, a.2.2.2.2.2.2.2.2.2.2.2.1, a.2.2.2.2.2.2.2.2.2.2.2.2.1, x) := by rw [u_uu]; rfl
theorem vnb {p : Int32} (h : p = 0 ∨ p = 1) : vp_nar .boolean p = p := by
  rcases h with rfl | rfl <;> decide
/-- va_D speaks of the addresses alone -/
theorem va_Da {A : Nat → Prop} {ws w2 : va_W} (h : va_D A ws) (e : w2.map Prod.fst = ws.map Prod.fst) : va_D A w2 := by
  have key : ∀ (i : Nat) (p : Nat × va_E), w2[i]? = some p → ∃ q, ws[i]? = some q ∧ q.1 = p.1 := by
    intro i p hp
    have h1 : (w2.map Prod.fst)[i]? = some p.1 := by rw [List.getElem?_map, hp]; rfl
    rw [e, List.getElem?_map] at h1
    cases hq : ws[i]? with
    | none => rw [hq] at h1; cases h1
    | some q => rw [hq] at h1; exact ⟨q, rfl, Option.some.inj h1⟩
  refine ⟨fun i j p q hi hj hpq => ?_, fun i p hi => ?_⟩
  · obtain ⟨p2, h1, h2⟩ := key i p hi
    obtain ⟨q2, h3, h4⟩ := key j q hj
    exact h.1 i j p2 q2 h1 h3 (by rw [h2, h4, hpq])
  · obtain ⟨p2, h1, h2⟩ := key i p hi
    rw [← h2]; exact h.2 i p2 h1
theorem wM_D {A : Nat → Prop} {h0 : Nat} {qq : Nat → Nat} {cc : Nat → ClassId} {ff : Nat → Nat → Int32} {fl : Nat → Int64} {k : Nat} {c nn : Int32} {lt : Int64} {a : MN} {a2 : MN} {c2 nn2 : Int32} {lt2 : Int64} (h : va_D A (wM h0 qq cc ff fl k c nn lt a)) : va_D A (wM h0 qq cc ff fl k c2 nn2 lt2 a2) := va_Da h rfl
theorem wMg_D {A : Nat → Prop} {h0 : Nat} {qq : Nat → Nat} {cc c3 : Nat → ClassId} {ff f3 : Nat → Nat → Int32} {fl l3 : Nat → Int64} {c nn : Int32} {lt : Int64} {c2 nn2 : Int32} {lt2 : Int64} (h : va_D A (wMg h0 qq cc ff fl c nn lt)) : va_D A (wMg h0 qq c3 f3 l3 c2 nn2 lt2) := va_Da h rfl
section TP
variable {p : Program} {l : Launch} {e : Env} {R : Room} {s : State} {m : MethodId} {args : Array Value} {below : List Frame} {meth : Method} {c : Code} {H : Heap} {locs : List Loc} {cells slots : Nat} {Q : State → Prop} {pc : Nat} {ls : Array Slot} {rest : List Value}
theorem tpi {x : Int32} (y : Int32) (h : x = y) (k : W p l e R s m args below meth c H locs cells slots Q (F0 m pc ls (.int y :: rest))) : W p l e R s m args below meth c H locs cells slots Q (F0 m pc ls (.int x :: rest)) := by rw [h]; exact k
theorem tpl {x : Int64} (y : Int64) (h : x = y) (k : W p l e R s m args below meth c H locs cells slots Q (F0 m pc ls (.long y :: rest))) : W p l e R s m args below meth c H locs cells slots Q (F0 m pc ls (.long x :: rest)) := by rw [h]; exact k
end TP
/-- the cells wm hold the reference in the state v -/
def IM (h0 : Nat) (v : MS) (wm : va_W) (tm : List (ClassId × FieldType)) : Prop := ∃ (qq : Nat → Nat) (cc : Nat → ClassId) (ff : Nat → Nat → Int32) (fl : Nat → Int64) (c : Int32), wm = wMg h0 qq cc ff fl c (nI v.1) v.2.1 ∧ tm = tM cc ∧ v.1 ≤ 100 ∧ ∀ k, v.2.2 k = tupM ff fl k
def atM (D : va_G) (h0 : Nat) (A : Nat → Prop) (v : MS) (t : State) : Prop := ∃ (wm : va_W) (tm : List (ClassId × FieldType)), IM h0 v wm tm ∧ va_P D cls_ wm t.heap ∧ va_K D cls_ tm t ∧ va_D A wm
/-- two places set anew, their addresses kept: the addresses of the list -/
theorem ssm {ws : va_W} {i j a b : Nat} {e1 e2 : va_E} (hi : ws[i]? = some (a, e1)) (hj : ws[j]? = some (b, e2)) : ((ws.map Prod.fst).set i a).set j b = ws.map Prod.fst := by
  have h1 : (ws.map Prod.fst)[i]? = some a := by rw [List.getElem?_map, hi]; rfl
  have h2 : (ws.map Prod.fst)[j]? = some b := by rw [List.getElem?_map, hj]; rfl
  have s1 : ∀ {l : List Nat} {k x : Nat}, l[k]? = some x → l.set k x = l := by
    intro l k x h
    apply List.ext_getElem?
    intro q
    by_cases hq : q = k
    · subst hq; rw [List.getElem?_set_self (List.getElem?_eq_some_iff.mp h).1, h]
    · rw [List.getElem?_set_ne (Ne.symm hq)]
  rw [s1 h1, s1 h2]
theorem psame {D : va_G} {cl : List vw_C} {ws : va_W} {H : Heap} {k : Nat} {x : Nat × va_E} (hP : va_P D cl ws H) (hn : ws[k]? = some x) : va_P D cl (ws.set k x) H := by rw [ss hn]; exact hP
theorem dsame {A : Nat → Prop} {ws : va_W} {k : Nat} {x : Nat × va_E} (hD : va_D A ws) (hn : ws[k]? = some x) : va_D A (ws.set k x) := by rw [ss hn]; exact hD

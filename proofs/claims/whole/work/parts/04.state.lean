-- the class's state: a node's fields as a tuple; the bus: how many nodes, the latest time, the nodes by their place
abbrev NS : Type := Int32 × Int32 × Int32 × Int32 × Int32 × Int32 × Int32 × Int32 × Int32 × Int32 × Int32 × Int32 × Int64 × Int32 × Int32
def n_fs (u : NS) : List Value := [.int u.1, .int u.2.1, .int u.2.2.1, .int u.2.2.2.1, .int u.2.2.2.2.1, .int u.2.2.2.2.2.1, .int u.2.2.2.2.2.2.1, .int u.2.2.2.2.2.2.2.1, .int u.2.2.2.2.2.2.2.2.1, .int u.2.2.2.2.2.2.2.2.2.1, .int u.2.2.2.2.2.2.2.2.2.2.1, .int u.2.2.2.2.2.2.2.2.2.2.2.1, .long u.2.2.2.2.2.2.2.2.2.2.2.2.1, .int u.2.2.2.2.2.2.2.2.2.2.2.2.2.1, .int u.2.2.2.2.2.2.2.2.2.2.2.2.2.2]
def n_0 : NS := (0, 0, 0, 0, 0, 0, 0, 0, 0, 0, 0, 0, 0, 0, 0)
abbrev XS : Type := Nat × Int64 × (Nat → NS)
/-- the place of the node of a number -/
def ix (n : Nat) (k : Int32) : Option Nat := if k < 1 then none else if nI n < k then none else some (k.toNatClampNeg - 1)
theorem ix_some {n j : Nat} {k : Int32} (hn : n ≤ 100) (h : ix n k = some j) : j < n ∧ k = nI (j + 1) := by
  unfold ix at h
  by_cases h1 : k < 1
  · rw [if_pos h1] at h; cases h
  · rw [if_neg h1] at h
    by_cases h2 : nI n < k
    · rw [if_pos h2] at h; cases h
    · rw [if_neg h2] at h
      have h0 : ¬ k < 0 := fun q => h1 (by
        rw [Int32.lt_iff_toInt_lt] at q ⊢
        have e0 : (0 : Int32).toInt = 0 := by decide
        have e1 : (1 : Int32).toInt = 1 := by decide
        rw [e0] at q; rw [e1]; omega)
      obtain ⟨i, hi, rfl⟩ := nI_of h0
      rw [nI_clamp hi] at h
      have h3 : i ≤ n := Nat.not_lt.mp fun q => h2 (nI_lt q hi)
      have h4 : ¬ i = 0 := fun q => h1 (by rw [q]; decide)
      cases h
      exact ⟨by omega, by rw [show i - 1 + 1 = i by omega]⟩
/-- the cells wx hold the bus u: its object at h0, its array, its nodes at the addresses ad -/
def IXp (h0 : Nat) (u : XS) (wx : va_W) (cA : ClassId) (arr : Nat) (f : Nat → Option Nat) (ad : Nat → Nat) : Prop :=
  u.1 ≤ 100 ∧ (∃ k : Nat, wx[k]? = some (h0, .inr (1, [.ref arr, .int (nI u.1), .long u.2.1]))) ∧ (∃ k : Nat, wx[k]? = some (arr, .inl (cA, 100, .inr (.inr (.inr (.inr f)))))) ∧
  (∀ j, j < u.1 → f j = some (ad j) ∧ ∃ k : Nat, wx[k]? = some (ad j, .inr (0, n_fs (u.2.2 j)))) ∧ ∀ i j, i < u.1 → j < u.1 → ad i = ad j → i = j
def IX (h0 : Nat) (u : XS) (wx : va_W) (cA : ClassId) : Prop := ∃ (arr : Nat) (f : Nat → Option Nat) (ad : Nat → Nat), IXp h0 u wx cA arr f ad
/-- a node is another one now -/
theorem IXp.node {h0 : Nat} {u : XS} {wx : va_W} {cA : ClassId} {arr : Nat} {f : Nat → Option Nat} {ad : Nat → Nat} (h : IXp h0 u wx cA arr f ad) {j kn : Nat} {fs : List Value} (hj : j < u.1) (hn : wx[kn]? = some (ad j, .inr (0, fs))) (n2 : NS) :
    IXp h0 (u.1, u.2.1, va_up u.2.2 j n2) (wx.set kn (ad j, .inr (0, n_fs n2))) cA arr f ad := by
  obtain ⟨h1, ⟨kx, hx⟩, ⟨ka, ha⟩, h4, h5⟩ := h
  refine ⟨h1, ⟨kx, sn (fun e => ?_) hx⟩, ⟨ka, sn (fun e => ?_) ha⟩, fun i hi => ⟨(h4 i hi).1, ?_⟩, h5⟩
  · rw [e, hn] at hx
    have := congrArg Prod.snd (Option.some.inj hx)
    simp at this
  · rw [e, hn] at ha
    have := congrArg Prod.snd (Option.some.inj ha)
    simp at this
  · by_cases hij : i = j
    · subst hij
      exact ⟨kn, by rw [sg hn]; simp only [va_up_self]⟩
    · obtain ⟨-, k, hk⟩ := h4 i hi
      refine ⟨k, ?_⟩
      have hne : k ≠ kn := fun e => hij (h5 i j hi hj (by
        rw [e, hn] at hk
        exact (congrArg Prod.fst (Option.some.inj hk)).symm))
      show (wx.set kn _)[k]? = some (ad i, .inr (0, n_fs (va_up u.2.2 j n2 i)))
      rw [va_up_ne _ _ hij]
      exact sn hne hk
/-- the time is another one now -/
theorem IXp.time {h0 : Nat} {u : XS} {wx : va_W} {cA : ClassId} {arr : Nat} {f : Nat → Option Nat} {ad : Nat → Nat} (h : IXp h0 u wx cA arr f ad) {kx : Nat} {fs : List Value} (hx : wx[kx]? = some (h0, .inr (1, fs))) (t : Int64) :
    IXp h0 (u.1, t, u.2.2) (wx.set kx (h0, .inr (1, [.ref arr, .int (nI u.1), .long t]))) cA arr f ad := by
  obtain ⟨h1, -, ⟨ka, ha⟩, h4, h5⟩ := h
  refine ⟨h1, ⟨kx, sg hx⟩, ⟨ka, sn (fun e => ?_) ha⟩, fun i hi => ⟨(h4 i hi).1, ?_⟩, h5⟩
  · rw [e, hx] at ha
    have := congrArg Prod.snd (Option.some.inj ha)
    simp at this
  · obtain ⟨-, k, hk⟩ := h4 i hi
    refine ⟨k, sn (fun e => ?_) hk⟩
    rw [e, hx] at hk
    have := congrArg Prod.snd (Option.some.inj hk)
    simp at this
/-- the bus's world behind a method -/
def atX (D : va_G) (h0 : Nat) (A : Nat → Prop) (u : XS) (t : State) : Prop := ∃ (wx : va_W) (cA : ClassId), IX h0 u wx cA ∧ va_P D cls_ wx t.heap ∧ va_K D cls_ [(cA, .object R_N)] t ∧ va_D A wx
theorem pone {D : va_G} {cl : List vw_C} {ws : va_W} {H : Heap} {k : Nat} {q : Nat × va_E} (hP : va_P D cl ws H) (hk : ws[k]? = some q) : va_P D cl [q] H := fun j x hj => by
  rw [(one_ix hj).2]; exact hP k q hk
theorem al {ws : va_W} {k : Nat} {x y : Nat × va_E} (h : ws[k]? = some x) : (ws ++ [y])[k]? = some x := by
  rw [List.getElem?_append_left (List.getElem?_eq_some_iff.mp h).1]; exact h
theorem ae {ws : va_W} {y : Nat × va_E} : (ws ++ [y])[ws.length]? = some y := by
  rw [List.getElem?_append_right (Nat.le_refl _), Nat.sub_self]; rfl
theorem kl {ws : va_W} {k : Nat} {x : Nat × va_E} (h : ws[k]? = some x) : k < ws.length := (List.getElem?_eq_some_iff.mp h).1
/-- a node more -/
theorem IXp.grow {h0 : Nat} {u : XS} {wx : va_W} {cA : ClassId} {arr : Nat} {f : Nat → Option Nat} {ad : Nat → Nat} (h : IXp h0 u wx cA arr f ad) {A : Nat → Prop} {q : Nat} {n : NS} (hD : va_D A (wx ++ [(q, .inr (0, n_fs n))])) (hlt : u.1 < 100) {ka kx : Nat} {g : vp_A} {fs : List Value}
    (ha : wx[ka]? = some (arr, .inl (cA, g))) (hx : wx[kx]? = some (h0, .inr (1, fs))) :
    IXp h0 (u.1 + 1, u.2.1, va_up u.2.2 u.1 n) (((wx ++ ([(q, .inr (0, n_fs n))] : va_W) : va_W).set ka (arr, .inl (cA, 100, .inr (.inr (.inr (.inr (va_up f u.1 (some q)))))))).set kx (h0, .inr (1, [.ref arr, .int (nI (u.1 + 1)), .long u.2.1]))) cA arr (va_up f u.1 (some q)) (va_up ad u.1 q) := by
  obtain ⟨h1, -, -, h4, h5⟩ := h
  have hkk : ka ≠ kx := fun e => by
    rw [e, hx] at ha
    have := congrArg Prod.snd (Option.some.inj ha)
    simp at this
  refine ⟨by show u.1 + 1 ≤ 100; omega, ⟨kx, sg (sn (Ne.symm hkk) (al hx))⟩, ⟨ka, sn hkk (sg (al ha))⟩, fun j hj => ?_, fun i j hi hj hij => ?_⟩
  · have hj : j < u.1 + 1 := hj
    by_cases e : j = u.1
    · subst e
      refine ⟨by rw [va_up_self, va_up_self], wx.length, ?_⟩
      show (((wx ++ _).set ka _).set kx _)[wx.length]? = some (va_up ad u.1 q u.1, .inr (0, n_fs (va_up u.2.2 u.1 n u.1)))
      rw [va_up_self, va_up_self]
      exact sn (Ne.symm (Nat.ne_of_lt (kl hx))) (sn (Ne.symm (Nat.ne_of_lt (kl ha))) ae)
    · have hj2 : j < u.1 := by omega
      obtain ⟨g1, k, hk⟩ := h4 j hj2
      refine ⟨by rw [va_up_ne _ _ e, va_up_ne _ _ e]; exact g1, k, ?_⟩
      show (((wx ++ _).set ka _).set kx _)[k]? = some (va_up ad u.1 q j, .inr (0, n_fs (va_up u.2.2 u.1 n j)))
      rw [va_up_ne _ _ e, va_up_ne _ _ e]
      refine sn (fun e2 => ?_) (sn (fun e2 => ?_) (al hk))
      · rw [e2, hx] at hk
        have := congrArg Prod.snd (Option.some.inj hk)
        simp at this
      · rw [e2, ha] at hk
        have := congrArg Prod.snd (Option.some.inj hk)
        simp at this
  · have hi : i < u.1 + 1 := hi
    have hj : j < u.1 + 1 := hj
    have key : ∀ i, i < u.1 → ad i = q → False := fun i hi e => by
      obtain ⟨-, k, hk⟩ := h4 i hi
      have := hD.1 k wx.length _ _ (al hk) ae e
      have := kl hk
      omega
    by_cases e1 : i = u.1 <;> by_cases e2 : j = u.1
    · omega
    · subst e1
      rw [va_up_self, va_up_ne _ _ e2] at hij
      exact (key j (by omega) hij.symm).elim
    · subst e2
      rw [va_up_self, va_up_ne _ _ e1] at hij
      exact (key i (by omega) hij).elim
    · rw [va_up_ne _ _ e1, va_up_ne _ _ e2] at hij
      exact h5 i j (by omega) (by omega) hij

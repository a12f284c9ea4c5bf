-- ===== end of PART A; then your names; then what follows =====
/-! THE CLAIM OUT OF ONE WALK OF THE LAW'S BODY. Your part is whole_start (and what it stands on); all else here is the same for every law, but numbers. -/
def R_law : String := "CanErrorsLaw"
def lw_P (b : Addr) (xs : List Int32) (args : Array Value) (s : State) : Prop := args = #[.ref b] ∧ s.IntsAt b xs ∧ xs.length ≤ 2048 ∧ (Jvm.Cond.and given_1 narrow_1).before args s = true
def lw_Q (_ : Array Value) (s : State) (o : Outcome) (t : State) : Prop := o = .returned (some (.int 1)) ∧ Framed s o t [] 600000 7302250
def lw_Z (below : List Frame) (a : Array Value) (s : State) : State → Prop := fun t => ∃ o, t.status = .running ∧ Ended t below o ∧ lw_Q a s o t
/-- the law's own end, with 1 on the stack, nothing written that was there before, its room as the claim has it -/
theorem lw_ret {p : Program} {l : Launch} {e : Env} {s : State} {m : MethodId} {below : List Frame} {meth : Method} {c : Code} {b : Nat} (hx : p.tables.exec = Jvm.exec) (hb : c.code = code) (hr : meth.sig.returnType = ret) (hlocks : meth.locks = false) {pc : Nat} {H : Heap} {ls : Array Slot} (hdg : decode code pc = .ok (.ireturn, 1)) : W p l e room_1 s m #[Value.ref b] below meth c H [] 600000 7302250 (lw_Z below #[Value.ref b] s) (F0 m pc ls [.int 1]) := by
  intro T hT X
  obtain ⟨fs, hret, hrun, hended, hW, hframe⟩ := X.leave (v := some (.int 1)) (hlocks := hlocks) (fun h => by rw [hr] at h; cases h)
  have hmeth' : T.vm.method? m = some meth := X.method'
  refine ⟨T.setFrames fs, ?_, .returned (some (.int 1)), hrun, hended, rfl, ⟨_, rfl⟩, hW, hframe⟩
  jvm_step X.here [X.here.top, hx, hb, hdg, hmeth', hr, ret, narrow_b1]
  (try refine ⟨rfl, ?_⟩); (try refine ⟨rfl, ?_⟩)
  first | (intro acts; rw [hret _ acts rfl rfl rfl]) | rw [hret _ _ rfl rfl rfl]
  exact Steps.refl _
/-- what holds at the law's entry: the machine, the code, the tables' words (any of lw_tbl by 'hts w (by decide +kernel)'), the script of L ints xs at the cell b, what the Statement gives of the start (any of its parts by flat_of_before) -/
def lw_At (p : Program) (s : State) (m : MethodId) (meth : Method) (c : Code) (b L : Nat) (xs : Nat → Int32) : Prop :=
  p.tables.exec = Jvm.exec ∧ c.code = code ∧ meth.sig.returnType = ret ∧ c.maxLocals = 4 ∧ s.vm.findClass R_law = some m.cls ∧ (∀ w ∈ lw_tbl, w.before #[Value.ref b] s = true) ∧ va_X b L xs s s.heap ∧ b < s.heap.size ∧ meth.locks = false ∧ (Jvm.Cond.and given_1 narrow_1).before #[Value.ref b] s = true
theorem IX_at {h0 : Nat} {u : XS} {wx : va_W} {cA : ClassId} (h : IX h0 u wx cA) : ∃ (k : Nat) (fs : List Value), wx[k]? = some (h0, .inr (1, fs)) := by
  obtain ⟨arr, f, ad, h⟩ := h
  obtain ⟨k, hk⟩ := h.2.1
  exact ⟨k, _, hk⟩
theorem IM_at {h0 : Nat} {v : MS} {wm : va_W} {tm : List (ClassId × FieldType)} (h : IM h0 v wm tm) : ∃ (k : Nat) (fs : List Value), wm[k]? = some (h0, .inr (2, fs)) := by
  obtain ⟨qq, cc, ff, fl, c, rfl, -⟩ := h
  exact ⟨0, _, rfl⟩
/-- what holds at the head of the law's loop: the two worlds apart, and the same said by both -/
def LInv (D : va_G) (s : State) (q1 q2 : Nat) (u : XS) (v : MS) (H : Heap) (locs : List Loc) : Prop := ∃ (wx wm : va_W) (cA : ClassId) (tm : List (ClassId × FieldType)), IX q1 u wx cA ∧ IM q2 v wm tm ∧ va_P D cls_ wx H ∧ va_P D cls_ wm H ∧ va_D (fun q : Nat => s.heap.size ≤ q) wx ∧ va_D (fun q : Nat => s.heap.size ≤ q) wm ∧ apart wx wm ∧ va_K D cls_ [(cA, .object R_N)] s ∧ va_K D cls_ tm s ∧ va_S (fun q : Nat => s.heap.size ≤ q) s.heap H locs ∧ Rel u v

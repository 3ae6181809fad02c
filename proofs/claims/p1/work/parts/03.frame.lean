/-! ===== my own machine: a typed memory, frames over it, contracts =====
X: class and slot numbers; the numbers of the array classes; where the heap began; the old cells (0 the script, 1 FIXED_NAMES, 2 FIXED_VALUES): address, length, contents.
M: the next address; tag and length of each cell; ints; longs; references. Cells of ours begin at 3. A tag below 100 is a place in vwCl, 100 int[], 101 byte[], 102 boolean[], 103 long[], 104.. arrays of references. -/
abbrev mX : Type := va_G × (Nat → ClassId) × Nat × (Nat → Nat) × (Nat → Nat) × (Nat → Nat → Int32)
abbrev xD (X : mX) : va_G := X.1
abbrev xK (X : mX) : Nat → ClassId := X.2.1
abbrev xB (X : mX) : Nat := X.2.2.1
abbrev xO (X : mX) : Nat → Nat := X.2.2.2.1
abbrev xL (X : mX) : Nat → Nat := X.2.2.2.2.1
abbrev xI (X : mX) : Nat → Nat → Int32 := X.2.2.2.2.2
def xA (X : mX) : Nat → Prop := fun q => xB X ≤ q
abbrev mM : Type := Nat × (Nat → Nat × Nat) × (Nat → Nat → Int32) × (Nat → Nat → Int64) × (Nat → Nat → Option Nat)
abbrev mN (M : mM) : Nat := M.1
abbrev mT (M : mM) : Nat → Nat × Nat := M.2.1
abbrev mI (M : mM) : Nat → Nat → Int32 := M.2.2.1
abbrev mL (M : mM) : Nat → Nat → Int64 := M.2.2.2.1
abbrev mR (M : mM) : Nat → Nat → Option Nat := M.2.2.2.2
def up2 {α : Type} (f : Nat → Nat → α) (a k : Nat) (v : α) : Nat → Nat → α := fun a' k' => if a' = a ∧ k' = k then v else f a' k'
def setI (M : mM) (a k : Nat) (v : Int32) : mM := (mN M, mT M, up2 (mI M) a k v, mL M, mR M)
def setL (M : mM) (a k : Nat) (v : Int64) : mM := (mN M, mT M, mI M, up2 (mL M) a k v, mR M)
def setR (M : mM) (a k : Nat) (v : Option Nat) : mM := (mN M, mT M, mI M, mL M, up2 (mR M) a k v)
/-- a new cell, all zero -/
def newM (M : mM) (tag len : Nat) : mM := (mN M + 1, fun a => if a = mN M then (tag, len) else mT M a, fun a k => if a = mN M then 0 else mI M a k, fun a k => if a = mN M then 0 else mL M a k, fun a k => if a = mN M then none else mR M a k)
theorem up2_same {α : Type} {f : Nat → Nat → α} {a k : Nat} {v : α} : up2 f a k v a k = v := by simp [up2]
theorem up2_ne {α : Type} {f : Nat → Nat → α} {a k a' k' : Nat} {v : α} (h : ¬ (a' = a ∧ k' = k)) : up2 f a k v a' k' = f a' k' := by simp [up2, h]
/-- what kind of value a field or element is: 0 an int, 1 a long, 2 a reference -/
def fk (tag k : Nat) : Nat := if tag < 100 then (fkT.getD tag []).getD k 0 else if tag < 103 then 0 else if tag = 103 then 1 else 2
def adr (X : mX) (a : Nat) : Nat := if a < 3 then xO X a else xB X + (a - 3)
def rel (X : mX) : Value → Value
  | .ref a => .ref (adr X a)
  | .int x => .int x
  | .long x => .long x
  | .null => .null
  | v => v
theorem rel_rf (X : mX) (o : Option Nat) : rel X (va_rf o) = va_rf (o.map (adr X)) := by cases o <;> rfl
theorem rel_cat (X : mX) (v : Value) : (rel X v).category = v.category := by cases v <;> rfl
def vk (n : Nat) (x : Int32) (y : Int64) (o : Option Nat) : Value := if n = 0 then .int x else if n = 1 then .long y else va_rf o
def vv (X : mX) (M : mM) (a k : Nat) : Value := vk (fk (mT M a).1 k) (mI M a k) (mL M a k) ((mR M a k).map (adr X))
def mAt (X : mX) (M : mM) (H : Heap) (a : Nat) : Prop :=
  ((mT M a).1 < 100 → ∃ r : vw_C, vwCl[(mT M a).1]? = some r ∧ t_OB (adr X a) ((xD X).1 (mT M a).1) r.2.2 ((xD X).2 (mT M a).1) H (vv X M a)) ∧
  (¬ (mT M a).1 < 100 → H[adr X a]? = some (arrV (xK X (mT M a).1) (mT M a).2 (vv X M a)))
def Sm (X : mX) (M : mM) (H : Heap) : Prop := H.size + 3 = xB X + mN M ∧ 3 ≤ mN M ∧ (∀ a, ¬ (3 ≤ a ∧ a < mN M) → (mT M a).1 = 999) ∧ ∀ a, 3 ≤ a → a < mN M → mAt X M H a
/-! words -/
def gNest : Cond → Bool
  | .fieldLinkNest _ _ _ _ _ _ => true
  | .methodLinkNest _ _ _ _ => true
  | _ => false
def gW : List Cond := lw_tbl.filter goodWord
def gN : List Cond := lw_tbl.filter gNest
theorem gW_in (i : Nat) {w : Cond} (h : lw_tbl[i]? = some w) (hg : goodWord w = true) : w ∈ gW := List.mem_filter.mpr ⟨List.mem_of_getElem? h, hg⟩
theorem gN_in (i : Nat) {w : Cond} (h : lw_tbl[i]? = some w) (hg : gNest w = true) : w ∈ gN := List.mem_filter.mpr ⟨List.mem_of_getElem? h, hg⟩
theorem gW_good {w : Cond} (h : w ∈ gW) : (w.onTables && w.keeps) = true ∨ ∃ ty, w = .arrayClass ty := good_of_word (List.mem_filter.mp h).2
theorem gN_warm {w : Cond} (h : w ∈ gN) {s U : State} (hW : s.WarmedH U.vm) (hz : va_Nw w s) : va_Nw w U := by
  have hg := (List.mem_filter.mp h).2
  cases w <;> first | exact va_Nw.warmF hW hz | exact va_Nw.warmM hW hz | cases hg
theorem gN_tab {w : Cond} (h : w ∈ gN) : w.onTables = true := by
  have hg := (List.mem_filter.mp h).2
  cases w <;> first | rfl | cases hg
/-- a method: its name, code, locals, answer -/
abbrev wC (u : mU) : Cond := Cond.code u.1 u.2.1 u.2.2.1 u.2.2.2
theorem gW_sub (u v : mU) (h : wC v ∈ gW) : GoodIn (wC u :: gW) (wC v :: gW) := by
  intro w hw
  rcases List.mem_cons.mp hw with rfl | hw
  · exact ⟨List.mem_cons_of_mem _ h, gW_good h⟩
  · exact ⟨List.mem_cons_of_mem _ hw, gW_good hw⟩
def mTys (X : mX) : List (ClassId × FieldType) := [(xK X 100, .int), (xK X 101, .byte), (xK X 102, .boolean), (xK X 103, .long), (xK X 104, .object (aoC 4)), (xK X 105, .object (aoC 5)), (xK X 106, .object (aoC 6))]
/-- what stays as it was all along: tables, nest words, static fields, old cells -/
def mOd (X : mX) (U : State) : Prop := va_K (xD X) vwCl (mTys X) U ∧ (∀ w ∈ gN, va_Nw w U) ∧ (∀ k, k < 7 → va_AO (aoC k) U) ∧ va_Z fixC "FIXED_NAMES" "[I" (.ref (xO X 1)) (xA X) U U.heap ∧ va_Z fixC "FIXED_VALUES" "[I" (.ref (xO X 2)) (xA X) U U.heap ∧
  ∀ a, a < 3 → va_T .int (xO X a) (xL X a) (fun j => .int (xI X a j)) (xA X) U U.heap
theorem mOd.mv {X : mX} {s U : State} {locs : List Loc} (h : mOd X s) (hW : s.WarmedH U.vm) (hS : va_S (xA X) s.heap U.heap locs) : mOd X U := by
  obtain ⟨h1, h2, h3, h4, h5, h6⟩ := h
  exact ⟨va_K.moved hW.alike h1, fun w hw => gN_warm hw hW (h2 w hw), fun k hk => va_AO.moved hW.alike (h3 k hk), (va_Z.moved hW.alike h4).kept hS.2.1, (va_Z.moved hW.alike h5).kept hS.2.1, fun a ha => (va_T.moved hW.alike (h6 a ha)).kept hS.2.1⟩
theorem mOd.call {X : mX} {U : State} {g : JFrame} {mk : MethodId} {a : Array Value} (h : mOd X U) : mOd X (U.calling g mk a) := by
  obtain ⟨h1, h2, h3, h4, h5, h6⟩ := h
  have hvm : U.vm.Alike (U.calling g mk a).vm := Vm.Alike.refl U.vm
  exact ⟨va_K.moved hvm h1, fun w hw => va_Nw.same (u := U) (U := U.calling g mk a) (gN_tab hw) rfl (h2 w hw), fun k hk => va_AO.moved hvm (h3 k hk), va_Z.moved hvm h4, va_Z.moved hvm h5, fun b hb => va_T.moved hvm (h6 b hb)⟩
/-! contracts -/
def mPc (X : mX) (av : List Value) (M : mM) : Array Value → State → Prop := fun v U => v = (av.map (rel X)).toArray ∧ Sm X M U.heap ∧ mOd X U
def mQc (X : mX) (Q : Option Value → mM → Prop) : Array Value → State → Outcome → State → Prop := fun _ st o t => (∃ (r : Option Value) (M : mM), o = .returned (r.map (rel X)) ∧ Q r M ∧ Sm X M t.heap ∧ mOd X t) ∧ va_F (xA X) st t
def Ct (X : mX) (l : Launch) (u : mU) (rm : Room) (av : List Value) (M : mM) (Q : Option Value → mM → Prop) : Prop := Met l u.1 (wC u :: gW) rm (mPc X av M) (mQc X Q) rm.cells rm.slots (xA X)
theorem mPc.blind {X : mX} {av : List Value} {M : mM} : FrameBlind (mPc X av M) := fun _ _ _ _ h => ⟨h.1, h.2.1, h.2.2.call⟩
/-! frames -/
def Fx (X : mX) (u : mU) (p : Program) (s : State) (m : MethodId) (args : Array Value) (meth : Method) (c : Code) : Prop :=
  p.tables.exec = Jvm.exec ∧ c.code = u.2.1 ∧ meth.sig.returnType = u.2.2.2 ∧ c.maxLocals = u.2.2.1 ∧ s.vm.findClass u.1.cls = some m.cls ∧ (∀ w ∈ wC u :: gW, w.before args s = true) ∧ meth.locks = false ∧ meth.name = u.1.name ∧ mOd X s ∧ xB X ≤ s.heap.size
def LR (X : mX) (lr : Array Slot) (n : Nat) (ls : List (Option Value)) : Prop := lr.size = n ∧ lv_wf lr ∧ ls.length = n ∧ ∀ (i : Nat) (v : Value), ls[i]? = some (some v) → lr[i]? = some (.val (rel X v))
def G (X : mX) (l : Launch) (u : mU) (rm : Room) (bc bs : Nat) (M : mM) (pc : Nat) (ls : List (Option Value)) (st : List Value) (Q : Option Value → mM → Prop) : Prop :=
  ∀ (p : Program) (e : Env) (s : State) (m : MethodId) (args : Array Value) (below : List Frame) (meth : Method) (c : Code) (H : Heap) (locs : List Loc) (cells slots : Nat) (lr : Array Slot),
    Fx X u p s m args meth c → Sm X M H → va_S (xA X) s.heap H locs → cells + bc ≤ rm.cells → slots + bs ≤ rm.slots → LR X lr u.2.2.1 ls →
    W p l e rm s m args below meth c H locs cells slots (MQ below (mQc X Q) args s rm.cells rm.slots (xA X)) (F0 m pc lr (st.map (rel X)))
def eL : List Value → List (Option Value)
  | [] => []
  | v :: t => if v.category = 2 then some v :: none :: eL t else some v :: eL t
theorem eL_len (X : mX) (av : List Value) : (eL av).length = (lg_sl (av.map (rel X))).length := by
  induction av with
  | nil => rfl
  | cons v t ih =>
    simp only [eL, List.map_cons, lg_sl, List.flatMap_cons, rel_cat]
    by_cases h : v.category = 2
    · simp only [h, if_true, List.length_cons, List.length_append]
      simp only [lg_sl] at ih
      simp [ih]
      omega
    · simp only [h, if_false, List.length_cons, List.length_append]
      simp only [lg_sl] at ih
      simp [ih]
      omega
theorem eL_at (X : mX) (av : List Value) : ∀ (i : Nat) (v : Value), (eL av)[i]? = some (some v) → (lg_sl (av.map (rel X)))[i]? = some (.val (rel X v)) := by
  induction av with
  | nil => intro i v h; simp [eL] at h
  | cons w t ih =>
    intro i v h
    simp only [eL] at h
    simp only [List.map_cons, lg_sl, List.flatMap_cons, rel_cat]
    have ih' : ∀ (i : Nat) (v : Value), (eL t)[i]? = some (some v) → ((t.map (rel X)).flatMap fun v => if v.category = 2 then [Slot.val v, .second] else [.val v])[i]? = some (.val (rel X v)) := ih
    by_cases hc : w.category = 2
    · simp only [hc, if_true] at h ⊢
      match i, h with
      | 0, h => simp at h; subst h; rfl
      | 1, h => simp at h
      | (j + 2), h => simpa using ih' j v (by simpa using h)
    · simp only [hc, if_false] at h ⊢
      match i, h with
      | 0, h => simp at h; subst h; rfl
      | (j + 1), h => simpa using ih' j v (by simpa using h)
theorem LR.entry (X : mX) (av : List Value) (n : Nat) (h : (eL av).length ≤ n) : LR X ((lg_sl (av.map (rel X)) ++ List.replicate (n - (lg_sl (av.map (rel X))).length) Slot.unset).toArray) n (eL av ++ List.replicate (n - (eL av).length) none) := by
  have hl := eL_len X av
  have h0 := lv_entry (av.map (rel X)) (n := n) (by omega)
  refine ⟨h0.1, h0.2.1, by simp; omega, fun i v hi => ?_⟩
  by_cases hk : i < (eL av).length
  · rw [List.getElem?_append_left hk] at hi
    have := eL_at X av i v hi
    simp only [List.getElem?_toArray]
    rw [List.getElem?_append_left (by omega)]
    exact this
  · rw [List.getElem?_append_right (by omega)] at hi
    have := List.mem_of_getElem? hi
    rw [List.mem_replicate] at this
    exact absurd this.2 (by simp)
set_option maxRecDepth 100000 in
/-- a contract out of a walk -/
theorem Ct.of {X : mX} {l : Launch} {u : mU} {rm : Room} {av : List Value} {M : mM} {Q : Option Value → mM → Prop} (hy : plainName u.1.cls = true) (hlen : (eL av).length ≤ u.2.2.1) (h : G X l u rm rm.cells rm.slots M 0 (eL av ++ List.replicate (u.2.2.1 - (eL av).length) none) [] Q) : Ct X l u rm av M Q := by
  refine Met.ofW (cc := u.2.1) (maxL := u.2.2.1) (ret := u.2.2.2) (ws' := gW) hy rfl ?_
  intro p e s m args below meth c s₁ B hml hv
  obtain ⟨rfl, hM, hO⟩ := hv
  have hts := atoms_spec (ws := wC u :: gW) B.pre
  have F : Fx X u p s m (av.map (rel X)).toArray meth c := ⟨B.exec, B.bytes, B.returns, hml, findClass_of_methodNamed B.named, hts, B.notSynchronized, (name_of_methodNamed B.named B.method).1, hO, by have := hM.1; have := hM.2.1; omega⟩
  rw [lg_entry_eq]
  exact h p e s m _ below meth c s.heap [] 0 0 _ F hM va_S.rf (by omega) (by omega) (LR.entry X av _ hlen)

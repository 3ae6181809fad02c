/-! ===== reading a changed memory ===== -/
theorem mN_setI {M : mM} {a k : Nat} {v : Int32} : mN (setI M a k v) = mN M := rfl
theorem mN_setL {M : mM} {a k : Nat} {v : Int64} : mN (setL M a k v) = mN M := rfl
theorem mN_setR {M : mM} {a k : Nat} {v : Option Nat} : mN (setR M a k v) = mN M := rfl
theorem mT_setI {M : mM} {a k : Nat} {v : Int32} : mT (setI M a k v) = mT M := rfl
theorem mT_setL {M : mM} {a k : Nat} {v : Int64} : mT (setL M a k v) = mT M := rfl
theorem mT_setR {M : mM} {a k : Nat} {v : Option Nat} : mT (setR M a k v) = mT M := rfl
theorem mI_setI {M : mM} {a k : Nat} {v : Int32} : mI (setI M a k v) = up2 (mI M) a k v := rfl
theorem mI_setL {M : mM} {a k : Nat} {v : Int64} : mI (setL M a k v) = mI M := rfl
theorem mI_setR {M : mM} {a k : Nat} {v : Option Nat} : mI (setR M a k v) = mI M := rfl
theorem mL_setI {M : mM} {a k : Nat} {v : Int32} : mL (setI M a k v) = mL M := rfl
theorem mL_setL {M : mM} {a k : Nat} {v : Int64} : mL (setL M a k v) = up2 (mL M) a k v := rfl
theorem mL_setR {M : mM} {a k : Nat} {v : Option Nat} : mL (setR M a k v) = mL M := rfl
theorem mR_setI {M : mM} {a k : Nat} {v : Int32} : mR (setI M a k v) = mR M := rfl
theorem mR_setL {M : mM} {a k : Nat} {v : Int64} : mR (setL M a k v) = mR M := rfl
theorem mR_setR {M : mM} {a k : Nat} {v : Option Nat} : mR (setR M a k v) = up2 (mR M) a k v := rfl
theorem mN_new (M : mM) (t n : Nat) : mN (newM M t n) = mN M + 1 := rfl
theorem mI_new (M : mM) (t n k : Nat) : mI (newM M t n) (mN M) k = 0 := if_pos rfl
theorem mI_new_ne {M : mM} {t n b k : Nat} (h : b ≠ mN M) : mI (newM M t n) b k = mI M b k := if_neg h
theorem mL_new (M : mM) (t n k : Nat) : mL (newM M t n) (mN M) k = 0 := if_pos rfl
theorem mL_new_ne {M : mM} {t n b k : Nat} (h : b ≠ mN M) : mL (newM M t n) b k = mL M b k := if_neg h
theorem mR_new (M : mM) (t n k : Nat) : mR (newM M t n) (mN M) k = none := if_pos rfl
theorem mR_new_ne {M : mM} {t n b k : Nat} (h : b ≠ mN M) : mR (newM M t n) b k = mR M b k := if_neg h
theorem up2_a {α : Type} {f : Nat → Nat → α} {a k a' k' : Nat} {v : α} (h : a' ≠ a) : up2 f a k v a' k' = f a' k' := up2_ne fun q => h q.1
theorem up2_k {α : Type} {f : Nat → Nat → α} {a k a' k' : Nat} {v : α} (h : k' ≠ k) : up2 f a k v a' k' = f a' k' := up2_ne fun q => h q.2
/-- the cells are numbered without a gap, from 3 on -/
def Wf (M : mM) : Prop := 3 ≤ mN M ∧ ∀ a, ¬ (3 ≤ a ∧ a < mN M) → (mT M a).1 = 999
theorem G.wf {X : mX} {l : Launch} {u : mU} {rm : Room} {bc bs : Nat} {M : mM} {pc : Nat} {ls : List (Option Value)} {st : List Value} {Q : Option Value → mM → Prop} (h : Wf M → G X l u rm bc bs M pc ls st Q) : G X l u rm bc bs M pc ls st Q :=
  fun p e s m args below meth c H locs cells slots lr F hM hS hc hs hl => h ⟨hM.2.1, hM.2.2.1⟩ p e s m args below meth c H locs cells slots lr F hM hS hc hs hl
theorem Wf.ne {M : mM} {a : Nat} (h : Wf M) (ha : (mT M a).1 ≠ 999) : a ≠ mN M := fun e => ha (h.2 a (by omega))
theorem Wf.lt {M : mM} {a : Nat} (h : Wf M) (ha : (mT M a).1 ≠ 999) : 3 ≤ a ∧ a < mN M := Classical.byContradiction fun q => ha (h.2 a q)
/-- a room without new cells -/
abbrev rk (f lo : Nat) : Room := { frames := f, cells := 0, slots := 0, locals := lo }
abbrev rn (f lo c s : Nat) : Room := { frames := f, cells := c, slots := s, locals := lo }
theorem nI48 : (48 : Int32) = nI 48 := rfl
theorem nI12 : (12 : Int32) = nI 12 := rfl
theorem rem48 {a : Nat} (h : a < 2 ^ 31) : nI a - nI a / 48 * 48 = nI (a % 48) := by rw [nI48]; exact pk_rem h (by decide) (by decide)
theorem rem12 {a : Nat} (h : a < 2 ^ 31) : nI a - nI a / 12 * 12 = nI (a % 12) := by rw [nI12]; exact pk_rem h (by decide) (by decide)
/-- tags of old and of new cells -/
theorem oT {M : mM} {t n a c : Nat} (h : a < mN M) (h2 : (mT M a).1 = c) : (mT (newM M t n) a).1 = c := by rw [mT_new_ne (Nat.ne_of_lt h)]; exact h2
theorem oTT {M : mM} {t n a : Nat} {c : Nat × Nat} (h : a < mN M) (h2 : mT M a = c) : mT (newM M t n) a = c := by rw [mT_new_ne (Nat.ne_of_lt h)]; exact h2
theorem nT {M : mM} {t n : Nat} : (mT (newM M t n) (mN M)).1 = t := by rw [mT_new]
theorem oR {M : mM} {t n a k : Nat} {o : Option Nat} (h : a < mN M) (h2 : mR M a k = o) : mR (newM M t n) a k = o := by rw [mR_new_ne (Nat.ne_of_lt h)]; exact h2
theorem G.bud {X : mX} {l : Launch} {u : mU} {rm : Room} {bc bs : Nat} {M : mM} {pc : Nat} {ls : List (Option Value)} {st : List Value} {Q : Option Value → mM → Prop} (bc' bs' : Nat) (h1 : bc' ≤ bc) (h2 : bs' ≤ bs) (h : G X l u rm bc' bs' M pc ls st Q) : G X l u rm bc bs M pc ls st Q :=
  fun p e s m args below meth c H locs cells slots lr F hM hS hc hs hl => h p e s m args below meth c H locs cells slots lr F hM hS (by omega) (by omega) hl

/-! ===== the state as both sides see it =====
A frame: kind, stream, amount, flag, detail, bytes, steps (kind, index, name, value). -/
abbrev zF : Type := Int32 × Int32 × Int32 × Int32 × Int32 × List Int32 × List (Int32 × Int32 × Int32 × Int32)
/-- single numbers by the class's own cells; pipes; waiting bytes; unread bytes of an end with their streams, oldest first; lists that came; tables (end, getting); lists in the making; settings that wait for their ack -/
abbrev zA : Type := (Nat → Nat → Int32) × (Nat → List zF) × (Nat → Nat → List Int32) × (Nat → List (Int32 × Int32)) × (Nat → Nat → Option (List (Int32 × Int32))) × (Nat → Nat → List (Int32 × Int32) × Int32) × (Nat → List (Int32 × Int32 × Int32)) × (Nat → List (Int32 × Int32))
abbrev zI (A : zA) : Nat → Nat → Int32 := A.1
abbrev zP (A : zA) : Nat → List zF := A.2.1
abbrev zW (A : zA) : Nat → Nat → List Int32 := A.2.2.1
abbrev zU (A : zA) : Nat → List (Int32 × Int32) := A.2.2.2.1
abbrev zL (A : zA) : Nat → Nat → Option (List (Int32 × Int32)) := A.2.2.2.2.1
abbrev zB (A : zA) : Nat → Nat → List (Int32 × Int32) × Int32 := A.2.2.2.2.2.1
abbrev zK (A : zA) : Nat → List (Int32 × Int32 × Int32) := A.2.2.2.2.2.2.1
abbrev zD (A : zA) : Nat → List (Int32 × Int32) := A.2.2.2.2.2.2.2
def upf {α : Type} (f : Nat → α) (e : Nat) (v : α) : Nat → α := fun e' => if e' = e then v else f e'
theorem upf_same {α : Type} {f : Nat → α} {e : Nat} {v : α} : upf f e v e = v := if_pos rfl
theorem upf_ne {α : Type} {f : Nat → α} {e d : Nat} {v : α} (h : d ≠ e) : upf f e v d = f d := if_neg h
def yI (A : zA) (a j : Nat) (v : Int32) : zA := (up2 (zI A) a j v, zP A, zW A, zU A, zL A, zB A, zK A, zD A)
def yP (A : zA) (e : Nat) (v : List zF) : zA := (zI A, upf (zP A) e v, zW A, zU A, zL A, zB A, zK A, zD A)
def yW (A : zA) (e k : Nat) (v : List Int32) : zA := (zI A, zP A, up2 (zW A) e k v, zU A, zL A, zB A, zK A, zD A)
def yU (A : zA) (e : Nat) (v : List (Int32 × Int32)) : zA := (zI A, zP A, zW A, upf (zU A) e v, zL A, zB A, zK A, zD A)
def yL (A : zA) (e k : Nat) (v : Option (List (Int32 × Int32))) : zA := (zI A, zP A, zW A, zU A, up2 (zL A) e k v, zB A, zK A, zD A)
def yB (A : zA) (e g : Nat) (v : List (Int32 × Int32) × Int32) : zA := (zI A, zP A, zW A, zU A, zL A, up2 (zB A) e g v, zK A, zD A)
def yK (A : zA) (e : Nat) (v : List (Int32 × Int32 × Int32)) : zA := (zI A, zP A, zW A, zU A, zL A, zB A, upf (zK A) e v, zD A)
def yD (A : zA) (e : Nat) (v : List (Int32 × Int32)) : zA := (zI A, zP A, zW A, zU A, zL A, zB A, zK A, upf (zD A) e v)
/-! blocks and lists as they lie in cells from m on -/
def sumS : List (Int32 × Int32 × Int32 × Int32) → Int32
  | [] => 0
  | s :: S => s.2.1 + sumS S
def BlkC (m : Nat) (M : mM) (b : Nat) (S : List (Int32 × Int32 × Int32 × Int32)) : Prop := (mT M b).1 = 11 ∧ mI M b 4 = nI S.length ∧ mI M b 5 = sumS S ∧ ∃ r c, (m ≤ b ∧ b < c ∧ c + 3 < mN M ∧ S.length ≤ r ∧ r ≤ 8) ∧ (∀ i, i < 4 → mT M (c + i) = (100, r) ∧ mR M b i = some (c + i)) ∧ ∀ j s, S[j]? = some s → mI M c j = s.1 ∧ mI M (c + 1) j = s.2.1 ∧ mI M (c + 2) j = s.2.2.1 ∧ mI M (c + 3) j = s.2.2.2
def FlC (m : Nat) (M : mM) (a : Nat) (L : List (Int32 × Int32)) : Prop := (mT M a).1 = 3 ∧ mI M a 3 = nI L.length ∧ L.length ≤ 6 ∧ ∃ c, (m ≤ a ∧ a < c ∧ c + 2 < mN M) ∧ (mT M c = (100, 6) ∧ mR M a 0 = some c) ∧ (mT M (c + 1) = (100, 6) ∧ mR M a 1 = some (c + 1)) ∧ (mT M (c + 2) = (102, 6) ∧ mR M a 2 = some (c + 2)) ∧ ∀ j x, L[j]? = some x → mI M c j = x.1 ∧ mI M (c + 1) j = x.2
def FrC (M : mM) (a : Nat) (f : zF) : Prop := 223 ≤ a ∧ a < mN M ∧ (mT M a).1 = 12 ∧ mI M a 0 = f.1 ∧ mI M a 1 = f.2.1 ∧ mI M a 2 = f.2.2.1 ∧ mI M a 3 = f.2.2.2.1 ∧ mI M a 4 = f.2.2.2.2.1 ∧ (f.1 = 0 → ∃ b, mR M a 5 = some b ∧ PayC M b f.2.2.2.2.2.1) ∧ (f.1 = 1 → ∃ b, mR M a 6 = some b ∧ BlkC 223 M b f.2.2.2.2.2.2)
section MV
variable {M M' : mM} {PI PR : Nat → Nat → Prop}
theorem BlkC.mv {m b : Nat} {S : List (Int32 × Int32 × Int32 × Int32)} (h : BlkC m M b S) (c : Chg M M' PI PR) (n1 : ∀ a k, PI a k → a < m) (n2 : ∀ a k, PR a k → a < m) : BlkC m M' b S := by
  obtain ⟨h1, h2, h3, r, d, ⟨p1, p2, p3, p4, p5⟩, h4, h5⟩ := h
  have hI : ∀ a k, m ≤ a → a < mN M → mI M' a k = mI M a k := fun a k ha hb => c.2.2.1 a k hb fun q => by have := n1 _ _ q; omega
  have hR : ∀ a k, m ≤ a → a < mN M → mR M' a k = mR M a k := fun a k ha hb => c.2.2.2.2 a k hb fun q => by have := n2 _ _ q; omega
  refine ⟨by rw [c.2.1 b (by omega)]; exact h1, by rw [hI b 4 p1 (by omega)]; exact h2, by rw [hI b 5 p1 (by omega)]; exact h3, r, d, ⟨p1, p2, Nat.lt_of_lt_of_le p3 c.1, p4, p5⟩, fun i hi => ⟨by rw [c.2.1 _ (by omega)]; exact (h4 i hi).1, by rw [hR b i p1 (by omega)]; exact (h4 i hi).2⟩, fun j s hs => ?_⟩
  rw [hI d j (by omega) (by omega), hI (d + 1) j (by omega) (by omega), hI (d + 2) j (by omega) (by omega), hI (d + 3) j (by omega) (by omega)]
  exact h5 j s hs
theorem FlC.mv {m b : Nat} {L : List (Int32 × Int32)} (h : FlC m M b L) (c : Chg M M' PI PR) (n1 : ∀ a k, PI a k → a < m) (n2 : ∀ a k, PR a k → a < m) : FlC m M' b L := by
  obtain ⟨h1, h2, h3, d, ⟨p1, p2, p3⟩, ⟨a1, a2⟩, ⟨b1, b2⟩, ⟨c1, c2⟩, h5⟩ := h
  have hI : ∀ a k, m ≤ a → a < mN M → mI M' a k = mI M a k := fun a k ha hb => c.2.2.1 a k hb fun q => by have := n1 _ _ q; omega
  have hR : ∀ a k, m ≤ a → a < mN M → mR M' a k = mR M a k := fun a k ha hb => c.2.2.2.2 a k hb fun q => by have := n2 _ _ q; omega
  refine ⟨by rw [c.2.1 b (by omega)]; exact h1, by rw [hI b 3 p1 (by omega)]; exact h2, h3, d, ⟨p1, p2, Nat.lt_of_lt_of_le p3 c.1⟩, ⟨by rw [c.2.1 _ (by omega)]; exact a1, by rw [hR _ _ p1 (by omega)]; exact a2⟩, ⟨by rw [c.2.1 _ (by omega)]; exact b1, by rw [hR _ _ p1 (by omega)]; exact b2⟩, ⟨by rw [c.2.1 _ (by omega)]; exact c1, by rw [hR _ _ p1 (by omega)]; exact c2⟩, fun j x hx => ?_⟩
  rw [hI d j (by omega) (by omega), hI (d + 1) j (by omega) (by omega)]
  exact h5 j x hx
theorem FrC.mv {a : Nat} {f : zF} (h : FrC M a f) (c : Chg M M' PI PR) (n1 : ∀ a k, PI a k → a < 223) (n2 : ∀ a k, PR a k → a < 223) : FrC M' a f := by
  obtain ⟨h1, h2, h3, i0, i1, i2, i3, i4, h5, h6⟩ := h
  have hI : ∀ k, mI M' a k = mI M a k := fun k => c.2.2.1 a k h2 fun q => by have := n1 _ _ q; omega
  have hR : ∀ k, mR M' a k = mR M a k := fun k => c.2.2.2.2 a k h2 fun q => by have := n2 _ _ q; omega
  refine ⟨h1, Nat.lt_of_lt_of_le h2 c.1, by rw [c.2.1 a h2]; exact h3, by rw [hI]; exact i0, by rw [hI]; exact i1, by rw [hI]; exact i2, by rw [hI]; exact i3, by rw [hI]; exact i4, fun q => ?_, fun q => ?_⟩
  · obtain ⟨b, g1, g2⟩ := h5 q
    exact ⟨b, by rw [hR]; exact g1, g2.mv c n1⟩
  · obtain ⟨b, g1, g2⟩ := h6 q
    exact ⟨b, by rw [hR]; exact g1, g2.mv c n1 n2⟩
end MV

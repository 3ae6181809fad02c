/-! ===== the class's cells against the state ===== -/
/-- the places of single numbers -/
def sc (a j : Nat) : Prop := 9 ≤ a ∧ a < 169 ∧ (((a - 9) % 80 = 0 ∧ (j = 3 ∨ j = 4 ∨ j = 5 ∨ j = 15 ∨ j = 16)) ∨ ((a - 9) % 80 = 16 ∧ j < 3) ∨ ((a - 9) % 80 = 17 ∧ j < 3) ∨ ((a - 9) % 80 = 5 ∧ 1 ≤ j ∧ j ≤ 3) ∨ ((a - 9) % 80 = 10 ∧ j = 1) ∨ (20 ≤ (a - 9) % 80 ∧ (a - 9) % 5 = 0 ∧ 1 ≤ j ∧ j ≤ 6))
/-- the unread bytes of stream place k -/
def unrd (U : List (Int32 × Int32)) (k : Nat) : List Int32 := (U.filter fun x => x.1 == nI (2 * k + 1)).map fun x => x.2
def PipeC (M : mM) (e : Nat) (L : List zF) : Prop := ∃ i, i < 48 ∧ L.length < 48 ∧ mI M (4 + 2 * e) 1 = nI i ∧ mI M (4 + 2 * e) 2 = nI L.length ∧ ∀ j f, L[j]? = some f → ∃ a, mR M (5 + 2 * e) ((i + j) % 48) = some a ∧ FrC M a f
def LsC (M : mM) (e k : Nat) (o : Option (List (Int32 × Int32))) : Prop := (o = none → mR M (29 + 80 * e + 5 * k) 7 = none) ∧ ∀ L, o = some L → ∃ a, mR M (29 + 80 * e + 5 * k) 7 = some a ∧ FlC 223 M a L
def szV (v : Int32) : Int32 := if v < 0 then 37 else if 16777215 < v then 37 else if 65535 < v then 36 else if 255 < v then 35 else 34
def sumT : List (Int32 × Int32) → Int32
  | [] => 0
  | x :: L => szV x.2 + sumT L
def TabC (M : mM) (e g : Nat) (L : List (Int32 × Int32)) (mx : Int32) : Prop := mI M (15 + 80 * e + 5 * g) 3 = nI L.length ∧ L.length ≤ 5 ∧ mI M (15 + 80 * e + 5 * g) 4 = sumT L ∧ mI M (15 + 80 * e + 5 * g) 5 = mx ∧ ∀ j x, L[j]? = some x → mI M (16 + 80 * e + 5 * g) j = x.1 ∧ mI M (17 + 80 * e + 5 * g) j = x.2 ∧ mI M (18 + 80 * e + 5 * g) j = szV x.2
def MkC (M : mM) (e : Nat) (L : List (Int32 × Int32 × Int32)) : Prop := mI M (10 + 80 * e) 3 = nI L.length ∧ L.length ≤ 6 ∧ ∀ j x, L[j]? = some x → mI M (11 + 80 * e) j = x.1 ∧ mI M (12 + 80 * e) j = x.2.1 ∧ mI M (13 + 80 * e) j = x.2.2
def PdC (M : mM) (e : Nat) (L : List (Int32 × Int32)) : Prop := mI M (9 + 80 * e) 14 = nI L.length ∧ L.length ≤ 8 ∧ ∀ j x, L[j]? = some x → mI M (27 + 80 * e) j = x.1 ∧ mI M (28 + 80 * e) j = x.2
def FixC (M : mM) (e : Nat) : Prop := mI M (9 + 80 * e) 0 = nI (1 - e) ∧ ∀ k, k < 12 → mI M (29 + 80 * e + 5 * k) 0 = nI (2 * k + 1)
def RC (M : mM) (A : zA) : Prop := Shp M ∧ (∀ a j, sc a j → mI M a j = zI A a j) ∧ (∀ e, e < 2 → FixC M e) ∧ (∀ e, e < 2 → PipeC M e (zP A e)) ∧ (∀ e k, e < 2 → k < 12 → QC M (30 + 80 * e + 5 * k) (31 + 80 * e + 5 * k) 32 (zW A e k)) ∧ (∀ e k, e < 2 → k < 12 → QC M (32 + 80 * e + 5 * k) (33 + 80 * e + 5 * k) 40 (unrd (zU A e) k)) ∧ (∀ e k, e < 2 → k < 12 → LsC M e k (zL A e k)) ∧ (∀ e g, e < 2 → g < 2 → TabC M e g (zB A e g).1 (zB A e g).2) ∧ (∀ e, e < 2 → MkC M e (zK A e)) ∧ ∀ e, e < 2 → PdC M e (zD A e)
section RCM
variable {M M' : mM} {PI PR : Nat → Nat → Prop}
theorem PipeC.mv {e : Nat} {L : List zF} (h : PipeC M e L) (c : Chg M M' PI PR) (hN : 223 ≤ mN M) (he : e < 2) (n1 : ∀ a k, PI a k → a < 223 ∧ ¬ a = 4 + 2 * e) (n2 : ∀ a k, PR a k → a < 223 ∧ ¬ a = 5 + 2 * e) : PipeC M' e L := by
  obtain ⟨i, h1, h2, h3, h4, h5⟩ := h
  refine ⟨i, h1, h2, by rw [c.2.2.1 _ _ (by omega) fun q => (n1 _ _ q).2 rfl]; exact h3, by rw [c.2.2.1 _ _ (by omega) fun q => (n1 _ _ q).2 rfl]; exact h4, fun j f hf => ?_⟩
  obtain ⟨a, g1, g2⟩ := h5 j f hf
  exact ⟨a, by rw [c.2.2.2.2 _ _ (by omega) fun q => (n2 _ _ q).2 rfl]; exact g1, g2.mv c (fun a k q => (n1 a k q).1) fun a k q => (n2 a k q).1⟩
theorem LsC.mv {e k : Nat} {o : Option (List (Int32 × Int32))} (h : LsC M e k o) (c : Chg M M' PI PR) (hN : 223 ≤ mN M) (he : e < 2) (hk : k < 12) (n1 : ∀ a j, PI a j → a < 223) (n2 : ∀ a j, PR a j → a < 223 ∧ ¬ (a = 29 + 80 * e + 5 * k ∧ j = 7)) : LsC M' e k o := by
  refine ⟨fun q => by rw [c.2.2.2.2 _ _ (by omega) fun q => (n2 _ _ q).2 ⟨rfl, rfl⟩]; exact h.1 q, fun L q => ?_⟩
  obtain ⟨a, g1, g2⟩ := h.2 L q
  exact ⟨a, by rw [c.2.2.2.2 _ _ (by omega) fun q => (n2 _ _ q).2 ⟨rfl, rfl⟩]; exact g1, g2.mv c n1 fun a k q => (n2 a k q).1⟩
theorem TabC.mv {e g : Nat} {L : List (Int32 × Int32)} {mx : Int32} (h : TabC M e g L mx) (c : Chg M M' PI PR) (hN : 223 ≤ mN M) (he : e < 2) (hg : g < 2) (n1 : ∀ a j, PI a j → ¬ (15 + 80 * e + 5 * g ≤ a ∧ a ≤ 18 + 80 * e + 5 * g)) : TabC M' e g L mx := by
  have hI : ∀ a k, 15 + 80 * e + 5 * g ≤ a → a ≤ 18 + 80 * e + 5 * g → mI M' a k = mI M a k := fun a k h1 h2 => c.2.2.1 a k (by omega) fun q => n1 _ _ q ⟨h1, h2⟩
  obtain ⟨h1, h2, h3, h4, h5⟩ := h
  refine ⟨by rw [hI _ _ (by omega) (by omega)]; exact h1, h2, by rw [hI _ _ (by omega) (by omega)]; exact h3, by rw [hI _ _ (by omega) (by omega)]; exact h4, fun j x hx => ?_⟩
  rw [hI _ _ (by omega) (by omega), hI _ _ (by omega) (by omega), hI _ _ (by omega) (by omega)]
  exact h5 j x hx
theorem MkC.mv {e : Nat} {L : List (Int32 × Int32 × Int32)} (h : MkC M e L) (c : Chg M M' PI PR) (hN : 223 ≤ mN M) (he : e < 2) (n1 : ∀ a j, PI a j → ¬ (10 + 80 * e ≤ a ∧ a ≤ 13 + 80 * e)) : MkC M' e L := by
  have hI : ∀ a k, 10 + 80 * e ≤ a → a ≤ 13 + 80 * e → mI M' a k = mI M a k := fun a k h1 h2 => c.2.2.1 a k (by omega) fun q => n1 _ _ q ⟨h1, h2⟩
  obtain ⟨h1, h2, h5⟩ := h
  refine ⟨by rw [hI _ _ (by omega) (by omega)]; exact h1, h2, fun j x hx => ?_⟩
  rw [hI _ _ (by omega) (by omega), hI _ _ (by omega) (by omega), hI _ _ (by omega) (by omega)]
  exact h5 j x hx
theorem PdC.mv {e : Nat} {L : List (Int32 × Int32)} (h : PdC M e L) (c : Chg M M' PI PR) (hN : 223 ≤ mN M) (he : e < 2) (n1 : ∀ a j, PI a j → ¬ (a = 9 + 80 * e ∧ j = 14) ∧ ¬ a = 27 + 80 * e ∧ ¬ a = 28 + 80 * e) : PdC M' e L := by
  obtain ⟨h1, h2, h5⟩ := h
  refine ⟨by rw [c.2.2.1 _ _ (by omega) fun q => (n1 _ _ q).1 ⟨rfl, rfl⟩]; exact h1, h2, fun j x hx => ?_⟩
  rw [c.2.2.1 (27 + 80 * e) _ (by omega) fun q => (n1 _ _ q).2.1 rfl, c.2.2.1 (28 + 80 * e) _ (by omega) fun q => (n1 _ _ q).2.2 rfl]
  exact h5 j x hx
theorem FixC.mv {e : Nat} (h : FixC M e) (c : Chg M M' PI PR) (hN : 223 ≤ mN M) (he : e < 2) (n1 : ∀ a j, PI a j → ¬ (a = 9 + 80 * e ∧ j = 0) ∧ ¬ (29 ≤ a ∧ (a - 9) % 5 = 0 ∧ a < 169 ∧ j = 0)) : FixC M' e :=
  ⟨by rw [c.2.2.1 _ _ (by omega) fun q => (n1 _ _ q).1 ⟨rfl, rfl⟩]; exact h.1, fun k hk => by rw [c.2.2.1 _ _ (by omega) fun q => (n1 _ _ q).2 (by omega)]; exact h.2 k hk⟩
end RCM

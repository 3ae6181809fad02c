/-! ===== the reference's cells against the state ===== -/
/-- cells of the reference -/
def mP (a _ : Nat) : Prop := 169 ≤ a ∧ a < 223
def byR (w : Int64) (j : Nat) : Int32 := if j < 8 then (ushr w (nI (8 * j))).toInt32 &&& 255 else 0
def FrR (M : mM) (sl : Nat) (f : zF) : Prop := Rkinds M sl = f.1 ∧ Rstreams M sl = f.2.1 ∧ Ramounts M sl = f.2.2.1 ∧ Rflags M sl = f.2.2.2.1 ∧ (f.1 ≠ 1 → Rsettings M sl = f.2.2.2.2.1) ∧ (f.1 = 1 → Rsettings M sl = 0 ∧ f.2.2.1 = nI f.2.2.2.2.2.2.length ∧ f.2.2.2.2.2.2.length ≤ 8 ∧ f.2.2.2.2.1 = sumS f.2.2.2.2.2.2 ∧ ∀ j s, f.2.2.2.2.2.2[j]? = some s → RstepKind M (8 * sl + j) = s.1 ∧ RstepIndex M (8 * sl + j) = s.2.1 ∧ RstepName M (8 * sl + j) = s.2.2.1 ∧ RstepValue M (8 * sl + j) = s.2.2.2) ∧ (f.1 = 0 → f.2.2.1 = nI f.2.2.2.2.2.1.length ∧ ∀ j x, f.2.2.2.2.2.1[j]? = some x → x = byR (Rloads M sl) j)
def PpR (M : mM) (e : Nat) (L : List zF) : Prop := ∃ h, h < 48 ∧ L.length < 48 ∧ Rhead M e = nI h ∧ Rcount M e = nI L.length ∧ ∀ j f, L[j]? = some f → FrR M (48 * e + (h + j) % 48) f
def ScR (M : mM) (A : zA) (e : Nat) : Prop := Rdowns M e = zI A (9 + 80 * e) 3 ∧ 40 + RlinkCredit M e - RlinkSent M e = zI A (9 + 80 * e) 4 ∧ RlastData M e = zI A (9 + 80 * e) 16
def SeR (M : mM) (A : zA) (e : Nat) : Prop := (Rforce M (3 * e) = zI A (26 + 80 * e) 0 ∧ Rforce M (3 * e + 1) = zI A (26 + 80 * e) 1 ∧ Rforce M (3 * e + 2) = zI A (26 + 80 * e) 2) ∧ (Rtold M (3 * e + 1) = zI A (25 + 80 * e) 1 ∧ Rtold M (3 * e + 2) = zI A (25 + 80 * e) 2) ∧ RtoldSince M e = zI A (14 + 80 * e) 1 ∧ (¬ zI A (14 + 80 * e) 1 = 0 → Rtold M (3 * e) = zI A (14 + 80 * e) 3 ∧ RleastTold M e = zI A (14 + 80 * e) 2) ∧ Rneed M e = zI A (19 + 80 * e) 1
def RqR (M : mM) (A : zA) : Prop := ∃ r, r ≤ 12 ∧ Rrequests M = nI r ∧ zI A 9 15 = nI (2 * r + 1)
/-- a stream's state against the four flags -/
def stR (s c op cu se ge : Int32) : Prop := (s = 0 ∧ c = 0 ∧ op = 0 ∧ cu = 0 ∧ se = 0 ∧ ge = 0) ∨ (s = 1 ∧ c = 0 ∧ op = 1 ∧ cu = 0 ∧ se = 0 ∧ ge = 0) ∨ (s = 2 ∧ c = 0 ∧ op = 1 ∧ cu = 0 ∧ se = 1 ∧ ge = 0) ∨ (s = 3 ∧ c = 0 ∧ op = 1 ∧ cu = 0 ∧ se = 0 ∧ ge = 1) ∨ (s = 4 ∧ c = 0 ∧ op = 1 ∧ cu = 0 ∧ se = 1 ∧ ge = 1) ∨ (s = 4 ∧ c = 1 ∧ op = 1 ∧ cu = 1 ∧ (se = 0 ∨ se = 1) ∧ (ge = 0 ∨ ge = 1))
def StR (M : mM) (A : zA) (e k : Nat) : Prop := stR (zI A (29 + 80 * e + 5 * k) 1) (zI A (29 + 80 * e + 5 * k) 2) (Ropened M (12 * e + k)) (Rcut M (12 * e + k)) (RsentEnd M (12 * e + k)) (RgotEnd M (12 * e + k)) ∧ (zI A (29 + 80 * e + 5 * k) 1 = 0 → Rsent M (12 * e + k) = 0 ∧ Rcredit M (12 * e + k) = 0 ∧ Rgot M (12 * e + k) = 0 ∧ Rback M (12 * e + k) = 0) ∧ (zI A (29 + 80 * e + 5 * k) 1 = 1 ∨ zI A (29 + 80 * e + 5 * k) 1 = 2 ∨ zI A (29 + 80 * e + 5 * k) 1 = 3 → Rtold M (3 * e + 2) + Rcredit M (12 * e + k) - Rsent M (12 * e + k) = zI A (29 + 80 * e + 5 * k) 3 ∧ Rforce M (3 * e + 2) + Rback M (12 * e + k) - Rgot M (12 * e + k) = zI A (29 + 80 * e + 5 * k) 4) ∧ (e = 1 → Rresponded M (12 * e + k) = zI A (29 + 80 * e + 5 * k) 5) ∧ RlastSaid M (12 * e + k) = zI A (29 + 80 * e + 5 * k) 6
def WtR (M : mM) (i : Nat) (L : List Int32) : Prop := Rwaits M i = nI L.length ∧ L.length ≤ 32 ∧ ∀ j x, L[j]? = some x → Rwait M (32 * i + j) = x
def UnR (M : mM) (e : Nat) (U : List (Int32 × Int32)) : Prop := Runread M e = nI U.length ∧ U.length ≤ 40 ∧ ∀ j x, U[j]? = some x → RunreadStream M (40 * e + j) = x.1 ∧ RunreadByte M (40 * e + j) = x.2
def LsR (M : mM) (i : Nat) (o : Option (List (Int32 × Int32))) : Prop := (o = none → Rcame M i = 0 ∧ Rfields M i = 0) ∧ ∀ L, o = some L → Rcame M i = 1 ∧ Rfields M i = nI L.length ∧ L.length ≤ 6 ∧ ∀ j x, L[j]? = some x → RfieldName M (6 * i + j) = x.1 ∧ RfieldValue M (6 * i + j) = x.2
def TbR (M : mM) (t : Nat) (L : List (Int32 × Int32)) (mx : Int32) : Prop := Rsize M t = nI L.length ∧ L.length ≤ 5 ∧ Rmaximum M t = mx ∧ ∀ j x, L[j]? = some x → RtableName M (6 * t + j) = x.1 ∧ RtableValue M (6 * t + j) = x.2
def MkR (M : mM) (e : Nat) (L : List (Int32 × Int32 × Int32)) : Prop := Rmaking M e = nI L.length ∧ L.length ≤ 6 ∧ ∀ j x, L[j]? = some x → RmakingName M (6 * e + j) = x.1 ∧ RmakingValue M (6 * e + j) = x.2.1 ∧ RmakingSecret M (6 * e + j) = x.2.2
def PdR (M : mM) (e : Nat) (L : List (Int32 × Int32)) : Prop := Ropen M e = nI L.length ∧ L.length ≤ 8 ∧ ∀ j x, L[j]? = some x → RopenSetting M (8 * e + j) = x.1 ∧ RopenValue M (8 * e + j) = x.2
def RR (M : mM) (A : zA) : Prop := Shp M ∧ (∀ e, e < 2 → ScR M A e) ∧ (∀ e, e < 2 → SeR M A e) ∧ RqR M A ∧ (∀ e, e < 2 → PpR M e (zP A e)) ∧ (∀ e k, e < 2 → k < 12 → StR M A e k) ∧ (∀ e k, e < 2 → k < 12 → WtR M (12 * e + k) (zW A e k)) ∧ (∀ e, e < 2 → UnR M e (zU A e)) ∧ (∀ e k, e < 2 → k < 12 → LsR M (12 * e + k) (zL A e k)) ∧ (∀ e g, e < 2 → g < 2 → TbR M (2 * e + g) (zB A e g).1 (zB A e g).2) ∧ (∀ e, e < 2 → MkR M e (zK A e)) ∧ ∀ e, e < 2 → PdR M e (zD A e)
section RRM
variable {M M' : mM} {A : zA} {PI PR : Nat → Nat → Prop}
theorem FrR.mv {sl : Nat} {f : zF} (h : FrR M sl f) (c : Chg M M' PI PR) (hN : 223 ≤ mN M) (n : ∀ a j, PI a j → ¬ (173 ≤ a ∧ a ≤ 178 ∧ j = sl) ∧ ¬ (179 ≤ a ∧ a ≤ 182 ∧ 8 * sl ≤ j ∧ j < 8 * sl + 8)) : FrR M' sl f := by
  obtain ⟨h1, h2, h3, h4, h5, h6, h7⟩ := h
  have q : ∀ a, 173 ≤ a → a ≤ 178 → mI M' a sl = mI M a sl := fun a p1 p2 => c.2.2.1 a sl (by omega) fun q => (n a sl q).1 ⟨p1, p2, rfl⟩
  have ql : mL M' 178 sl = mL M 178 sl := c.2.2.2.1 178 sl (by omega) fun q => (n 178 sl q).1 ⟨by omega, by omega, rfl⟩
  refine ⟨(q 173 (by omega) (by omega)).trans h1, (q 174 (by omega) (by omega)).trans h2, (q 175 (by omega) (by omega)).trans h3, (q 176 (by omega) (by omega)).trans h4, fun w => (q 177 (by omega) (by omega)).trans (h5 w), fun w => ?_, fun w => ?_⟩
  · obtain ⟨g1, g2, g3, g4, g5⟩ := h6 w
    refine ⟨(q 177 (by omega) (by omega)).trans g1, g2, g3, g4, fun j s hs => ?_⟩
    have hj := (List.getElem?_eq_some_iff.mp hs).1
    have q2 : ∀ a, 179 ≤ a → a ≤ 182 → mI M' a (8 * sl + j) = mI M a (8 * sl + j) := fun a p1 p2 => c.2.2.1 a _ (by omega) fun q => (n a _ q).2 ⟨p1, p2, by omega, by omega⟩
    obtain ⟨s1, s2, s3, s4⟩ := g5 j s hs
    exact ⟨(q2 179 (by omega) (by omega)).trans s1, (q2 180 (by omega) (by omega)).trans s2, (q2 181 (by omega) (by omega)).trans s3, (q2 182 (by omega) (by omega)).trans s4⟩
  · obtain ⟨g1, g2⟩ := h7 w
    exact ⟨g1, fun j x hx => by rw [show Rloads M' sl = Rloads M sl from ql]; exact g2 j x hx⟩
theorem PpR.mv {e : Nat} {L : List zF} (h : PpR M e L) (c : Chg M M' PI PR) (hN : 223 ≤ mN M) (n : ∀ a j, PI a j → ¬ (171 ≤ a ∧ a ≤ 172 ∧ j = e) ∧ ¬ (173 ≤ a ∧ a ≤ 178 ∧ 48 * e ≤ j ∧ j < 48 * e + 48) ∧ ¬ (179 ≤ a ∧ a ≤ 182 ∧ 384 * e ≤ j ∧ j < 384 * e + 384)) : PpR M' e L := by
  obtain ⟨x, h1, h2, h3, h4, h5⟩ := h
  refine ⟨x, h1, h2, (c.2.2.1 171 e (by omega) fun q => (n _ _ q).1 (by omega)).trans h3, (c.2.2.1 172 e (by omega) fun q => (n _ _ q).1 (by omega)).trans h4, fun j f hf => (h5 j f hf).mv c hN fun a i q => ?_⟩
  have := n a i q
  have := Nat.mod_lt (x + j) (by decide : 0 < 48)
  omega
theorem ScR.mv {e : Nat} (h : ScR M A e) (c : Chg M M' PI PR) (hN : 223 ≤ mN M) (n : ∀ a j, PI a j → ¬ ((a = 170 ∨ a = 202 ∨ a = 203 ∨ a = 204) ∧ j = e)) : ScR M' A e := by
  have q : ∀ a, (a = 170 ∨ a = 202 ∨ a = 203 ∨ a = 204) → mI M' a e = mI M a e := fun a p => c.2.2.1 a e (by omega) fun q => n _ _ q ⟨p, rfl⟩
  unfold ScR Rdowns RlinkCredit RlinkSent RlastData
  rw [q 170 (by omega), q 202 (by omega), q 203 (by omega), q 204 (by omega)]
  exact h
theorem SeR.mv {e : Nat} (h : SeR M A e) (c : Chg M M' PI PR) (hN : 223 ≤ mN M) (n : ∀ a j, PI a j → ¬ ((a = 205 ∨ a = 206) ∧ 3 * e ≤ j ∧ j < 3 * e + 3) ∧ ¬ (207 ≤ a ∧ a ≤ 209 ∧ j = e)) : SeR M' A e := by
  have q : ∀ a j, (a = 205 ∨ a = 206) → 3 * e ≤ j → j < 3 * e + 3 → mI M' a j = mI M a j := fun a j p p2 p3 => c.2.2.1 a j (by omega) fun q => (n _ _ q).1 ⟨p, p2, p3⟩
  have q2 : ∀ a, 207 ≤ a → a ≤ 209 → mI M' a e = mI M a e := fun a p p2 => c.2.2.1 a e (by omega) fun q => (n _ _ q).2 ⟨p, p2, rfl⟩
  unfold SeR Rforce Rtold RtoldSince RleastTold Rneed
  rw [q 205 (3 * e) (by omega) (by omega) (by omega), q 205 (3 * e + 1) (by omega) (by omega) (by omega), q 205 (3 * e + 2) (by omega) (by omega) (by omega), q 206 (3 * e) (by omega) (by omega) (by omega), q 206 (3 * e + 1) (by omega) (by omega) (by omega), q 206 (3 * e + 2) (by omega) (by omega) (by omega), q2 207 (by omega) (by omega), q2 208 (by omega) (by omega), q2 209 (by omega) (by omega)]
  exact h
theorem RqR.mv (h : RqR M A) (c : Chg M M' PI PR) (hN : 223 ≤ mN M) (n : ∀ a j, PI a j → ¬ (a = 169 ∧ j = 35)) : RqR M' A := by
  obtain ⟨r, h1, h2, h3⟩ := h
  exact ⟨r, h1, (c.2.2.1 169 35 (by omega) fun q => n _ _ q ⟨rfl, rfl⟩).trans h2, h3⟩
theorem StR.mv {e k : Nat} (h : StR M A e k) (c : Chg M M' PI PR) (hN : 223 ≤ mN M) (n : ∀ a j, PI a j → ¬ (183 ≤ a ∧ a ≤ 193 ∧ a ≠ 187 ∧ j = 12 * e + k) ∧ ¬ ((a = 205 ∨ a = 206) ∧ j = 3 * e + 2)) : StR M' A e k := by
  have q : ∀ a, 183 ≤ a → a ≤ 193 → a ≠ 187 → mI M' a (12 * e + k) = mI M a (12 * e + k) := fun a p p2 p3 => c.2.2.1 a _ (by omega) fun q => (n _ _ q).1 ⟨p, p2, p3, rfl⟩
  have q2 : ∀ a, (a = 205 ∨ a = 206) → mI M' a (3 * e + 2) = mI M a (3 * e + 2) := fun a p => c.2.2.1 a _ (by omega) fun q => (n _ _ q).2 ⟨p, rfl⟩
  unfold StR Ropened Rcut RsentEnd RgotEnd Rsent Rcredit Rgot Rback Rtold Rforce Rresponded RlastSaid
  rw [q 183 (by omega) (by omega) (by omega), q 184 (by omega) (by omega) (by omega), q 185 (by omega) (by omega) (by omega), q 186 (by omega) (by omega) (by omega), q 188 (by omega) (by omega) (by omega), q 189 (by omega) (by omega) (by omega), q 190 (by omega) (by omega) (by omega), q 191 (by omega) (by omega) (by omega), q 192 (by omega) (by omega) (by omega), q 193 (by omega) (by omega) (by omega), q2 205 (by omega), q2 206 (by omega)]
  exact h
theorem WtR.mv {i : Nat} {L : List Int32} (h : WtR M i L) (c : Chg M M' PI PR) (hN : 223 ≤ mN M) (n : ∀ a j, PI a j → ¬ (a = 197 ∧ j = i) ∧ ¬ (a = 198 ∧ 32 * i ≤ j ∧ j < 32 * i + 32)) : WtR M' i L := by
  obtain ⟨h1, h2, h3⟩ := h
  refine ⟨(c.2.2.1 197 i (by omega) fun q => (n _ _ q).1 ⟨rfl, rfl⟩).trans h1, h2, fun j x hx => ?_⟩
  have hj := (List.getElem?_eq_some_iff.mp hx).1
  exact (c.2.2.1 198 _ (by omega) fun q => (n _ _ q).2 ⟨rfl, by omega, by omega⟩).trans (h3 j x hx)
theorem UnR.mv {e : Nat} {U : List (Int32 × Int32)} (h : UnR M e U) (c : Chg M M' PI PR) (hN : 223 ≤ mN M) (n : ∀ a j, PI a j → ¬ (a = 199 ∧ j = e) ∧ ¬ ((a = 200 ∨ a = 201) ∧ 40 * e ≤ j ∧ j < 40 * e + 40)) : UnR M' e U := by
  obtain ⟨h1, h2, h3⟩ := h
  refine ⟨(c.2.2.1 199 e (by omega) fun q => (n _ _ q).1 ⟨rfl, rfl⟩).trans h1, h2, fun j x hx => ?_⟩
  have hj := (List.getElem?_eq_some_iff.mp hx).1
  exact ⟨(c.2.2.1 200 _ (by omega) fun q => (n _ _ q).2 ⟨by omega, by omega, by omega⟩).trans (h3 j x hx).1, (c.2.2.1 201 _ (by omega) fun q => (n _ _ q).2 ⟨by omega, by omega, by omega⟩).trans (h3 j x hx).2⟩
theorem LsR.mv {i : Nat} {o : Option (List (Int32 × Int32))} (h : LsR M i o) (c : Chg M M' PI PR) (hN : 223 ≤ mN M) (n : ∀ a j, PI a j → ¬ ((a = 187 ∨ a = 194) ∧ j = i) ∧ ¬ ((a = 195 ∨ a = 196) ∧ 6 * i ≤ j ∧ j < 6 * i + 6)) : LsR M' i o := by
  have q1 := c.2.2.1 187 i (by omega) fun q => (n _ _ q).1 ⟨Or.inl rfl, rfl⟩
  have q2 := c.2.2.1 194 i (by omega) fun q => (n _ _ q).1 ⟨Or.inr rfl, rfl⟩
  refine ⟨fun q => ⟨q1.trans (h.1 q).1, q2.trans (h.1 q).2⟩, fun L q => ?_⟩
  obtain ⟨h1, h2, h3, h4⟩ := h.2 L q
  refine ⟨q1.trans h1, q2.trans h2, h3, fun j x hx => ?_⟩
  have hj := (List.getElem?_eq_some_iff.mp hx).1
  exact ⟨(c.2.2.1 195 _ (by omega) fun q => (n _ _ q).2 ⟨by omega, by omega, by omega⟩).trans (h4 j x hx).1, (c.2.2.1 196 _ (by omega) fun q => (n _ _ q).2 ⟨by omega, by omega, by omega⟩).trans (h4 j x hx).2⟩
theorem TbR.mv {t : Nat} {L : List (Int32 × Int32)} {mx : Int32} (h : TbR M t L mx) (c : Chg M M' PI PR) (hN : 223 ≤ mN M) (n : ∀ a j, PI a j → ¬ ((a = 213 ∨ a = 214) ∧ j = t) ∧ ¬ ((a = 215 ∨ a = 216) ∧ 6 * t ≤ j ∧ j < 6 * t + 6)) : TbR M' t L mx := by
  obtain ⟨h1, h2, h3, h4⟩ := h
  refine ⟨(c.2.2.1 214 t (by omega) fun q => (n _ _ q).1 ⟨Or.inr rfl, rfl⟩).trans h1, h2, (c.2.2.1 213 t (by omega) fun q => (n _ _ q).1 ⟨Or.inl rfl, rfl⟩).trans h3, fun j x hx => ?_⟩
  have hj := (List.getElem?_eq_some_iff.mp hx).1
  exact ⟨(c.2.2.1 215 _ (by omega) fun q => (n _ _ q).2 ⟨by omega, by omega, by omega⟩).trans (h4 j x hx).1, (c.2.2.1 216 _ (by omega) fun q => (n _ _ q).2 ⟨by omega, by omega, by omega⟩).trans (h4 j x hx).2⟩
theorem MkR.mv {e : Nat} {L : List (Int32 × Int32 × Int32)} (h : MkR M e L) (c : Chg M M' PI PR) (hN : 223 ≤ mN M) (n : ∀ a j, PI a j → ¬ (a = 217 ∧ j = e) ∧ ¬ (218 ≤ a ∧ a ≤ 220 ∧ 6 * e ≤ j ∧ j < 6 * e + 6)) : MkR M' e L := by
  obtain ⟨h1, h2, h3⟩ := h
  refine ⟨(c.2.2.1 217 e (by omega) fun q => (n _ _ q).1 ⟨rfl, rfl⟩).trans h1, h2, fun j x hx => ?_⟩
  have hj := (List.getElem?_eq_some_iff.mp hx).1
  have q2 : ∀ a, 218 ≤ a → a ≤ 220 → mI M' a (6 * e + j) = mI M a (6 * e + j) := fun a p p2 => c.2.2.1 a _ (by omega) fun q => (n _ _ q).2 ⟨p, p2, by omega, by omega⟩
  exact ⟨(q2 218 (by omega) (by omega)).trans (h3 j x hx).1, (q2 219 (by omega) (by omega)).trans (h3 j x hx).2.1, (q2 220 (by omega) (by omega)).trans (h3 j x hx).2.2⟩
theorem PdR.mv {e : Nat} {L : List (Int32 × Int32)} (h : PdR M e L) (c : Chg M M' PI PR) (hN : 223 ≤ mN M) (n : ∀ a j, PI a j → ¬ (a = 210 ∧ j = e) ∧ ¬ ((a = 211 ∨ a = 212) ∧ 8 * e ≤ j ∧ j < 8 * e + 8)) : PdR M' e L := by
  obtain ⟨h1, h2, h3⟩ := h
  refine ⟨(c.2.2.1 210 e (by omega) fun q => (n _ _ q).1 ⟨rfl, rfl⟩).trans h1, h2, fun j x hx => ?_⟩
  have hj := (List.getElem?_eq_some_iff.mp hx).1
  exact ⟨(c.2.2.1 211 _ (by omega) fun q => (n _ _ q).2 ⟨by omega, by omega, by omega⟩).trans (h3 j x hx).1, (c.2.2.1 212 _ (by omega) fun q => (n _ _ q).2 ⟨by omega, by omega, by omega⟩).trans (h3 j x hx).2⟩
theorem RR.far {P : Nat → Nat → Prop} (nn : ∀ a j, P a j → a < 169 ∨ 223 ≤ a ∨ a = 221 ∨ a = 222 ∨ (a = 169 ∧ j ≠ 35)) (h : RR M A)  (c : Chg M M' (P) no2) : RR M' (A) := by
  obtain ⟨h0, h1, h2, h3, h4, h5, h6, h7, h8, h9, h10, h11⟩ := h
  have hN := h0.1
  refine ⟨h0.mv c fun a k q => q.elim, fun d hd => (h1 d hd).mv c hN fun a j q => by have := nn a j q; omega, fun d hd => (h2 d hd).mv c hN fun a j q => by have := nn a j q; omega, h3.mv c hN fun a j q => by have := nn a j q; omega, fun d hd => (h4 d hd).mv c hN fun a j q => by have := nn a j q; omega, fun d g hd hg => (h5 d g hd hg).mv c hN fun a j q => by have := nn a j q; omega, fun d g hd hg => (h6 d g hd hg).mv c hN fun a j q => by have := nn a j q; omega, fun d hd => (h7 d hd).mv c hN fun a j q => by have := nn a j q; omega, fun d g hd hg => (h8 d g hd hg).mv c hN fun a j q => by have := nn a j q; omega, fun d g hd hg => (h9 d g hd hg).mv c hN fun a j q => by have := nn a j q; omega, fun d hd => (h10 d hd).mv c hN fun a j q => by have := nn a j q; omega, fun d hd => (h11 d hd).mv c hN fun a j q => by have := nn a j q; omega⟩
theorem RR.yP {e : Nat} {L : List zF} (h : RR M A) (he : e < 2) (hq : PpR M' e L) (c : Chg M M' (fun a j => (171 ≤ a ∧ a ≤ 172 ∧ j = e) ∨ (173 ≤ a ∧ a ≤ 178 ∧ 48 * e ≤ j ∧ j < 48 * e + 48) ∨ (179 ≤ a ∧ a ≤ 182 ∧ 384 * e ≤ j ∧ j < 384 * e + 384)) no2) : RR M' (yP A e L) := by
  obtain ⟨h0, h1, h2, h3, h4, h5, h6, h7, h8, h9, h10, h11⟩ := h
  have hN := h0.1
  refine ⟨h0.mv c fun a k q => q.elim, fun d hd => (h1 d hd).mv c hN fun a j q => by omega, fun d hd => (h2 d hd).mv c hN fun a j q => by omega, h3.mv c hN fun a j q => by omega, ?_, fun d g hd hg => (h5 d g hd hg).mv c hN fun a j q => by omega, fun d g hd hg => (h6 d g hd hg).mv c hN fun a j q => by omega, fun d hd => (h7 d hd).mv c hN fun a j q => by omega, fun d g hd hg => (h8 d g hd hg).mv c hN fun a j q => by omega, fun d g hd hg => (h9 d g hd hg).mv c hN fun a j q => by omega, fun d hd => (h10 d hd).mv c hN fun a j q => by omega, fun d hd => (h11 d hd).mv c hN fun a j q => by omega⟩
  · intro d hd
    show PpR M' d (upf (zP A) e L d)
    by_cases q : d = e
    · subst q
      rw [upf_same]
      exact hq
    · rw [upf_ne q]
      exact (h4 d hd).mv c hN fun a j q => by omega
theorem RR.yU {e : Nat} {L : List (Int32 × Int32)} (h : RR M A) (he : e < 2) (hq : UnR M' e L) (c : Chg M M' (fun a j => (a = 199 ∧ j = e) ∨ ((a = 200 ∨ a = 201) ∧ 40 * e ≤ j ∧ j < 40 * e + 40) ∨ (a = 169 ∧ j = 55)) no2) : RR M' (yU A e L) := by
  obtain ⟨h0, h1, h2, h3, h4, h5, h6, h7, h8, h9, h10, h11⟩ := h
  have hN := h0.1
  refine ⟨h0.mv c fun a k q => q.elim, fun d hd => (h1 d hd).mv c hN fun a j q => by omega, fun d hd => (h2 d hd).mv c hN fun a j q => by omega, h3.mv c hN fun a j q => by omega, fun d hd => (h4 d hd).mv c hN fun a j q => by omega, fun d g hd hg => (h5 d g hd hg).mv c hN fun a j q => by omega, fun d g hd hg => (h6 d g hd hg).mv c hN fun a j q => by omega, ?_, fun d g hd hg => (h8 d g hd hg).mv c hN fun a j q => by omega, fun d g hd hg => (h9 d g hd hg).mv c hN fun a j q => by omega, fun d hd => (h10 d hd).mv c hN fun a j q => by omega, fun d hd => (h11 d hd).mv c hN fun a j q => by omega⟩
  · intro d hd
    show UnR M' d (upf (zU A) e L d)
    by_cases q : d = e
    · subst q
      rw [upf_same]
      exact hq
    · rw [upf_ne q]
      exact (h7 d hd).mv c hN fun a j q => by omega
theorem RR.yK {e : Nat} {L : List (Int32 × Int32 × Int32)} (h : RR M A) (he : e < 2) (hq : MkR M' e L) (c : Chg M M' (fun a j => (a = 217 ∧ j = e) ∨ (218 ≤ a ∧ a ≤ 220 ∧ 6 * e ≤ j ∧ j < 6 * e + 6)) no2) : RR M' (yK A e L) := by
  obtain ⟨h0, h1, h2, h3, h4, h5, h6, h7, h8, h9, h10, h11⟩ := h
  have hN := h0.1
  refine ⟨h0.mv c fun a k q => q.elim, fun d hd => (h1 d hd).mv c hN fun a j q => by omega, fun d hd => (h2 d hd).mv c hN fun a j q => by omega, h3.mv c hN fun a j q => by omega, fun d hd => (h4 d hd).mv c hN fun a j q => by omega, fun d g hd hg => (h5 d g hd hg).mv c hN fun a j q => by omega, fun d g hd hg => (h6 d g hd hg).mv c hN fun a j q => by omega, fun d hd => (h7 d hd).mv c hN fun a j q => by omega, fun d g hd hg => (h8 d g hd hg).mv c hN fun a j q => by omega, fun d g hd hg => (h9 d g hd hg).mv c hN fun a j q => by omega, ?_, fun d hd => (h11 d hd).mv c hN fun a j q => by omega⟩
  · intro d hd
    show MkR M' d (upf (zK A) e L d)
    by_cases q : d = e
    · subst q
      rw [upf_same]
      exact hq
    · rw [upf_ne q]
      exact (h10 d hd).mv c hN fun a j q => by omega
theorem RR.yD {e : Nat} {L : List (Int32 × Int32)} (h : RR M A) (he : e < 2) (hq : PdR M' e L) (c : Chg M M' (fun a j => (a = 210 ∧ j = e) ∨ ((a = 211 ∨ a = 212) ∧ 8 * e ≤ j ∧ j < 8 * e + 8)) no2) : RR M' (yD A e L) := by
  obtain ⟨h0, h1, h2, h3, h4, h5, h6, h7, h8, h9, h10, h11⟩ := h
  have hN := h0.1
  refine ⟨h0.mv c fun a k q => q.elim, fun d hd => (h1 d hd).mv c hN fun a j q => by omega, fun d hd => (h2 d hd).mv c hN fun a j q => by omega, h3.mv c hN fun a j q => by omega, fun d hd => (h4 d hd).mv c hN fun a j q => by omega, fun d g hd hg => (h5 d g hd hg).mv c hN fun a j q => by omega, fun d g hd hg => (h6 d g hd hg).mv c hN fun a j q => by omega, fun d hd => (h7 d hd).mv c hN fun a j q => by omega, fun d g hd hg => (h8 d g hd hg).mv c hN fun a j q => by omega, fun d g hd hg => (h9 d g hd hg).mv c hN fun a j q => by omega, fun d hd => (h10 d hd).mv c hN fun a j q => by omega, ?_⟩
  · intro d hd
    show PdR M' d (upf (zD A) e L d)
    by_cases q : d = e
    · subst q
      rw [upf_same]
      exact hq
    · rw [upf_ne q]
      exact (h11 d hd).mv c hN fun a j q => by omega
theorem RR.yW {e k : Nat} {L : List Int32} (h : RR M A) (he : e < 2) (hk : k < 12) (hq : WtR M' (12 * e + k) L) (c : Chg M M' (fun a j => (a = 197 ∧ j = 12 * e + k) ∨ (a = 198 ∧ 32 * (12 * e + k) ≤ j ∧ j < 32 * (12 * e + k) + 32)) no2) : RR M' (yW A e k L) := by
  obtain ⟨h0, h1, h2, h3, h4, h5, h6, h7, h8, h9, h10, h11⟩ := h
  have hN := h0.1
  refine ⟨h0.mv c fun a k q => q.elim, fun d hd => (h1 d hd).mv c hN fun a j q => by omega, fun d hd => (h2 d hd).mv c hN fun a j q => by omega, h3.mv c hN fun a j q => by omega, fun d hd => (h4 d hd).mv c hN fun a j q => by omega, fun d g hd hg => (h5 d g hd hg).mv c hN fun a j q => by omega, ?_, fun d hd => (h7 d hd).mv c hN fun a j q => by omega, fun d g hd hg => (h8 d g hd hg).mv c hN fun a j q => by omega, fun d g hd hg => (h9 d g hd hg).mv c hN fun a j q => by omega, fun d hd => (h10 d hd).mv c hN fun a j q => by omega, fun d hd => (h11 d hd).mv c hN fun a j q => by omega⟩
  · intro d g hd hg
    show WtR M' (12 * d + g) (up2 (zW A) e k L d g)
    by_cases q : d = e ∧ g = k
    · obtain ⟨rfl, rfl⟩ := q
      rw [up2_same]
      exact hq
    · rw [up2_ne q]
      exact (h6 d g hd hg).mv c hN fun a j q => by omega
theorem RR.yL {e k : Nat} {o : Option (List (Int32 × Int32))} (h : RR M A) (he : e < 2) (hk : k < 12) (hq : LsR M' (12 * e + k) o) (c : Chg M M' (fun a j => ((a = 187 ∨ a = 194) ∧ j = 12 * e + k) ∨ ((a = 195 ∨ a = 196) ∧ 6 * (12 * e + k) ≤ j ∧ j < 6 * (12 * e + k) + 6)) no2) : RR M' (yL A e k o) := by
  obtain ⟨h0, h1, h2, h3, h4, h5, h6, h7, h8, h9, h10, h11⟩ := h
  have hN := h0.1
  refine ⟨h0.mv c fun a k q => q.elim, fun d hd => (h1 d hd).mv c hN fun a j q => by omega, fun d hd => (h2 d hd).mv c hN fun a j q => by omega, h3.mv c hN fun a j q => by omega, fun d hd => (h4 d hd).mv c hN fun a j q => by omega, fun d g hd hg => (h5 d g hd hg).mv c hN fun a j q => by omega, fun d g hd hg => (h6 d g hd hg).mv c hN fun a j q => by omega, fun d hd => (h7 d hd).mv c hN fun a j q => by omega, ?_, fun d g hd hg => (h9 d g hd hg).mv c hN fun a j q => by omega, fun d hd => (h10 d hd).mv c hN fun a j q => by omega, fun d hd => (h11 d hd).mv c hN fun a j q => by omega⟩
  · intro d g hd hg
    show LsR M' (12 * d + g) (up2 (zL A) e k o d g)
    by_cases q : d = e ∧ g = k
    · obtain ⟨rfl, rfl⟩ := q
      rw [up2_same]
      exact hq
    · rw [up2_ne q]
      exact (h8 d g hd hg).mv c hN fun a j q => by omega
theorem RR.yB {e k : Nat} {L : List (Int32 × Int32)} {mx : Int32} (h : RR M A) (he : e < 2) (hk : k < 2) (hq : TbR M' (2 * e + k) L mx) (c : Chg M M' (fun a j => ((a = 213 ∨ a = 214) ∧ j = 2 * e + k) ∨ ((a = 215 ∨ a = 216) ∧ 6 * (2 * e + k) ≤ j ∧ j < 6 * (2 * e + k) + 6)) no2) : RR M' (yB A e k (L, mx)) := by
  obtain ⟨h0, h1, h2, h3, h4, h5, h6, h7, h8, h9, h10, h11⟩ := h
  have hN := h0.1
  refine ⟨h0.mv c fun a k q => q.elim, fun d hd => (h1 d hd).mv c hN fun a j q => by omega, fun d hd => (h2 d hd).mv c hN fun a j q => by omega, h3.mv c hN fun a j q => by omega, fun d hd => (h4 d hd).mv c hN fun a j q => by omega, fun d g hd hg => (h5 d g hd hg).mv c hN fun a j q => by omega, fun d g hd hg => (h6 d g hd hg).mv c hN fun a j q => by omega, fun d hd => (h7 d hd).mv c hN fun a j q => by omega, fun d g hd hg => (h8 d g hd hg).mv c hN fun a j q => by omega, ?_, fun d hd => (h10 d hd).mv c hN fun a j q => by omega, fun d hd => (h11 d hd).mv c hN fun a j q => by omega⟩
  · intro d g hd hg
    show TbR M' (2 * d + g) (up2 (zB A) e k (L, mx) d g).1 (up2 (zB A) e k (L, mx) d g).2
    by_cases q : d = e ∧ g = k
    · obtain ⟨rfl, rfl⟩ := q
      rw [up2_same]
      exact hq
    · rw [up2_ne q]
      exact (h9 d g hd hg).mv c hN fun a j q => by omega
end RRM


/-! ===== the reference over the state: a list sent ===== -/
/-- a frame of headers with the steps S -/
def hfr (s z : Int32) (S : List zS) : zF := (1, s, nI S.length, z, sumS S, [], S)
theorem push_yP {A : zA} {p : Nat} {f g : zF} : yP (push A p f) p (zP A p ++ [g]) = push A p g := by
  show (_, upf (upf (zP A) p (zP A p ++ [f])) p (zP A p ++ [g]), _) = (_, upf (zP A) p (zP A p ++ [g]), _)
  have : upf (upf (zP A) p (zP A p ++ [f])) p (zP A p ++ [g]) = upf (zP A) p (zP A p ++ [g]) := by
    funext d
    unfold upf
    split <;> rfl
  rw [this]
  rfl
theorem FrR.stp {M : mM} {sl : Nat} {s z kd ix na va : Int32} {S : List zS} (h : FrR M sl (hfr s z S)) (h8 : S.length < 8) : FrR (stepM M sl S.length kd ix na va) sl (hfr s z (S ++ [(kd, ix, na, va)])) := by
  obtain ⟨h1, h2, h3, h4, h5, h6, h7⟩ := h
  obtain ⟨g1, g2, g3, g4, g5⟩ := h6 rfl
  have u : ∀ a, a = 173 ∨ a = 174 ∨ a = 176 ∨ a = 177 → mI (stepM M sl S.length kd ix na va) a sl = mI M a sl := fun a ha => by
    unfold stepM
    rw [mI_setI, up2_a (by omega), mI_setI, up2_a (by omega), mI_setI, up2_a (by omega), mI_setI, up2_a (by omega), mI_setI, up2_a (by omega)]
  refine ⟨(u 173 (by omega)).trans h1, (u 174 (by omega)).trans h2, ?_, (u 176 (by omega)).trans h4, fun q => absurd rfl q, fun _ => ⟨(u 177 (by omega)).trans g1, rfl, by show (S ++ [_]).length ≤ 8; rw [List.length_append]; exact h8, rfl, fun j t ht => ?_⟩, fun q => absurd (show (1 : Int32) = 0 from q) (by decide)⟩
  · show mI (stepM M sl S.length kd ix na va) 175 sl = nI (S ++ [_]).length
    unfold stepM
    rw [mI_setI, up2_same, List.length_append]
    rfl
  · show mI (stepM M sl S.length kd ix na va) 179 _ = _ ∧ mI (stepM M sl S.length kd ix na va) 180 _ = _ ∧ mI (stepM M sl S.length kd ix na va) 181 _ = _ ∧ mI (stepM M sl S.length kd ix na va) 182 _ = _
    change (S ++ [(kd, ix, na, va)])[j]? = some t at ht
    unfold stepM
    by_cases hj : j < S.length
    · rw [List.getElem?_append_left hj] at ht
      obtain ⟨t1, t2, t3, t4⟩ := g5 j t ht
      exact ⟨by rw [sI_a (by decide), sI_a (by decide), sI_a (by decide), sI_a (by decide), sI_k (by omega)]; exact t1, by rw [sI_a (by decide), sI_a (by decide), sI_a (by decide), sI_k (by omega), sI_a (by decide)]; exact t2, by rw [sI_a (by decide), sI_a (by decide), sI_k (by omega), sI_a (by decide), sI_a (by decide)]; exact t3, by rw [sI_a (by decide), sI_k (by omega), sI_a (by decide), sI_a (by decide), sI_a (by decide)]; exact t4⟩
    · rw [List.getElem?_append_right (by omega)] at ht
      have h6 := (List.getElem?_eq_some_iff.mp ht).1
      have hj2 : j = S.length := by simp at h6; omega
      subst hj2
      simp at ht
      subst ht
      exact ⟨by rw [sI_a (by decide), sI_a (by decide), sI_a (by decide), sI_a (by decide), sI_s], by rw [sI_a (by decide), sI_a (by decide), sI_a (by decide), sI_s], by rw [sI_a (by decide), sI_a (by decide), sI_s], by rw [sI_a (by decide), sI_s]⟩
theorem lastS.mv {M M' : mM} {e n sl : Nat} {P : Nat → Nat → Prop} (h : lastS M e n sl) (c : Chg M M' P no2) (hN : 223 ≤ mN M) (q : ∀ a j, P a j → a ≠ 171) : lastS M' e n sl := by
  obtain ⟨x, x1, x2, x3⟩ := h
  exact ⟨x, x1, (c.2.2.1 171 e (by omega) fun w => q _ _ w rfl).trans x2, x3⟩
theorem RR.lastF {M : mM} {B : zA} {p sl : Nat} {f : zF} (h : RR M (push B p f)) (hp : p < 2) (hs : lastS M p (zP B p).length sl) : FrR M sl f ∧ sl < 96 := by
  obtain ⟨y, y1, y2, y3⟩ := hs
  obtain ⟨x, x1, x2, x3, x4, x5⟩ := h.2.2.2.2.1 p hp
  have hxy : x = y := (nI_eq (by omega) (by omega)).mp (x3.symm.trans y2)
  subst hxy
  have hz : zP (push B p f) p = zP B p ++ [f] := upf_same
  rw [hz] at x5
  have := x5 (zP B p).length f (by rw [List.getElem?_append_right (Nat.le_refl _), Nat.sub_self]; rfl)
  rw [← y3] at this
  have hlt := Nat.mod_lt (x + (zP B p).length) (by decide : 0 < 48)
  exact ⟨this, by omega⟩
theorem ct_stepM {X : mX} {l : Launch} {M : mM} {B : zA} {e sl : Nat} {s z kd ix na va : Int32} {S : List zS} (h : RR M (push B (1 - e) (hfr s z S))) (he : e < 2) (hs : lastS M (1 - e) (zP B (1 - e)).length sl) (h8 : S.length < 8) : Ct X l uMod_step (rk 0 0) [.ref 169, .int (nI sl), .int kd, .int ix, .int na, .int va] M (fun r M' => r = none ∧ RR M' (push B (1 - e) (hfr s z (S ++ [(kd, ix, na, va)]))) ∧ Chg M M' mP no2 ∧ lastS M' (1 - e) (zP B (1 - e)).length sl) := by
  obtain ⟨hF, hsl⟩ := h.lastF (by omega) hs
  have ha : Ramounts M sl = nI S.length := hF.2.2.1
  refine (cm_step h.1 hsl ha h8).post ?_
  rintro r M' ⟨rfl, rfl⟩
  have c : Chg M (stepM M sl S.length kd ix na va) (fun a j => (a = 175 ∧ j = sl) ∨ (179 ≤ a ∧ a ≤ 182 ∧ 8 * sl ≤ j ∧ j < 8 * sl + 8)) no2 := by
    unfold stepM
    exact ((((Chg.rf.setI (Or.inl (by omega))).setI (Or.inl (by omega))).setI (Or.inl (by omega))).setI (Or.inl (by omega))).setI (Or.inl (by omega))
  refine ⟨rfl, ?_, mp c fun a j q => by omega, hs.mv c h.1.1 fun a j q => by omega⟩
  have := rr_last h (L := zP B (1 - e)) (f := hfr s z S) (g := hfr s z (S ++ [(kd, ix, na, va)])) (by omega) upf_same hs (c.mono (fun a j q => by omega) fun _ _ q => q) (hF.stp h8)
  rw [push_yP] at this
  exact this
theorem ct_bndM {X : mX} {l : Launch} {M : mM} {B : zA} {e sl : Nat} {m : Int32} {f : zF} (h : RR M (push B (1 - e) f)) (he : e < 2) (hs : lastS M (1 - e) (zP B (1 - e)).length sl) (h0 : 0 ≤ m) : Ct X l uMod_bound (rk 2 43) [.ref 169, .int (nI (2 * e)), .int m] M (fun r M' => r = none ∧ RR M' (push (yB B e 0 (dropT m (zB B e 0).1, m)) (1 - e) f) ∧ Chg M M' mP no2 ∧ lastS M' (1 - e) (zP B (1 - e)).length sl) := by
  refine (ct_rbnd h.1 (t := 2 * e) (by omega) (h.tb he (g := 0) (by decide)) h0).post ?_
  rintro r M' ⟨rfl, hB, c⟩
  exact ⟨rfl, h.yB he (k := 0) (by decide) hB c, mp c fun a j q => by omega, hs.mv c h.1.1 fun a j q => by omega⟩
theorem ct_addM {X : mX} {l : Launch} {M : mM} {B : zA} {e sl mm : Nat} {a v : Int32} {f : zF} (h : RR M (push B (1 - e) f)) (he : e < 2) (hs : lastS M (1 - e) (zP B (1 - e)).length sl) (hmb : (zB B e 0).2 = nI mm) (hmm : mm ≤ 200) : Ct X l uMod_add (rk 2 43) [.ref 169, .int (nI (2 * e)), .int a, .int v] M (fun r M' => r = none ∧ RR M' (push (yB B e 0 (addT (zB B e 0).1 (nI mm) a v, nI mm)) (1 - e) f) ∧ Chg M M' mP no2 ∧ lastS M' (1 - e) (zP B (1 - e)).length sl) := by
  have hb := h.tb he (g := 0) (by decide)
  change TbR M (2 * e + 0) (zB B e 0).1 (zB B e 0).2 at hb
  rw [hmb] at hb
  refine (ct_radd h.1 (t := 2 * e) (by omega) hb hmm).post ?_
  rintro r M' ⟨rfl, hB, c⟩
  exact ⟨rfl, h.yB he (k := 0) (by decide) hB c, mp c fun a j q => by omega, hs.mv c h.1.1 fun a j q => by omega⟩
/-- the end of a stream sent -/
theorem RR.eS {M : mM} {A : zA} {e k : Nat} (h : RR M A) (he : e < 2) (hk : k < 12) (hg : zI A (29 + 80 * e + 5 * k) 1 = 1 ∨ zI A (29 + 80 * e + 5 * k) 1 = 3) {z : Int32} (hz : z = 0 ∨ z = 1) : RR (setI M 185 (12 * e + k) z) (if z = 0 then A else endS A e k) := by
  obtain ⟨g1, g2, g3, g4, g5⟩ := h.stk he hk
  have c : Chg M (setI M 185 (12 * e + k) z) (fun a j => 183 ≤ a ∧ a ≤ 186 ∧ j = 12 * e + k) no2 := Chg.rf.setI (Or.inl ⟨by omega, by omega, rfl⟩)
  have r0 : Ropened (setI M 185 (12 * e + k) z) (12 * e + k) = Ropened M (12 * e + k) := sI_a (by decide)
  have r1 : Rcut (setI M 185 (12 * e + k) z) (12 * e + k) = Rcut M (12 * e + k) := sI_a (by decide)
  have r2 : RsentEnd (setI M 185 (12 * e + k) z) (12 * e + k) = z := sI_s
  have r3 : RgotEnd (setI M 185 (12 * e + k) z) (12 * e + k) = RgotEnd M (12 * e + k) := sI_a (by decide)
  rcases hz with rfl | rfl
  · rw [if_pos rfl]
    refine h.fl (f := zI A) he hk (fun _ _ _ => rfl) c ?_ (fun q => q) g3 rfl rfl
    rw [r0, r1, r2, r3]
    rcases hg with q | q
    · rcases g1 with w | w | w | w | w | w <;> first | exact absurd (w.1.symm.trans q) (by decide) | exact Or.inr (Or.inl ⟨w.1, w.2.1, w.2.2.1, w.2.2.2.1, rfl, w.2.2.2.2.2⟩)
    · rcases g1 with w | w | w | w | w | w <;> first | exact absurd (w.1.symm.trans q) (by decide) | exact Or.inr (Or.inr (Or.inr (Or.inl ⟨w.1, w.2.1, w.2.2.1, w.2.2.2.1, rfl, w.2.2.2.2.2⟩)))
  · rw [if_neg (by decide)]
    unfold endS
    rcases hg with q | q
    · rw [if_pos q]
      refine h.fl (f := up2 (zI A) (29 + 80 * e + 5 * k) 1 2) he hk (fun a j p => up2_a p) c ?_ (fun w => absurd (up2_same.symm.trans w) (by decide)) (fun _ => by rw [up2_k (by decide), up2_k (by decide)]; exact g3 (Or.inl q)) (up2_k (by decide)) (up2_k (by decide))
      rw [r0, r1, r2, r3, up2_same, up2_k (by decide)]
      rcases g1 with w | w | w | w | w | w <;> first | exact absurd (w.1.symm.trans q) (by decide) | exact Or.inr (Or.inr (Or.inl ⟨rfl, w.2.1, w.2.2.1, w.2.2.2.1, rfl, w.2.2.2.2.2⟩))
    · rw [if_neg (by rw [q]; decide)]
      refine h.fl (f := up2 (zI A) (29 + 80 * e + 5 * k) 1 4) he hk (fun a j p => up2_a p) c ?_ (fun w => absurd (up2_same.symm.trans w) (by decide)) (fun w => by rcases w with w | w | w <;> exact absurd (up2_same.symm.trans w) (by decide)) (up2_k (by decide)) (up2_k (by decide))
      rw [r0, r1, r2, r3, up2_same, up2_k (by decide)]
      rcases g1 with w | w | w | w | w | w <;> first | exact absurd (w.1.symm.trans q) (by decide) | exact Or.inr (Or.inr (Or.inr (Or.inr (Or.inl ⟨rfl, w.2.1, w.2.2.1, w.2.2.2.1, rfl, w.2.2.2.2.2⟩))))
theorem RR.ts0 {M : mM} {A : zA} {e : Nat} (h : RR M A) (he : e < 2) : RR (setI M 207 e 0) (yI A (14 + 80 * e) 1 0) := by
  obtain ⟨⟨a1, a2, a3⟩, ⟨b1, b2⟩, c1, d1, e1⟩ := h.se he
  have u : ∀ a j, a ≠ 207 → mI (setI M 207 e 0) a j = mI M a j := fun a j q => up2_a q
  have w : ∀ a j, a ≠ 14 + 80 * e → up2 (zI A) (14 + 80 * e) 1 0 a j = zI A a j := fun a j q => up2_a q
  refine h.yN (f := up2 (zI A) (14 + 80 * e) 1 0) he (fun a j _ _ p _ => up2_a p) (Chg.rf.setI (Or.inl (Or.inr ⟨by omega, by omega, rfl⟩))) ⟨⟨(u _ _ (by decide)).trans (a1.trans (w _ _ (by omega)).symm), (u _ _ (by decide)).trans (a2.trans (w _ _ (by omega)).symm), (u _ _ (by decide)).trans (a3.trans (w _ _ (by omega)).symm)⟩, ⟨(u _ _ (by decide)).trans (b1.trans (w _ _ (by omega)).symm), (u _ _ (by decide)).trans (b2.trans (w _ _ (by omega)).symm)⟩, ?_, fun q => absurd up2_same q, (u _ _ (by decide)).trans (e1.trans (w _ _ (by omega)).symm)⟩ (u _ _ (by decide)) (u _ _ (by decide))
  show up2 _ 207 e 0 207 e = up2 _ _ _ _ _ _
  rw [up2_same, up2_same]

/-! ===== queues and payloads as lists of bytes ===== -/
/-- a new row of bytes, never changed again -/
def PayC (M : mM) (b : Nat) (L : List Int32) : Prop := 223 ≤ b ∧ b < mN M ∧ mT M b = (101, L.length) ∧ ∀ j x, L[j]? = some x → mI M b j = sb x
def QC (M : mM) (q r N : Nat) (L : List Int32) : Prop := mI M q 1 = nI L.length ∧ L.length ≤ N ∧ ∀ j x, L[j]? = some x → mI M r j = sb x
theorem QC.mv {M M' : mM} {q r N : Nat} {L : List Int32} {PI PR : Nat → Nat → Prop} (h : QC M q r N L) (c : Chg M M' PI PR) (hq : q < mN M) (hr : r < mN M) (n1 : ¬ PI q 1) (n2 : ∀ j, ¬ PI r j) : QC M' q r N L := ⟨(c.2.2.1 q 1 hq n1).trans h.1, h.2.1, fun j x hx => (c.2.2.1 r j hr (n2 j)).trans (h.2.2 j x hx)⟩
theorem PayC.mv {M M' : mM} {b : Nat} {L : List Int32} {PI PR : Nat → Nat → Prop} (h : PayC M b L) (c : Chg M M' PI PR) (n : ∀ a k, PI a k → a < 223) : PayC M' b L := ⟨h.1, Nat.lt_of_lt_of_le h.2.1 c.1, (c.2.1 b h.2.1).trans h.2.2.1, fun j x hx => (c.2.2.1 b j h.2.1 fun q => by have := n _ _ q; have := h.1; omega).trans (h.2.2.2 j x hx)⟩
theorem sbF {M : mM} {r : Nat} {L : List Int32} (h : ∀ j x, L[j]? = some x → mI M r j = sb x) {i : Nat} (hi : i < L.length) : fits .byte (.int (mI M r i)) = true := by
  rw [h i L[i] (List.getElem?_eq_getElem hi)]
  exact sb_fits _
section QUE
variable {X : mX} {l : Launch} {M : mM} {q r N : Nat} {L : List Int32}
theorem ct_take {n : Int32} (hq : (mT M q).1 = 9) (hr : mR M q 0 = some r) (hT : mT M r = (101, N)) (hqN : q < mN M) (hrN : r < mN M) (hN : N < 2 ^ 31) (h9 : 8 < N) (hM : 223 ≤ mN M) (h : QC M q r N L) (h8 : tkn n L.length ≤ 8) : Ct X l uBQ_take (rn 2 62 1 8) [.ref q, .int n] M (fun v M' => v = some (.ref (mN M)) ∧ PayC M' (mN M) (L.take (tkn n L.length)) ∧ QC M' q r N (L.drop (tkn n L.length)) ∧ Chg M M' (fun a k => (a = q ∧ k = 1) ∨ a = r) no2) := by
  have hle := tkn_le n L.length
  have hqr : q ≠ r := fun e => by subst e; rw [hT] at hq; exact absurd hq (by show ¬ (101 : Nat) = 9; decide)
  refine (ct_BQ_take hq hr hT hqN hrN h.1 h.2.1 hN h8 h9 (fun i hi => sbF h.2.2 hi)).post ?_
  rintro v M' ⟨rfl, rfl⟩
  generalize tkn n L.length = t at *
  have ne1 : mN M ≠ q := by omega
  have ne2 : mN M ≠ r := by omega
  refine ⟨rfl, ⟨hM, Nat.lt_succ_self _, ?_, fun j x hx => ?_⟩, ⟨?_, by rw [List.length_drop]; have := h.2.1; omega, fun j x hx => ?_⟩, ?_⟩
  · rw [List.length_take, Nat.min_eq_left hle]
    exact mT_new M 101 t
  · rw [mI_setI, up2_a ne1, mI_cpy_ne ne2, mI_cpy]
    have hj : j < t := by have := (List.getElem?_eq_some_iff.mp hx).1; rw [List.length_take] at this; omega
    have : va_cpy (mI (newM M 101 t) r) (mI (newM M 101 t) (mN M)) 0 0 t j = mI (newM M 101 t) r j := by
      unfold va_cpy
      rw [if_pos (by omega)]
      congr 1
      omega
    rw [this, mI_new_ne (Nat.ne_of_lt hrN)]
    rw [List.getElem?_take_of_lt hj] at hx
    exact h.2.2 j x hx
  · rw [mI_setI, up2_same, List.length_drop]
  · rw [mI_setI, up2_a (Ne.symm hqr), mI_cpy]
    rw [List.getElem?_drop] at hx
    have hj := (List.getElem?_eq_some_iff.mp hx).1
    have : va_cpy (mI (cpyI (newM M 101 t) r (mN M) 0 0 t) r) (mI (cpyI (newM M 101 t) r (mN M) 0 0 t) r) t 0 (L.length - t) j = mI (cpyI (newM M 101 t) r (mN M) 0 0 t) r (t + j) := by
      unfold va_cpy
      rw [if_pos (by omega)]
      congr 1
    rw [this, mI_cpy_ne (Ne.symm ne2), mI_new_ne (Nat.ne_of_lt hrN)]
    exact h.2.2 _ x hx
  · exact ((Chg.rf.new.cpy (Or.inr (Nat.le_refl _))).cpy (Or.inl fun _ => Or.inr rfl)).setI (Or.inl (Or.inl ⟨rfl, rfl⟩))
theorem ct_addQ {b : Nat} {K : List Int32} (hq : (mT M q).1 = 9) (hr : mR M q 0 = some r) (hT : mT M r = (101, N)) (hqN : q < mN M) (hrN : r < mN M) (hN : N < 2 ^ 31) (hr2 : r < 223) (h : QC M q r N L) (hp : PayC M b K) (hn : L.length + K.length ≤ N) : Ct X l uBQ_add (rk 1 40) [.ref q, .ref b] M (fun v M' => v = none ∧ QC M' q r N (L ++ K) ∧ Chg M M' (fun a k => (a = q ∧ k = 1) ∨ a = r) no2) := by
  have hqr : q ≠ r := fun e => by subst e; rw [hT] at hq; exact absurd hq (by show ¬ (101 : Nat) = 9; decide)
  refine (ct_BQ_add hq hr hT hqN hrN h.1 h.2.1 hN hp.2.2.1 hn (fun i hi => sbF hp.2.2.2 hi)).post ?_
  rintro v M' ⟨rfl, rfl⟩
  refine ⟨rfl, ⟨?_, by rw [List.length_append]; omega, fun j x hx => ?_⟩, (Chg.rf.cpy (Or.inl fun _ => Or.inr rfl)).setI (Or.inl (Or.inl ⟨rfl, rfl⟩))⟩
  · rw [mI_setI, up2_same, List.length_append]
  · rw [mI_setI, up2_a (Ne.symm hqr), mI_cpy]
    unfold va_cpy
    by_cases hj : j < L.length
    · rw [if_neg (by omega)]
      rw [List.getElem?_append_left hj] at hx
      exact h.2.2 j x hx
    · rw [List.getElem?_append_right (by omega)] at hx
      have h2 := (List.getElem?_eq_some_iff.mp hx).1
      rw [if_pos (by omega), Nat.zero_add]
      exact hp.2.2.2 _ x hx
theorem ct_dropQ (hq : (mT M q).1 = 9) (h : QC M q r N L) : Ct X l uBQ_dropAll (rk 0 0) [.ref q] M (fun v M' => v = some (.int (nI L.length)) ∧ QC M' q r N [] ∧ Chg M M' (fun a k => (a = q ∧ k = 1)) no2) := by
  refine (ct_BQ_dropAll hq).post ?_
  rintro v M' ⟨rfl, rfl⟩
  refine ⟨by rw [h.1], ⟨up2_same, Nat.zero_le _, fun j x hx => by simp at hx⟩, Chg.rf.setI (Or.inl ⟨rfl, rfl⟩)⟩
end QUE

/-! ===== the class: frames made and put into a pipe ===== -/
/-- cells of the class -/
def cP (a _ : Nat) : Prop := a < 169
def push (A : zA) (p : Nat) (f : zF) : zA := yP A p (zP A p ++ [f])
section PSH
variable {X : mX} {l : Launch} {M M' : mM} {A : zA} {e : Nat} {f : zF}
theorem RC.grow (h : RC M A) (c : Chg M M' no2 no2) : RC M' A := h.far c (fun _ _ q => q.elim) fun _ _ q => q
theorem fr_chg {kd s am fl d : Int32} {pl bl : Option Nat} : Chg M (frM (newM M 12 7) (mN M) kd s am fl d pl bl) no2 no2 :=
  have q : ∀ P : Prop, P ∨ mN M ≤ mN M := fun _ => Or.inr (Nat.le_refl _)
  ((((((Chg.rf.new.setI (q _)).setI (q _)).setI (q _)).setI (q _)).setI (q _)).setR (q _)).setR (q _)
theorem fr_new {kd s am fl d : Int32} {pl bl : Option Nat} {by_ : List Int32} {S : List (Int32 × Int32 × Int32 × Int32)} (hN : 223 ≤ mN M) (h0 : kd = 0 → ∃ b, pl = some b ∧ PayC M b by_) (h1 : kd = 1 → ∃ b, bl = some b ∧ BlkC 223 M b S) : FrC (frM (newM M 12 7) (mN M) kd s am fl d pl bl) (mN M) (kd, s, am, fl, d, by_, S) := by
  have n1 : ∀ a k, no2 a k → a < 223 := fun _ _ q => q.elim
  refine ⟨hN, Nat.lt_succ_self _, nT, ?_, ?_, ?_, ?_, ?_, fun q => ?_, fun q => ?_⟩
  iterate 5 (unfold frM; simp [mI_setR, mI_setI, up2])
  · obtain ⟨b, g1, g2⟩ := h0 q
    exact ⟨b, by unfold frM; simp [mR_setR, up2, g1], g2.mv fr_chg n1⟩
  · obtain ⟨b, g1, g2⟩ := h1 q
    exact ⟨b, by unfold frM; simp [mR_setR, up2, g1], g2.mv fr_chg n1 n1⟩
theorem ct_addR {a : Nat} (h : RC M A) (he : e < 2) (hf : FrC M a f) (hn : (zP A (1 - e)).length < 47) : Ct X l uPipe_add (rk 0 0) [.ref (6 - 2 * e), .ref a] M (fun r M' => r = none ∧ RC M' (push A (1 - e) f) ∧ Chg M M' cP cP) := by
  obtain ⟨h0, h1, h2, h3, h4, h5, h6, h7, h8, h9⟩ := h
  have hN := h0.1
  obtain ⟨i, p1, p2, p3, p4, p5⟩ := h3 (1 - e) (by omega)
  have e4 : 4 + 2 * (1 - e) = 6 - 2 * e := by omega
  have e5 : 5 + 2 * (1 - e) = 7 - 2 * e := by omega
  refine (ct_addO h0 he hf.2.2.1 (by rw [← e4]; exact p3) (by rw [← e4]; exact p4) p1 p2).post ?_
  rintro r M' ⟨rfl, rfl⟩
  have c : Chg M (qPut M (1 - e) i (zP A (1 - e)).length a) (fun b k => b = 4 + 2 * (1 - e) ∧ k = 2) (fun b k => b = 5 + 2 * (1 - e)) := by
    unfold qPut
    exact Chg.setI (Chg.setR Chg.rf (Or.inl rfl)) (Or.inl ⟨rfl, rfl⟩)
  have n1 : ∀ b k, (b = 4 + 2 * (1 - e) ∧ k = 2) → b < 223 := fun b k q => by omega
  have n2 : ∀ b (k : Nat), b = 5 + 2 * (1 - e) → b < 223 := fun b k q => by omega
  refine ⟨rfl, ⟨h0.mv c fun b k q _ => by unfold mvR; omega, fun b j hs => ?_, fun d hd => (h2 d hd).mv c hN hd fun b j q => by omega, fun d hd => ?_, fun d k hd hk => (h4 d k hd hk).mv c (by omega) (by omega) (by omega) (by omega), fun d k hd hk => (h5 d k hd hk).mv c (by omega) (by omega) (by omega) (by omega), fun d k hd hk => (h6 d k hd hk).mv c hN hd hk n1 fun b j q => by omega, fun d g hd hg => (h7 d g hd hg).mv c hN hd hg fun b j q => by omega, fun d hd => (h8 d hd).mv c hN hd fun b j q => by omega, fun d hd => (h9 d hd).mv c hN hd fun b j q => by omega⟩, c.mono (fun b k q => by unfold cP; omega) fun b k q => by unfold cP; omega⟩
  · rw [c.2.2.1 b j (by have := hs.2.1; omega) fun q => by have := hs.1; omega]
    exact h1 b j hs
  · by_cases q : d = 1 - e
    · subst q
      show PipeC _ _ (upf (zP A) (1 - e) (zP A (1 - e) ++ [f]) (1 - e))
      rw [upf_same]
      refine ⟨i, p1, by rw [List.length_append]; exact Nat.succ_lt_succ hn, ?_, ?_, fun j g hg => ?_⟩
      · unfold qPut
        rw [mI_setI, up2_k (by decide), mI_setR]
        exact p3
      · unfold qPut
        rw [mI_setI, up2_same, List.length_append]
        rfl
      · by_cases hj : j < (zP A (1 - e)).length
        · rw [List.getElem?_append_left hj] at hg
          obtain ⟨b, g1, g2⟩ := p5 j g hg
          refine ⟨b, ?_, g2.mv c n1 n2⟩
          unfold qPut
          rw [mR_setI, mR_setR, up2_k (by omega)]
          exact g1
        · rw [List.getElem?_append_right (by omega)] at hg
          have h1 := (List.getElem?_eq_some_iff.mp hg).1
          have hj2 : j = (zP A (1 - e)).length := by simp at h1; omega
          subst hj2
          simp at hg
          subst hg
          refine ⟨a, ?_, hf.mv c n1 n2⟩
          unfold qPut
          rw [mR_setI, mR_setR, up2_same]
    · show PipeC _ _ (upf (zP A) (1 - e) (zP A (1 - e) ++ [f]) d)
      rw [upf_ne q]
      exact (h3 d hd).mv c hN hd (fun b j q => by omega) fun b j q => by omega
end PSH

/-! ===== the class's side of the state along changes ===== -/
section RC2
variable {M M' : mM} {PI PR : Nat → Nat → Prop} {A : zA}
theorem Shp.mv (h : Shp M) (c : Chg M M' PI PR) (n2 : ∀ a k, PR a k → a < 223 → mvR a k) : Shp M' :=
  ⟨Nat.le_trans h.1 c.1, fun a ha => (c.2.1 a (Nat.lt_of_lt_of_le ha h.1)).trans (h.2.1 a ha), fun a k ha hk => (c.2.2.2.2 a k (Nat.lt_of_lt_of_le ha h.1) fun q => hk (n2 a k q ha)).trans (h.2.2 a k ha hk)⟩
/-- what does not touch the class's cells -/
theorem RC.far (h : RC M A) (c : Chg M M' PI PR) (n1 : ∀ a k, PI a k → 169 ≤ a ∧ a < 223) (n2 : ∀ a k, PR a k → False) : RC M' A := by
  obtain ⟨h0, h1, h2, h3, h4, h5, h6, h7, h8, h9⟩ := h
  have hN := h0.1
  refine ⟨h0.mv c fun a k q => (n2 a k q).elim, fun a j hs => ?_, fun e he => (h2 e he).mv c hN he fun a j q => ?_, fun e he => (h3 e he).mv c hN he (fun a j q => ?_) fun a j q => (n2 a j q).elim, fun e k he hk => (h4 e k he hk).mv c (by omega) (by omega) (fun q => ?_) fun j q => ?_, fun e k he hk => (h5 e k he hk).mv c (by omega) (by omega) (fun q => ?_) fun j q => ?_, fun e k he hk => (h6 e k he hk).mv c hN he hk (fun a j q => (n1 a j q).2) fun a j q => (n2 a j q).elim, fun e g he hg => (h7 e g he hg).mv c hN he hg fun a j q => ?_, fun e he => (h8 e he).mv c hN he fun a j q => ?_, fun e he => (h9 e he).mv c hN he fun a j q => ?_⟩
  · rw [c.2.2.1 a j (by have := hs.2.1; omega) fun q => by have := n1 _ _ q; have := hs.2.1; omega]
    exact h1 a j hs
  all_goals have := n1 _ _ q; omega
/-- a single number is set -/
theorem RC.yI {a j : Nat} {v : Int32} (h : RC M A) (hs : sc a j) : RC (setI M a j v) (yI A a j v) := by
  obtain ⟨h0, h1, h2, h3, h4, h5, h6, h7, h8, h9⟩ := h
  have hN := h0.1
  have c : Chg M (setI M a j v) (fun b i => b = a ∧ i = j) no2 := Chg.rf.setI (Or.inl ⟨rfl, rfl⟩)
  unfold sc at hs
  refine ⟨h0.mv c fun a k q => q.elim, fun b i hb => ?_, fun e he => (h2 e he).mv c hN he fun b i q => ?_, fun e he => (h3 e he).mv c hN he (fun b i q => ?_) fun b i q => q.elim, fun e k he hk => (h4 e k he hk).mv c (by omega) (by omega) (fun q => ?_) fun i q => ?_, fun e k he hk => (h5 e k he hk).mv c (by omega) (by omega) (fun q => ?_) fun i q => ?_, fun e k he hk => (h6 e k he hk).mv c hN he hk (fun b i q => ?_) fun b i q => q.elim, fun e g he hg => (h7 e g he hg).mv c hN he hg fun b i q => ?_, fun e he => (h8 e he).mv c hN he fun b i q => ?_, fun e he => (h9 e he).mv c hN he fun b i q => ?_⟩
  · show up2 (mI M) a j v b i = up2 (zI A) a j v b i
    unfold up2
    by_cases q : b = a ∧ i = j
    · rw [if_pos q, if_pos q]
    · rw [if_neg q, if_neg q]
      exact h1 b i hb
  all_goals obtain ⟨q1, q2⟩ := q; omega
end RC2

/-! ===== the class's side: queues ===== -/
theorem sc_E {e j : Nat} (he : e < 2) (hj : j = 3 ∨ j = 4 ∨ j = 5 ∨ j = 15 ∨ j = 16) : sc (9 + 80 * e) j := by unfold sc; omega
theorem sc_S {e k j : Nat} (he : e < 2) (hk : k < 12) (h1 : 1 ≤ j) (h6 : j ≤ 6) : sc (29 + 80 * e + 5 * k) j := by unfold sc; omega
theorem sc_T {e j : Nat} (he : e < 2) (hj : j < 3) : sc (25 + 80 * e) j := by unfold sc; omega
theorem sc_F {e j : Nat} (he : e < 2) (hj : j < 3) : sc (26 + 80 * e) j := by unfold sc; omega
theorem sc_N {e j : Nat} (he : e < 2) (h1 : 1 ≤ j) (h3 : j ≤ 3) : sc (14 + 80 * e) j := by unfold sc; omega
theorem sc_D {e : Nat} (he : e < 2) : sc (19 + 80 * e) 1 := by unfold sc; omega
section RC3
variable {M M' : mM} {A : zA} {e k : Nat}
theorem RC.yW {L : List Int32} (h : RC M A) (he : e < 2) (hk : k < 12) (c : Chg M M' (fun a j => (a = 30 + 80 * e + 5 * k ∧ j = 1) ∨ a = 31 + 80 * e + 5 * k) no2) (hq : QC M' (30 + 80 * e + 5 * k) (31 + 80 * e + 5 * k) 32 L) : RC M' (yW A e k L) := by
  obtain ⟨h0, h1, h2, h3, h4, h5, h6, h7, h8, h9⟩ := h
  have hN := h0.1
  refine ⟨h0.mv c fun a k q => q.elim, fun b i hb => ?_, fun d hd => (h2 d hd).mv c hN hd fun b i q => ?_, fun d hd => (h3 d hd).mv c hN hd (fun b i q => ?_) fun b i q => q.elim, fun d g hd hg => ?_, fun d g hd hg => (h5 d g hd hg).mv c (by omega) (by omega) (fun q => ?_) fun i q => ?_, fun d g hd hg => (h6 d g hd hg).mv c hN hd hg (fun b i q => ?_) fun b i q => q.elim, fun d g hd hg => (h7 d g hd hg).mv c hN hd hg fun b i q => ?_, fun d hd => (h8 d hd).mv c hN hd fun b i q => ?_, fun d hd => (h9 d hd).mv c hN hd fun b i q => ?_⟩
  · rw [c.2.2.1 b i (by have := hb.2.1; omega) fun q => by unfold sc at hb; omega]
    exact h1 b i hb
  · omega
  · omega
  · show QC M' _ _ 32 (up2 (zW A) e k L d g)
    by_cases q : d = e ∧ g = k
    · obtain ⟨rfl, rfl⟩ := q
      rw [up2_same]
      exact hq
    · rw [up2_ne q]
      exact (h4 d g hd hg).mv c (by omega) (by omega) (by omega) (by omega)
  all_goals omega
theorem RC.yU {U : List (Int32 × Int32)} (h : RC M A) (he : e < 2) (hk : k < 12) (c : Chg M M' (fun a j => (a = 32 + 80 * e + 5 * k ∧ j = 1) ∨ a = 33 + 80 * e + 5 * k) no2) (hq : QC M' (32 + 80 * e + 5 * k) (33 + 80 * e + 5 * k) 40 (unrd U k)) (ho : ∀ g, g < 12 → g ≠ k → unrd U g = unrd (zU A e) g) : RC M' (yU A e U) := by
  obtain ⟨h0, h1, h2, h3, h4, h5, h6, h7, h8, h9⟩ := h
  have hN := h0.1
  refine ⟨h0.mv c fun a k q => q.elim, fun b i hb => ?_, fun d hd => (h2 d hd).mv c hN hd fun b i q => ?_, fun d hd => (h3 d hd).mv c hN hd (fun b i q => ?_) fun b i q => q.elim, fun d g hd hg => (h4 d g hd hg).mv c (by omega) (by omega) (fun q => ?_) fun i q => ?_, fun d g hd hg => ?_, fun d g hd hg => (h6 d g hd hg).mv c hN hd hg (fun b i q => ?_) fun b i q => q.elim, fun d g hd hg => (h7 d g hd hg).mv c hN hd hg fun b i q => ?_, fun d hd => (h8 d hd).mv c hN hd fun b i q => ?_, fun d hd => (h9 d hd).mv c hN hd fun b i q => ?_⟩
  · rw [c.2.2.1 b i (by have := hb.2.1; omega) fun q => by unfold sc at hb; omega]
    exact h1 b i hb
  · omega
  · omega
  · omega
  · omega
  · show QC M' _ _ 40 (unrd (upf (zU A) e U d) g)
    by_cases q : d = e
    · subst q
      rw [upf_same]
      by_cases q2 : g = k
      · subst q2
        exact hq
      · rw [ho g hg q2]
        exact (h5 d g hd hg).mv c (by omega) (by omega) (by omega) (by omega)
    · rw [upf_ne q]
      exact (h5 d g hd hg).mv c (by omega) (by omega) (by omega) (by omega)
  all_goals omega
/-- U without the bytes of stream place k -/
def unU (U : List (Int32 × Int32)) (k : Nat) : List (Int32 × Int32) := U.filter fun x => !(x.1 == nI (2 * k + 1))
theorem unU_k (U : List (Int32 × Int32)) (k : Nat) : unrd (unU U k) k = [] := by
  unfold unrd unU
  rw [List.filter_filter, List.map_eq_nil_iff, List.filter_eq_nil_iff]
  intro x _
  cases hx : x.1 == nI (2 * k + 1) <;> simp
theorem unU_g {U : List (Int32 × Int32)} {k g : Nat} (hg : g < 12) (hk : k < 12) (h : g ≠ k) : unrd (unU U k) g = unrd U g := by
  unfold unrd unU
  rw [List.filter_filter]
  congr 1
  apply List.filter_congr
  intro x _
  by_cases q : x.1 = nI (2 * g + 1)
  · have : ¬ nI (2 * g + 1) = nI (2 * k + 1) := fun e => by have := (nI_eq (by omega) (by omega)).mp e; omega
    simp [q, this]
  · simp [q]
end RC3

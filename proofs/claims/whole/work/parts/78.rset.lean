
theorem yI_yII {A B : zA} {a j : Nat} {v : Int32} (h : B.2 = A.2) : yI B a j v = yII A (zI (yI B a j v)) := by
  unfold yII
  rw [← h]
  rfl
theorem mvW_2 {A : zA} {e j : Nat} {c : Int32} : ∀ n, (mvW A e j c n).2 = A.2
  | 0 => rfl
  | n + 1 => by
    unfold mvW
    split
    · exact mvW_2 n
    · exact mvW_2 n
/-! ===== the reference over the state: settings ===== -/
theorem acZ_up {A : zA} {e k a j : Nat} {v : Int32} (h : ¬ (29 + 80 * e + 5 * k = a ∧ j = 1)) : acZ (yI A a j v) e k = acZ A e k := by
  unfold acZ
  show (if up2 (zI A) a j v _ 1 = 1 then (1 : Int32) else if up2 (zI A) a j v _ 1 = 2 then 1 else if ¬ up2 (zI A) a j v _ 1 = 3 then 0 else 1) = _
  rw [up2_ne (fun q => h ⟨q.1, q.2.symm⟩)]
theorem mvW_ac {A : zA} {e j k : Nat} {c : Int32} (hj : j ≠ 1) : ∀ n, acZ (mvW A e j c n) e k = acZ A e k
  | 0 => rfl
  | n + 1 => by
    unfold mvW
    split
    · exact mvW_ac hj n
    · rw [acZ_up (fun q => hj q.2)]
      exact mvW_ac hj n
theorem mvW_o {A : zA} {e j a i : Nat} {c : Int32} : ∀ n, (∀ k, k < n → ¬ (a = 29 + 80 * e + 5 * k ∧ i = j)) → zI (mvW A e j c n) a i = zI A a i
  | 0, _ => rfl
  | n + 1, h => by
    unfold mvW
    split
    · exact mvW_o n fun k hk => h k (by omega)
    · show up2 _ _ _ _ a i = _
      rw [up2_ne (h n (Nat.lt_succ_self _))]
      exact mvW_o n fun k hk => h k (by omega)
theorem mvW_k {A : zA} {e j k : Nat} {c : Int32} (hj : j ≠ 1) : ∀ n, k < n → zI (mvW A e j c n) (29 + 80 * e + 5 * k) j = if acZ A e k = 0 then zI A (29 + 80 * e + 5 * k) j else zI A (29 + 80 * e + 5 * k) j + c
  | n + 1, hn => by
    by_cases q : k = n
    · subst q
      unfold mvW
      rw [mvW_ac hj]
      have ho := mvW_o (A := A) (e := e) (j := j) (a := 29 + 80 * e + 5 * k) (i := j) (c := c) k fun g hg q => by omega
      by_cases q2 : acZ A e k = 0
      · rw [if_pos q2, if_pos q2]
        exact ho
      · rw [if_neg q2, if_neg q2]
        show up2 _ _ _ _ _ _ = _
        rw [up2_same, ho]
    · have := mvW_k (A := A) (e := e) (c := c) hj n (by omega : k < n)
      unfold mvW
      split
      · exact this
      · show up2 _ _ _ _ _ _ = _
        rw [up2_ne (by omega)]
        exact this
theorem acZ_1 {A : zA} {e k : Nat} (h : zI A (29 + 80 * e + 5 * k) 1 = 1 ∨ zI A (29 + 80 * e + 5 * k) 1 = 2 ∨ zI A (29 + 80 * e + 5 * k) 1 = 3) : ¬ acZ A e k = 0 := by
  unfold acZ
  rcases h with q | q | q <;> rw [q] <;> decide
theorem mv_eq (o b g v : Int32) : v + b - g = (o + b - g) + (v - o) := by
  rw [Int32.sub_eq_add_neg, Int32.sub_eq_add_neg, Int32.sub_eq_add_neg, Int32.add_comm o b, Int32.add_assoc b o, Int32.add_comm o (-g), ← Int32.add_assoc b, Int32.add_assoc (b + -g), Int32.add_comm v (-o), ← Int32.add_assoc o, Int32.add_right_neg, Int32.zero_add, Int32.add_assoc v, Int32.add_comm v]
section RRF
variable {X : mX} {l : Launch} {M M' : mM} {A : zA} {e k : Nat}
/-- single numbers of settings and coders of an end -/
theorem RR.ySe {f : Nat → Nat → Int32} (h : RR M A) (he : e < 2) (hf : ∀ a j, a ≠ 25 + 80 * e → a ≠ 26 + 80 * e → a ≠ 14 + 80 * e → a ≠ 19 + 80 * e → (∀ k, k < 12 → ¬ (a = 29 + 80 * e + 5 * k ∧ (j = 3 ∨ j = 4))) → f a j = zI A a j) (c : Chg M M' (fun a j => ((a = 205 ∨ a = 206) ∧ 3 * e ≤ j ∧ j < 3 * e + 3) ∨ (207 ≤ a ∧ a ≤ 209 ∧ j = e)) no2) (hq : SeR M' (yII A f) e) (hs : ∀ k, k < 12 → (zI A (29 + 80 * e + 5 * k) 1 = 1 ∨ zI A (29 + 80 * e + 5 * k) 1 = 2 ∨ zI A (29 + 80 * e + 5 * k) 1 = 3) → Rtold M' (3 * e + 2) + Rcredit M (12 * e + k) - Rsent M (12 * e + k) = f (29 + 80 * e + 5 * k) 3 ∧ Rforce M' (3 * e + 2) + Rback M (12 * e + k) - Rgot M (12 * e + k) = f (29 + 80 * e + 5 * k) 4) : RR M' (yII A f) := by
  obtain ⟨h0, h1, h2, ⟨r, r1, r2, r3⟩, h4, h5, h6, h7, h8, h9, h10, h11⟩ := h
  have hN := h0.1
  refine ⟨h0.mv c fun a k q => q.elim, fun d hd => ?_, fun d hd => ?_, ?_, fun d hd => (h4 d hd).mv c hN fun a j q => by omega, fun d g hd hg => ?_, fun d g hd hg => (h6 d g hd hg).mv c hN fun a j q => by omega, fun d hd => (h7 d hd).mv c hN fun a j q => by omega, fun d g hd hg => (h8 d g hd hg).mv c hN fun a j q => by omega, fun d g hd hg => (h9 d g hd hg).mv c hN fun a j q => by omega, fun d hd => (h10 d hd).mv c hN fun a j q => by omega, fun d hd => (h11 d hd).mv c hN fun a j q => by omega⟩
  · have := (h1 d hd).mv c hN fun a j q => by omega
    unfold ScR at this ⊢
    show _ = f _ 3 ∧ _ = f _ 4 ∧ _ = f _ 16
    rw [hf _ 3 (by omega) (by omega) (by omega) (by omega) (fun k hk => by omega), hf _ 4 (by omega) (by omega) (by omega) (by omega) (fun k hk => by omega), hf _ 16 (by omega) (by omega) (by omega) (by omega) (fun k hk => by omega)]
    exact this
  · by_cases q : d = e
    · subst q
      exact hq
    · have := (h2 d hd).mv c hN fun a j q => by omega
      have w : ∀ b j, (b = 25 ∨ b = 26 ∨ b = 14 ∨ b = 19) → f (b + 80 * d) j = zI A (b + 80 * d) j := fun b j hb => hf _ j (by omega) (by omega) (by omega) (by omega) (fun k hk => by omega)
      unfold SeR at this ⊢
      show (_ = f _ 0 ∧ _ = f _ 1 ∧ _ = f _ 2) ∧ (_ = f _ 1 ∧ _ = f _ 2) ∧ _ = f _ 1 ∧ (¬ f _ 1 = 0 → _ = f _ 3 ∧ _ = f _ 2) ∧ _ = f _ 1
      rw [w 26 0 (by omega), w 26 1 (by omega), w 26 2 (by omega), w 25 1 (by omega), w 25 2 (by omega), w 14 1 (by omega), w 14 2 (by omega), w 14 3 (by omega), w 19 1 (by omega)]
      exact this
  · refine RqR.mv (A := yII A f) ⟨r, r1, r2, ?_⟩ c hN fun a j q => by omega
    show f 9 15 = _
    rw [hf 9 15 (by omega) (by omega) (by omega) (by omega) (fun k hk => by omega)]
    exact r3
  · by_cases q : d = e
    · subst q
      obtain ⟨g1, g2, g3, g4, g5⟩ := h5 d g hd hg
      have u : ∀ a, a ≤ 193 → mI M' a (12 * d + g) = mI M a (12 * d + g) := fun a p => c.2.2.1 a _ (by omega) (by omega)
      have w : ∀ j, j ≠ 3 → j ≠ 4 → f (29 + 80 * d + 5 * g) j = zI A (29 + 80 * d + 5 * g) j := fun j p1 p2 => hf _ j (by omega) (by omega) (by omega) (by omega) (fun k hk => by omega)
      unfold StR Ropened Rcut RsentEnd RgotEnd Rsent Rcredit Rgot Rback Rresponded RlastSaid
      show stR (f _ 1) (f _ 2) _ _ _ _ ∧ (f _ 1 = 0 → _) ∧ (f _ 1 = 1 ∨ f _ 1 = 2 ∨ f _ 1 = 3 → _ = f _ 3 ∧ _ = f _ 4) ∧ (d = 1 → _ = f _ 5) ∧ _ = f _ 6
      rw [w 1 (by decide) (by decide), w 2 (by decide) (by decide), w 5 (by decide) (by decide), w 6 (by decide) (by decide), u 183 (by omega), u 184 (by omega), u 185 (by omega), u 186 (by omega), u 188 (by omega), u 189 (by omega), u 190 (by omega), u 191 (by omega), u 192 (by omega), u 193 (by omega)]
      exact ⟨g1, g2, fun q => hs g hg q, g4, g5⟩
    · have := (h5 d g hd hg).mv c hN fun a j q => by omega
      have w : ∀ j, f (29 + 80 * d + 5 * g) j = zI A (29 + 80 * d + 5 * g) j := fun j => hf _ j (by omega) (by omega) (by omega) (by omega) (fun k hk => by omega)
      unfold StR at this ⊢
      show stR (f _ 1) (f _ 2) _ _ _ _ ∧ (f _ 1 = 0 → _) ∧ (f _ 1 = 1 ∨ f _ 1 = 2 ∨ f _ 1 = 3 → _ = f _ 3 ∧ _ = f _ 4) ∧ (d = 1 → _ = f _ 5) ∧ _ = f _ 6
      rw [w 1, w 2, w 3, w 4, w 5, w 6]
      exact this
/-- the first window in force or told, and the windows of the streams with it -/
theorem RR.fw0 {v : Int32} {F : Nat → Nat → Int32} (h : RR M A) (he : e < 2) (hI : ∀ a i, ¬ (a = 26 + 80 * e ∧ i = 2) → (∀ k, k < 12 → ¬ (a = 29 + 80 * e + 5 * k ∧ i = 4)) → F a i = zI A a i) (h2 : F (26 + 80 * e) 2 = v) (h4 : ∀ k, k < 12 → ¬ acZ A e k = 0 → F (29 + 80 * e + 5 * k) 4 = zI A (29 + 80 * e + 5 * k) 4 + (v - zI A (26 + 80 * e) 2)) : RR (setI M 205 (3 * e + 2) v) (yII A F) := by
  obtain ⟨⟨a1, a2, a3⟩, ⟨b1, b2⟩, c1, d1, e1⟩ := h.se he
  have u : ∀ a j, ¬ (a = 205 ∧ j = 3 * e + 2) → mI (setI M 205 (3 * e + 2) v) a j = mI M a j := fun a j q => up2_ne q
  refine h.ySe he (fun a j p1 p2 p3 p4 p5 => hI a j (fun q => p2 q.1) (fun k hk q => p5 k hk ⟨q.1, Or.inr q.2⟩)) (Chg.rf.setI (Or.inl (Or.inl ⟨Or.inl rfl, by omega, by omega⟩))) ?_ fun k hk q => ?_
  · refine ⟨⟨?_, ?_, ?_⟩, ⟨?_, ?_⟩, ?_, fun q => ⟨?_, ?_⟩, ?_⟩
    · exact (u 205 _ (by omega)).trans (a1.trans (hI _ _ (by omega) (by omega)).symm)
    · exact (u 205 _ (by omega)).trans (a2.trans (hI _ _ (by omega) (by omega)).symm)
    · exact sI_s.trans h2.symm
    · exact (u 206 _ (by omega)).trans (b1.trans (hI _ _ (by omega) (by omega)).symm)
    · exact (u 206 _ (by omega)).trans (b2.trans (hI _ _ (by omega) (by omega)).symm)
    · exact (u 207 _ (by omega)).trans (c1.trans (hI _ _ (by omega) (by omega)).symm)
    · have q' : ¬ zI A (14 + 80 * e) 1 = 0 := fun z => q ((hI _ _ (by omega) (by omega)).trans z)
      exact (u 206 _ (by omega)).trans ((d1 q').1.trans (hI _ _ (by omega) (by omega)).symm)
    · have q' : ¬ zI A (14 + 80 * e) 1 = 0 := fun z => q ((hI _ _ (by omega) (by omega)).trans z)
      exact (u 208 _ (by omega)).trans ((d1 q').2.trans (hI _ _ (by omega) (by omega)).symm)
    · exact (u 209 _ (by omega)).trans (e1.trans (hI _ _ (by omega) (by omega)).symm)
  · obtain ⟨w1, w2⟩ := (h.stk he hk).2.2.1 q
    refine ⟨?_, ?_⟩
    · rw [hI _ 3 (by omega) (fun g hg => by omega), ← w1]
      rfl
    · show mI (setI M 205 (3 * e + 2) v) 205 (3 * e + 2) + _ - _ = _
      rw [sI_s, h4 k hk (acZ_1 q), ← w2, a3]
      exact mv_eq _ _ _ _
theorem RR.fw {v : Int32} (h : RR M A) (he : e < 2) : RR (setI M 205 (3 * e + 2) v) (yI (mvW A e 4 (v - zI A (26 + 80 * e) 2) 12) (26 + 80 * e) 2 v) := by
  rw [yI_yII (mvW_2 12)]
  refine h.fw0 he (fun a i q1 q2 => ?_) zI_s fun k hk q => ?_
  · have := mvW_o (A := A) (e := e) (j := 4) (c := v - zI A (26 + 80 * e) 2) 12 q2
    generalize mvW A e 4 (v - zI A (26 + 80 * e) 2) 12 = B at *
    exact (up2_ne q1).trans this
  · have := mvW_k (A := A) (e := e) (j := 4) (c := v - zI A (26 + 80 * e) 2) (by decide) 12 hk
    rw [if_neg q] at this
    generalize mvW A e 4 (v - zI A (26 + 80 * e) 2) 12 = B at *
    exact (zI_a (by omega)).trans this
theorem RR.tw0 {v : Int32} {F : Nat → Nat → Int32} (h : RR M A) (he : e < 2) (hI : ∀ a i, ¬ (a = 25 + 80 * e ∧ i = 2) → (∀ k, k < 12 → ¬ (a = 29 + 80 * e + 5 * k ∧ i = 3)) → F a i = zI A a i) (h2 : F (25 + 80 * e) 2 = v) (h4 : ∀ k, k < 12 → ¬ acZ A e k = 0 → F (29 + 80 * e + 5 * k) 3 = zI A (29 + 80 * e + 5 * k) 3 + (v - zI A (25 + 80 * e) 2)) : RR (setI M 206 (3 * e + 2) v) (yII A F) := by
  obtain ⟨⟨a1, a2, a3⟩, ⟨b1, b2⟩, c1, d1, e1⟩ := h.se he
  have u : ∀ a j, ¬ (a = 206 ∧ j = 3 * e + 2) → mI (setI M 206 (3 * e + 2) v) a j = mI M a j := fun a j q => up2_ne q
  refine h.ySe he (fun a j p1 p2 p3 p4 p5 => hI a j (fun q => p1 q.1) (fun k hk q => p5 k hk ⟨q.1, Or.inl q.2⟩)) (Chg.rf.setI (Or.inl (Or.inl ⟨Or.inr rfl, by omega, by omega⟩))) ?_ fun k hk q => ?_
  · refine ⟨⟨?_, ?_, ?_⟩, ⟨?_, ?_⟩, ?_, fun q => ⟨?_, ?_⟩, ?_⟩
    · exact (u 205 _ (by omega)).trans (a1.trans (hI _ _ (by omega) (by omega)).symm)
    · exact (u 205 _ (by omega)).trans (a2.trans (hI _ _ (by omega) (by omega)).symm)
    · exact (u 205 _ (by omega)).trans (a3.trans (hI _ _ (by omega) (by omega)).symm)
    · exact (u 206 _ (by omega)).trans (b1.trans (hI _ _ (by omega) (by omega)).symm)
    · exact sI_s.trans h2.symm
    · exact (u 207 _ (by omega)).trans (c1.trans (hI _ _ (by omega) (by omega)).symm)
    · have q' : ¬ zI A (14 + 80 * e) 1 = 0 := fun z => q ((hI _ _ (by omega) (by omega)).trans z)
      exact (u 206 _ (by omega)).trans ((d1 q').1.trans (hI _ _ (by omega) (by omega)).symm)
    · have q' : ¬ zI A (14 + 80 * e) 1 = 0 := fun z => q ((hI _ _ (by omega) (by omega)).trans z)
      exact (u 208 _ (by omega)).trans ((d1 q').2.trans (hI _ _ (by omega) (by omega)).symm)
    · exact (u 209 _ (by omega)).trans (e1.trans (hI _ _ (by omega) (by omega)).symm)
  · obtain ⟨w1, w2⟩ := (h.stk he hk).2.2.1 q
    refine ⟨?_, ?_⟩
    · show mI (setI M 206 (3 * e + 2) v) 206 (3 * e + 2) + _ - _ = _
      rw [sI_s, h4 k hk (acZ_1 q), ← w1, b2]
      exact mv_eq _ _ _ _
    · rw [hI _ 4 (by omega) (fun g hg => by omega), ← w2]
      rfl
theorem RR.tw {v : Int32} (h : RR M A) (he : e < 2) : RR (setI M 206 (3 * e + 2) v) (yI (mvW A e 3 (v - zI A (25 + 80 * e) 2) 12) (25 + 80 * e) 2 v) := by
  rw [yI_yII (mvW_2 12)]
  refine h.tw0 he (fun a i q1 q2 => ?_) zI_s fun k hk q => ?_
  · have := mvW_o (A := A) (e := e) (j := 3) (c := v - zI A (25 + 80 * e) 2) 12 q2
    generalize mvW A e 3 (v - zI A (25 + 80 * e) 2) 12 = B at *
    exact (up2_ne q1).trans this
  · have := mvW_k (A := A) (e := e) (j := 3) (c := v - zI A (25 + 80 * e) 2) (by decide) 12 hk
    rw [if_neg q] at this
    generalize mvW A e 3 (v - zI A (25 + 80 * e) 2) 12 = B at *
    exact (zI_a (by omega)).trans this
/-- single numbers of settings and coders that move no window -/
theorem RR.yN {f : Nat → Nat → Int32} (h : RR M A) (he : e < 2) (hf : ∀ a j, a ≠ 25 + 80 * e → a ≠ 26 + 80 * e → a ≠ 14 + 80 * e → a ≠ 19 + 80 * e → f a j = zI A a j) (c : Chg M M' (fun a j => ((a = 205 ∨ a = 206) ∧ 3 * e ≤ j ∧ j < 3 * e + 3) ∨ (207 ≤ a ∧ a ≤ 209 ∧ j = e)) no2) (hq : SeR M' (yII A f) e) (t2 : Rtold M' (3 * e + 2) = Rtold M (3 * e + 2)) (f2 : Rforce M' (3 * e + 2) = Rforce M (3 * e + 2)) : RR M' (yII A f) := by
  refine h.ySe he (fun a j p1 p2 p3 p4 _ => hf a j p1 p2 p3 p4) c hq fun k hk q => ?_
  rw [t2, f2, hf _ 3 (by omega) (by omega) (by omega) (by omega), hf _ 4 (by omega) (by omega) (by omega) (by omega)]
  exact (h.stk he hk).2.2.1 q
end RRF
/-! what the setting's place is -/
theorem pl_1 : plA 1 = 0 := by decide
theorem pl_3 : plA 3 = 1 := by decide
theorem pl_4 : plA 4 = 2 := by decide
theorem RR.t1 {M : mM} {A : zA} {e : Nat} {v : Int32} (h : RR M A) (he : e < 2) : RR (setI M 206 (3 * e + 1) v) (yI A (25 + 80 * e) 1 v) := by
  obtain ⟨⟨a1, a2, a3⟩, ⟨b1, b2⟩, c1, d1, e1⟩ := h.se he
  have u : ∀ a j, ¬ (a = 206 ∧ j = 3 * e + 1) → mI (setI M 206 (3 * e + 1) v) a j = mI M a j := fun a j q => up2_ne q
  have w : ∀ a j, ¬ (a = 25 + 80 * e ∧ j = 1) → up2 (zI A) (25 + 80 * e) 1 v a j = zI A a j := fun a j q => up2_ne q
  refine h.yN (f := up2 (zI A) (25 + 80 * e) 1 v) he (fun a j p1 _ _ _ => up2_a p1) (Chg.rf.setI (Or.inl (Or.inl ⟨Or.inr rfl, by omega, by omega⟩))) ?_ (u _ _ (by omega)) (u _ _ (by omega))
  refine ⟨⟨(u _ _ (by omega)).trans (a1.trans (w _ _ (by omega)).symm), (u _ _ (by omega)).trans (a2.trans (w _ _ (by omega)).symm), (u _ _ (by omega)).trans (a3.trans (w _ _ (by omega)).symm)⟩, ⟨?_, (u _ _ (by omega)).trans (b2.trans (w _ _ (by omega)).symm)⟩, (u _ _ (by omega)).trans (c1.trans (w _ _ (by omega)).symm), fun q => ?_, (u _ _ (by omega)).trans (e1.trans (w _ _ (by omega)).symm)⟩
  · show up2 _ _ _ _ _ _ = up2 _ _ _ _ _ _
    rw [up2_same, up2_same]
  · have q' : ¬ zI A (14 + 80 * e) 1 = 0 := fun z => q ((w _ _ (by omega)).trans z)
    exact ⟨(u _ _ (by omega)).trans ((d1 q').1.trans (w _ _ (by omega)).symm), (u _ _ (by omega)).trans ((d1 q').2.trans (w _ _ (by omega)).symm)⟩
theorem RR.f1 {M : mM} {A : zA} {e : Nat} {v : Int32} (h : RR M A) (he : e < 2) : RR (setI M 205 (3 * e + 1) v) (yI A (26 + 80 * e) 1 v) := by
  obtain ⟨⟨a1, a2, a3⟩, ⟨b1, b2⟩, c1, d1, e1⟩ := h.se he
  have u : ∀ a j, ¬ (a = 205 ∧ j = 3 * e + 1) → mI (setI M 205 (3 * e + 1) v) a j = mI M a j := fun a j q => up2_ne q
  have w : ∀ a j, ¬ (a = 26 + 80 * e ∧ j = 1) → up2 (zI A) (26 + 80 * e) 1 v a j = zI A a j := fun a j q => up2_ne q
  refine h.yN (f := up2 (zI A) (26 + 80 * e) 1 v) he (fun a j _ p1 _ _ => up2_a p1) (Chg.rf.setI (Or.inl (Or.inl ⟨Or.inl rfl, by omega, by omega⟩))) ?_ (u _ _ (by omega)) (u _ _ (by omega))
  refine ⟨⟨(u _ _ (by omega)).trans (a1.trans (w _ _ (by omega)).symm), ?_, (u _ _ (by omega)).trans (a3.trans (w _ _ (by omega)).symm)⟩, ⟨(u _ _ (by omega)).trans (b1.trans (w _ _ (by omega)).symm), (u _ _ (by omega)).trans (b2.trans (w _ _ (by omega)).symm)⟩, (u _ _ (by omega)).trans (c1.trans (w _ _ (by omega)).symm), fun q => ?_, (u _ _ (by omega)).trans (e1.trans (w _ _ (by omega)).symm)⟩
  · show up2 _ _ _ _ _ _ = up2 _ _ _ _ _ _
    rw [up2_same, up2_same]
  · have q' : ¬ zI A (14 + 80 * e) 1 = 0 := fun z => q ((w _ _ (by omega)).trans z)
    exact ⟨(u _ _ (by omega)).trans ((d1 q').1.trans (w _ _ (by omega)).symm), (u _ _ (by omega)).trans ((d1 q').2.trans (w _ _ (by omega)).symm)⟩
theorem RR.f0 {M : mM} {A : zA} {e : Nat} {v z : Int32} (h : RR M A) (he : e < 2) : RR (setI (setI M 209 e z) 205 (3 * e + 0) v) (yI (yI A (19 + 80 * e) 1 z) (26 + 80 * e) 0 v) := by
  obtain ⟨⟨a1, a2, a3⟩, ⟨b1, b2⟩, c1, d1, e1⟩ := h.se he
  have u : ∀ a j, ¬ (a = 205 ∧ j = 3 * e + 0) → ¬ (a = 209 ∧ j = e) → mI (setI (setI M 209 e z) 205 (3 * e + 0) v) a j = mI M a j := fun a j q q2 => (up2_ne q).trans (up2_ne q2)
  have w : ∀ a j, ¬ (a = 26 + 80 * e ∧ j = 0) → ¬ (a = 19 + 80 * e ∧ j = 1) → up2 (up2 (zI A) (19 + 80 * e) 1 z) (26 + 80 * e) 0 v a j = zI A a j := fun a j q q2 => (up2_ne q).trans (up2_ne q2)
  refine h.yN (f := up2 (up2 (zI A) (19 + 80 * e) 1 z) (26 + 80 * e) 0 v) he (fun a j _ p1 _ p2 => (up2_a p1).trans (up2_a p2)) ((Chg.rf.setI (Or.inl (Or.inr ⟨by omega, by omega, rfl⟩))).setI (Or.inl (Or.inl ⟨Or.inl rfl, by omega, by omega⟩))) ?_ (u _ _ (by omega) (by omega)) (u _ _ (by omega) (by omega))
  refine ⟨⟨?_, (u _ _ (by omega) (by omega)).trans (a2.trans (w _ _ (by omega) (by omega)).symm), (u _ _ (by omega) (by omega)).trans (a3.trans (w _ _ (by omega) (by omega)).symm)⟩, ⟨(u _ _ (by omega) (by omega)).trans (b1.trans (w _ _ (by omega) (by omega)).symm), (u _ _ (by omega) (by omega)).trans (b2.trans (w _ _ (by omega) (by omega)).symm)⟩, (u _ _ (by omega) (by omega)).trans (c1.trans (w _ _ (by omega) (by omega)).symm), fun q => ?_, ?_⟩
  · show up2 _ _ _ _ _ _ = up2 _ _ _ _ _ _
    rw [Nat.add_zero, up2_same, up2_same]
  · have q' : ¬ zI A (14 + 80 * e) 1 = 0 := fun z => q ((w _ _ (by omega) (by omega)).trans z)
    exact ⟨(u _ _ (by omega) (by omega)).trans ((d1 q').1.trans (w _ _ (by omega) (by omega)).symm), (u _ _ (by omega) (by omega)).trans ((d1 q').2.trans (w _ _ (by omega) (by omega)).symm)⟩
  · show mI (setI (setI M 209 e z) 205 _ v) 209 e = zI (yI (yI A _ _ _) _ _ _) _ _
    rw [sI_a (by decide), sI_s, zI_a (by omega), zI_s]

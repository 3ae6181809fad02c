/-! ===== the reference's side: reads, single numbers, pushes ===== -/
section RRD
variable {X : mX} {l : Launch} {M M' : mM} {A : zA} {e k : Nat}
theorem RR.dn (h : RR M A) (he : e < 2) : Rdowns M e = zI A (9 + 80 * e) 3 := (h.2.1 e he).1
theorem RR.ls (h : RR M A) (he : e < 2) : 40 + RlinkCredit M e - RlinkSent M e = zI A (9 + 80 * e) 4 := (h.2.1 e he).2.1
theorem RR.ld (h : RR M A) (he : e < 2) : RlastData M e = zI A (9 + 80 * e) 16 := (h.2.1 e he).2.2
theorem RR.pc (h : RR M A) (he : e < 2) : Rcount M e = nI (zP A e).length := by obtain ⟨_, _, _, _, q, _⟩ := h.2.2.2.2.1 e he; exact q
theorem RR.pl (h : RR M A) (he : e < 2) : (zP A e).length < 48 := by obtain ⟨_, _, q, _⟩ := h.2.2.2.2.1 e he; exact q
theorem RR.stk (h : RR M A) (he : e < 2) (hk : k < 12) : StR M A e k := h.2.2.2.2.2.1 e k he hk
theorem RR.wt (h : RR M A) (he : e < 2) (hk : k < 12) : WtR M (12 * e + k) (zW A e k) := h.2.2.2.2.2.2.1 e k he hk
theorem RR.un (h : RR M A) (he : e < 2) : UnR M e (zU A e) := h.2.2.2.2.2.2.2.1 e he
theorem RR.lst (h : RR M A) (he : e < 2) (hk : k < 12) : LsR M (12 * e + k) (zL A e k) := h.2.2.2.2.2.2.2.2.1 e k he hk
theorem RR.tb {g : Nat} (h : RR M A) (he : e < 2) (hg : g < 2) : TbR M (2 * e + g) (zB A e g).1 (zB A e g).2 := h.2.2.2.2.2.2.2.2.2.1 e g he hg
theorem RR.mk (h : RR M A) (he : e < 2) : MkR M e (zK A e) := h.2.2.2.2.2.2.2.2.2.2.1 e he
theorem RR.pd (h : RR M A) (he : e < 2) : PdR M e (zD A e) := h.2.2.2.2.2.2.2.2.2.2.2 e he
theorem RR.se (h : RR M A) (he : e < 2) : SeR M A e := h.2.2.1 e he
theorem stR_st {s c op cu se ge : Int32} (h : stR s c op cu se ge) : (if op = 0 then (0 : Int32) else if ¬ cu = 0 then 4 else if ¬ se = 0 ∧ ¬ ge = 0 then 4 else if ¬ se = 0 then 2 else if ¬ ge = 0 then 3 else 1) = s := by
  rcases h with ⟨rfl, _, rfl, rfl, rfl, rfl⟩ | ⟨rfl, _, rfl, rfl, rfl, rfl⟩ | ⟨rfl, _, rfl, rfl, rfl, rfl⟩ | ⟨rfl, _, rfl, rfl, rfl, rfl⟩ | ⟨rfl, _, rfl, rfl, rfl, rfl⟩ | ⟨rfl, _, rfl, rfl, _, _⟩
  all_goals first | decide | (rw [if_neg (by decide), if_pos (by decide)])
theorem RR.sta (h : RR M A) (he : e < 2) (hk : k < 12) : stA M (12 * e + k) = zI A (29 + 80 * e + 5 * k) 1 := stR_st (h.stk he hk).1
theorem RR.opn (h : RR M A) (he : e < 2) (hk : k < 12) : Ropened M (12 * e + k) = 0 ↔ zI A (29 + 80 * e + 5 * k) 1 = 0 := by
  rcases (h.stk he hk).1 with ⟨q1, q2, q3, q4, q5, q6⟩ | ⟨q1, q2, q3, q4, q5, q6⟩ | ⟨q1, q2, q3, q4, q5, q6⟩ | ⟨q1, q2, q3, q4, q5, q6⟩ | ⟨q1, q2, q3, q4, q5, q6⟩ | ⟨q1, q2, q3, q4, q5, q6⟩ <;> rw [q1, q3] <;> decide
theorem ac_eq : ∀ s : Int32, (s = 0 ∨ s = 1 ∨ s = 2 ∨ s = 3 ∨ s = 4) → (if s < 1 then (0 : Int32) else if 3 < s then 0 else 1) = (if s = 1 then 1 else if s = 2 then 1 else if ¬ s = 3 then 0 else 1) := by
  rintro s (rfl | rfl | rfl | rfl | rfl) <;> decide
theorem stR_5 {s c op cu se ge : Int32} (h : stR s c op cu se ge) : s = 0 ∨ s = 1 ∨ s = 2 ∨ s = 3 ∨ s = 4 := by
  rcases h with ⟨q, _⟩ | ⟨q, _⟩ | ⟨q, _⟩ | ⟨q, _⟩ | ⟨q, _⟩ | ⟨q, _⟩ <;> simp [q]
theorem RR.s5 (h : RR M A) (he : e < 2) (hk : k < 12) : zI A (29 + 80 * e + 5 * k) 1 = 0 ∨ zI A (29 + 80 * e + 5 * k) 1 = 1 ∨ zI A (29 + 80 * e + 5 * k) 1 = 2 ∨ zI A (29 + 80 * e + 5 * k) 1 = 3 ∨ zI A (29 + 80 * e + 5 * k) 1 = 4 := stR_5 (h.stk he hk).1
theorem RR.ac (h : RR M A) (he : e < 2) (hk : k < 12) : acA M (12 * e + k) = acZ A e k := by
  unfold acA acZ
  rw [h.sta he hk]
  exact ac_eq _ (h.s5 he hk)
theorem RR.cnt (h : RR M A) (he : e < 2) : ∀ n, n ≤ 12 → cntA M e n = cntZ A e n
  | 0, _ => rfl
  | n + 1, hn => by
    unfold cntA cntZ
    rw [h.cnt he n (by omega), h.ac he (by omega)]
/-- the places of single numbers that RR speaks of -/
def rSc (a j : Nat) : Prop := ∃ e, e < 2 ∧ ((a = 9 + 80 * e ∧ (j = 3 ∨ j = 4 ∨ j = 15 ∨ j = 16)) ∨ (a = 25 + 80 * e ∧ (j = 1 ∨ j = 2)) ∨ (a = 26 + 80 * e ∧ j < 3) ∨ (a = 14 + 80 * e ∧ 1 ≤ j ∧ j ≤ 3) ∨ (a = 19 + 80 * e ∧ j = 1) ∨ ∃ k, k < 12 ∧ a = 29 + 80 * e + 5 * k ∧ 1 ≤ j ∧ j ≤ 6)
def yII (A : zA) (f : Nat → Nat → Int32) : zA := (f, A.2)
/-- single numbers that RR does not speak of -/
theorem RR.cg {f : Nat → Nat → Int32} (h : RR M A) (hf : ∀ a j, rSc a j → f a j = zI A a j) : RR M (yII A f) := by
  obtain ⟨h0, h1, h2, ⟨r, r1, r2, r3⟩, h4, h5, h6, h7, h8, h9, h10, h11⟩ := h
  refine ⟨h0, fun e he => ?_, fun e he => ?_, ⟨r, r1, r2, ?_⟩, h4, fun e k he hk => ?_, h6, h7, h8, h9, h10, h11⟩
  · have := h1 e he
    unfold ScR at this ⊢
    show _ = f _ 3 ∧ _ = f _ 4 ∧ _ = f _ 16
    rw [hf _ 3 ⟨e, he, by omega⟩, hf _ 4 ⟨e, he, by omega⟩, hf _ 16 ⟨e, he, by omega⟩]
    exact this
  · have := h2 e he
    unfold SeR at this ⊢
    show (_ = f _ 0 ∧ _ = f _ 1 ∧ _ = f _ 2) ∧ (_ = f _ 1 ∧ _ = f _ 2) ∧ _ = f _ 1 ∧ (¬ f _ 1 = 0 → _ = f _ 3 ∧ _ = f _ 2) ∧ _ = f _ 1
    rw [hf (26 + 80 * e) 0 ⟨e, he, by omega⟩, hf (26 + 80 * e) 1 ⟨e, he, by omega⟩, hf (26 + 80 * e) 2 ⟨e, he, by omega⟩, hf (25 + 80 * e) 1 ⟨e, he, by omega⟩, hf (25 + 80 * e) 2 ⟨e, he, by omega⟩, hf (14 + 80 * e) 1 ⟨e, he, by omega⟩, hf (14 + 80 * e) 2 ⟨e, he, by omega⟩, hf (14 + 80 * e) 3 ⟨e, he, by omega⟩, hf (19 + 80 * e) 1 ⟨e, he, by omega⟩]
    exact this
  · show f 9 15 = _
    rw [hf 9 15 ⟨0, by omega, by omega⟩]
    exact r3
  · have := h5 e k he hk
    have q : ∀ j, 1 ≤ j → j ≤ 6 → f (29 + 80 * e + 5 * k) j = zI A (29 + 80 * e + 5 * k) j := fun j p1 p2 => hf _ j ⟨e, he, Or.inr (Or.inr (Or.inr (Or.inr (Or.inr ⟨k, hk, rfl, p1, p2⟩))))⟩
    unfold StR at this ⊢
    show stR (f _ 1) (f _ 2) _ _ _ _ ∧ (f _ 1 = 0 → _) ∧ (f _ 1 = 1 ∨ f _ 1 = 2 ∨ f _ 1 = 3 → _ = f _ 3 ∧ _ = f _ 4) ∧ (e = 1 → _ = f _ 5) ∧ _ = f _ 6
    rw [q 1 (by omega) (by omega), q 2 (by omega) (by omega), q 3 (by omega) (by omega), q 4 (by omega) (by omega), q 5 (by omega) (by omega), q 6 (by omega) (by omega)]
    exact this
theorem RR.i5 {v : Int32} (h : RR M A) : RR M (yI A (9 + 80 * e) 5 v) := h.cg (f := up2 (zI A) (9 + 80 * e) 5 v) fun a j hs => up2_ne fun q => by
  obtain ⟨d, hd, hs⟩ := hs
  rcases hs with hs | hs | hs | hs | hs | ⟨k, hk, hs⟩ <;> omega
/-- a stream's own numbers -/
theorem RR.yS {f : Nat → Nat → Int32} (h : RR M A) (he : e < 2) (hk : k < 12) (hf : ∀ a j, a ≠ 29 + 80 * e + 5 * k → f a j = zI A a j) (c : Chg M M' (fun a j => 183 ≤ a ∧ a ≤ 193 ∧ a ≠ 187 ∧ j = 12 * e + k) no2) (hq : StR M' (yII A f) e k) : RR M' (yII A f) := by
  have hcg : ∀ d g, d < 2 → g < 12 → ¬ (d = e ∧ g = k) → StR M A d g → StR M (yII A f) d g := fun d g hd hg hn this => by
    have q : ∀ j, f (29 + 80 * d + 5 * g) j = zI A (29 + 80 * d + 5 * g) j := fun j => hf _ j (by omega)
    unfold StR at this ⊢
    show stR (f _ 1) (f _ 2) _ _ _ _ ∧ (f _ 1 = 0 → _) ∧ (f _ 1 = 1 ∨ f _ 1 = 2 ∨ f _ 1 = 3 → _ = f _ 3 ∧ _ = f _ 4) ∧ (d = 1 → _ = f _ 5) ∧ _ = f _ 6
    rw [q 1, q 2, q 3, q 4, q 5, q 6]
    exact this
  obtain ⟨h0, h1, h2, ⟨r, r1, r2, r3⟩, h4, h5, h6, h7, h8, h9, h10, h11⟩ := h
  have hN := h0.1
  refine ⟨h0.mv c fun a k q => q.elim, fun d hd => ?_, fun d hd => ?_, ?_, fun d hd => (h4 d hd).mv c hN fun a j q => by omega, fun d g hd hg => ?_, fun d g hd hg => (h6 d g hd hg).mv c hN fun a j q => by omega, fun d hd => (h7 d hd).mv c hN fun a j q => by omega, fun d g hd hg => (h8 d g hd hg).mv c hN fun a j q => by omega, fun d g hd hg => (h9 d g hd hg).mv c hN fun a j q => by omega, fun d hd => (h10 d hd).mv c hN fun a j q => by omega, fun d hd => (h11 d hd).mv c hN fun a j q => by omega⟩
  · have := (h1 d hd).mv c hN fun a j q => by omega
    unfold ScR at this ⊢
    show _ = f _ 3 ∧ _ = f _ 4 ∧ _ = f _ 16
    rw [hf _ 3 (by omega), hf _ 4 (by omega), hf _ 16 (by omega)]
    exact this
  · have := (h2 d hd).mv c hN fun a j q => by omega
    unfold SeR at this ⊢
    show (_ = f _ 0 ∧ _ = f _ 1 ∧ _ = f _ 2) ∧ (_ = f _ 1 ∧ _ = f _ 2) ∧ _ = f _ 1 ∧ (¬ f _ 1 = 0 → _ = f _ 3 ∧ _ = f _ 2) ∧ _ = f _ 1
    rw [hf (26 + 80 * d) 0 (by omega), hf (26 + 80 * d) 1 (by omega), hf (26 + 80 * d) 2 (by omega), hf (25 + 80 * d) 1 (by omega), hf (25 + 80 * d) 2 (by omega), hf (14 + 80 * d) 1 (by omega), hf (14 + 80 * d) 2 (by omega), hf (14 + 80 * d) 3 (by omega), hf (19 + 80 * d) 1 (by omega)]
    exact this
  · refine RqR.mv (A := yII A f) ⟨r, r1, r2, ?_⟩ c hN fun a j q => by omega
    show f 9 15 = _
    rw [hf 9 15 (by omega)]
    exact r3
  · by_cases q : d = e ∧ g = k
    · obtain ⟨rfl, rfl⟩ := q
      exact hq
    · exact (hcg d g hd hg q (h5 d g hd hg)).mv c hN fun a j q => by omega
/-- an end's own numbers -/
theorem RR.yE {j : Nat} {v : Int32} (h : RR M A) (he : e < 2) (hj : j = 3 ∨ j = 4 ∨ j = 16) (c : Chg M M' (fun a i => (a = 170 ∨ a = 202 ∨ a = 203 ∨ a = 204) ∧ i = e) no2) (hq : ScR M' (yI A (9 + 80 * e) j v) e) : RR M' (yI A (9 + 80 * e) j v) := by
  obtain ⟨h0, h1, h2, ⟨r, r1, r2, r3⟩, h4, h5, h6, h7, h8, h9, h10, h11⟩ := h
  have hN := h0.1
  have hf : ∀ a i, ¬ (a = 9 + 80 * e ∧ i = j) → zI (yI A (9 + 80 * e) j v) a i = zI A a i := fun a i q => up2_ne q
  refine ⟨h0.mv c fun a k q => q.elim, fun d hd => ?_, fun d hd => ?_, ?_, fun d hd => (h4 d hd).mv c hN fun a j q => by omega, fun d g hd hg => ?_, fun d g hd hg => (h6 d g hd hg).mv c hN fun a j q => by omega, fun d hd => (h7 d hd).mv c hN fun a j q => by omega, fun d g hd hg => (h8 d g hd hg).mv c hN fun a j q => by omega, fun d g hd hg => (h9 d g hd hg).mv c hN fun a j q => by omega, fun d hd => (h10 d hd).mv c hN fun a j q => by omega, fun d hd => (h11 d hd).mv c hN fun a j q => by omega⟩
  · by_cases q : d = e
    · subst q
      exact hq
    · have := (h1 d hd).mv c hN fun a j q => by omega
      unfold ScR at this ⊢
      rw [hf _ 3 (by omega), hf _ 4 (by omega), hf _ 16 (by omega)]
      exact this
  · have := (h2 d hd).mv c hN fun a j q => by omega
    unfold SeR at this ⊢
    rw [hf (26 + 80 * d) 0 (by omega), hf (26 + 80 * d) 1 (by omega), hf (26 + 80 * d) 2 (by omega), hf (25 + 80 * d) 1 (by omega), hf (25 + 80 * d) 2 (by omega), hf (14 + 80 * d) 1 (by omega), hf (14 + 80 * d) 2 (by omega), hf (14 + 80 * d) 3 (by omega), hf (19 + 80 * d) 1 (by omega)]
    exact this
  · refine RqR.mv (A := yI A (9 + 80 * e) j v) ⟨r, r1, r2, ?_⟩ c hN fun a j q => by omega
    rw [hf 9 15 (by omega)]
    exact r3
  · have := (h5 d g hd hg).mv c hN fun a j q => by omega
    unfold StR at this ⊢
    rw [hf (29 + 80 * d + 5 * g) 1 (by omega), hf (29 + 80 * d + 5 * g) 2 (by omega), hf (29 + 80 * d + 5 * g) 3 (by omega), hf (29 + 80 * d + 5 * g) 4 (by omega), hf (29 + 80 * d + 5 * g) 5 (by omega), hf (29 + 80 * d + 5 * g) 6 (by omega)]
    exact this
/-! frames pushed -/
theorem mp {P : Nat → Nat → Prop} (c : Chg M M' P no2) (n : ∀ a j, P a j → 169 ≤ a ∧ a < 223) : Chg M M' mP no2 := c.mono n fun _ _ q => q
def lastS (M : mM) (e n sl : Nat) : Prop := ∃ h, h < 48 ∧ Rhead M e = nI h ∧ sl = 48 * e + (h + n) % 48
theorem by0 (j : Nat) : byR 0 j = 0 := by
  unfold byR
  split
  · have : ∀ j, j < 8 → (ushr 0 (nI (8 * j))).toInt32 &&& 255 = 0 := by decide
    exact this j (by assumption)
  · rfl
theorem ct_pushR {kd s a f : Int32} (h : RR M A) (he : e < 2) (hl : (zP A e).length < 47) (hf : f = 0 ∨ f = 1) (B : List Int32) (h0 : kd = 0 → a = nI B.length ∧ ∀ x, x ∈ B → x = 0) (h1 : kd = 1 → a = 0) : Ct X l uMod_push (rk 0 0) [.ref 169, .int (nI e), .int kd, .int s, .int a, .int f] M (fun r M' => ∃ sl, sl < 96 ∧ r = some (.int (nI sl)) ∧ lastS M' e (zP A e).length sl ∧ RR M' (push A e (kd, s, a, f, 0, B, [])) ∧ Chg M M' mP no2) := by
  obtain ⟨x, x1, x2, x3, x4, x5⟩ := h.2.2.2.2.1 e he
  have hN := h.1.1
  refine (ct_Mod_push h.1 he x3 x4 x1 x2 hf).post ?_
  rintro r M' ⟨rfl, rfl⟩
  have hlt := Nat.mod_lt (x + (zP A e).length) (by decide : 0 < 48)
  generalize hsl : 48 * e + (x + (zP A e).length) % 48 = sl at *
  have c : Chg M (pushM M e x (zP A e).length kd s a f) (fun a j => (171 ≤ a ∧ a ≤ 172 ∧ j = e) ∨ (173 ≤ a ∧ a ≤ 178 ∧ j = sl)) no2 := by
    unfold pushM
    rw [hsl]
    exact ((((((Chg.rf.setI (Or.inl (by omega))).setI (Or.inl (by omega))).setI (Or.inl (by omega))).setI (Or.inl (by omega))).setI (Or.inl (by omega))).setL (Or.inl (by omega))).setI (Or.inl (by omega))
  have hpm : pushM M e x (zP A e).length kd s a f = setI (setL (setI (setI (setI (setI (setI M 173 sl kd) 174 sl s) 175 sl a) 176 sl f) 177 sl 0) 178 sl 0) 172 e (nI ((zP A e).length + 1)) := by
    unfold pushM
    rw [hsl]
  have hIL : ∀ {N : mM} {b j i : Nat} {v : Int64}, mI (setL N 178 j v) b i = mI N b i := rfl
  have e1 : Rhead (pushM M e x (zP A e).length kd s a f) e = nI x := by
    rw [hpm]
    show mI _ 171 e = _
    rw [sI_a (by decide), hIL, sI_a (by decide), sI_a (by decide), sI_a (by decide), sI_a (by decide), sI_a (by decide)]
    exact x3
  refine ⟨sl, by omega, rfl, ⟨x, x1, e1, hsl.symm⟩, h.yP he ?_ (c.mono (fun a j q => by omega) fun _ _ q => q), mp c fun a j q => by omega⟩
  refine ⟨x, x1, by rw [List.length_append]; exact Nat.succ_lt_succ hl, e1, ?_, fun j g hg => ?_⟩
  · rw [hpm, List.length_append]
    exact sI_s
  · by_cases hj : j < (zP A e).length
    · rw [List.getElem?_append_left hj] at hg
      exact (x5 j g hg).mv c hN fun a i q => by omega
    · rw [List.getElem?_append_right (by omega)] at hg
      have h6 := (List.getElem?_eq_some_iff.mp hg).1
      have hj2 : j = (zP A e).length := by simp at h6; omega
      subst hj2
      simp at hg
      subst hg
      rw [hsl]
      have r0 : Rkinds (pushM M e x (zP A e).length kd s a f) sl = kd := by
        rw [hpm]
        show mI _ 173 sl = _
        rw [sI_a (by decide), hIL, sI_a (by decide), sI_a (by decide), sI_a (by decide), sI_a (by decide), sI_s]
      have r1 : Rstreams (pushM M e x (zP A e).length kd s a f) sl = s := by
        rw [hpm]
        show mI _ 174 sl = _
        rw [sI_a (by decide), hIL, sI_a (by decide), sI_a (by decide), sI_a (by decide), sI_s]
      have r2 : Ramounts (pushM M e x (zP A e).length kd s a f) sl = a := by
        rw [hpm]
        show mI _ 175 sl = _
        rw [sI_a (by decide), hIL, sI_a (by decide), sI_a (by decide), sI_s]
      have r3 : Rflags (pushM M e x (zP A e).length kd s a f) sl = f := by
        rw [hpm]
        show mI _ 176 sl = _
        rw [sI_a (by decide), hIL, sI_a (by decide), sI_s]
      have r4 : Rsettings (pushM M e x (zP A e).length kd s a f) sl = 0 := by
        rw [hpm]
        show mI _ 177 sl = _
        rw [sI_a (by decide), hIL, sI_s]
      have r5 : Rloads (pushM M e x (zP A e).length kd s a f) sl = 0 := by
        rw [hpm]
        exact (up2_same : up2 (mL M) 178 sl 0 178 sl = 0)
      refine ⟨r0, r1, r2, r3, fun _ => r4, fun q => ⟨r4, ?_, Nat.zero_le _, rfl, fun j s hs => by simp at hs⟩, fun q => ⟨(h0 q).1, fun j y hy => ?_⟩⟩
      · exact h1 q
      · rw [r5, by0]
        exact (h0 q).2 y (List.mem_of_getElem? hy)
/-- the newest frame is written over -/
theorem rr_last {sl : Nat} {L : List zF} {f g : zF} (h : RR M A) (he : e < 2) (hz : zP A e = L ++ [f]) (hs : lastS M e L.length sl) (c : Chg M M' (fun a j => (173 ≤ a ∧ a ≤ 178 ∧ j = sl) ∨ (179 ≤ a ∧ a ≤ 182 ∧ 8 * sl ≤ j ∧ j < 8 * sl + 8)) no2) (hq : FrR M' sl g) : RR M' (yP A e (L ++ [g])) := by
  obtain ⟨y, y1, y2, y3⟩ := hs
  obtain ⟨x, x1, x2, x3, x4, x5⟩ := h.2.2.2.2.1 e he
  have hN := h.1.1
  rw [hz] at x2 x4 x5
  have hxy : x = y := (nI_eq (by omega) (by omega)).mp (x3.symm.trans y2)
  subst hxy
  rw [List.length_append] at x2
  have hlt := Nat.mod_lt (x + L.length) (by decide : 0 < 48)
  have hl1 : L.length + 1 < 48 := x2
  refine h.yP he ⟨x, x1, by rw [List.length_append]; exact x2, (c.2.2.1 171 e (by omega) (by omega)).trans x3, ?_, fun j w hw => ?_⟩ (c.mono (fun a j q => by omega) fun _ _ q => q)
  · rw [List.length_append] at x4 ⊢
    exact (c.2.2.1 172 e (by omega) (by omega)).trans x4
  · by_cases hj : j < L.length
    · rw [List.getElem?_append_left hj] at hw
      exact (x5 j w (by rw [List.getElem?_append_left hj]; exact hw)).mv c hN fun a i q => by omega
    · rw [List.getElem?_append_right (by omega)] at hw
      have h6 := (List.getElem?_eq_some_iff.mp hw).1
      have hj2 : j = L.length := by simp at h6; omega
      subst hj2
      simp at hw
      subst hw
      rw [← y3]
      exact hq
/-- an end goes down -/
theorem RR.down {v : Int32} (h : RR M A) (he : e < 2) : RR (setI M 170 e v) (yI A (9 + 80 * e) 3 v) := by
  refine h.yE he (Or.inl rfl) (Chg.rf.setI (Or.inl ⟨Or.inl rfl, rfl⟩)) ⟨?_, ?_, ?_⟩
  · show up2 _ 170 e v 170 e = up2 _ _ _ _ _ _
    rw [up2_same, up2_same]
  · show 40 + up2 (mI M) 170 e v 203 e - up2 (mI M) 170 e v 202 e = up2 _ _ _ _ _ _
    rw [up2_a (by decide), up2_a (by decide), up2_k (by decide)]
    exact h.ls he
  · show up2 (mI M) 170 e v 204 e = up2 _ _ _ _ _ _
    rw [up2_a (by decide), up2_k (by decide)]
    exact h.ld he
end RRD
theorem g_memM {X : mX} {l : Launch} {u : mU} {rm : Room} {bc bs : Nat} {M0 M : mM} {A : zA} {pc : Nat} {ls : List (Option Value)} {st : List Value} {Q : Option Value → mM → Prop} (hR : RR M A) (hC : Chg M0 M mP no2) (k : ∀ M', RR M' A → Chg M0 M' mP no2 → G X l u rm bc bs M' pc ls st Q) : G X l u rm bc bs M pc ls st Q := k M hR hC
theorem kM {M M1 : mM} {a j : Nat} {v : Int32} (h : Chg M M1 mP no2) (ha : 169 ≤ a ∧ a < 223) : Chg M (setI M1 a j v) mP no2 := h.setI (Or.inl ha)


theorem ushr_ushr (b : Int64) (x y z : Int32) (s t u : UInt64) (hx : x.toInt64.toUInt64 &&& Int64.toUInt64 63 = s) (hy : y.toInt64.toUInt64 &&& Int64.toUInt64 63 = t) (hz : z.toInt64.toUInt64 &&& Int64.toUInt64 63 = u) (h1 : s.toNat < 64) (h2 : t.toNat < 64) (h3 : u.toNat < 64) (h : u.toNat = s.toNat + t.toNat) : ushr (ushr b x) y = ushr b z := by
  unfold ushr
  rw [hx, hy, hz, UInt64.toUInt64_toInt64]
  congr 1
  apply UInt64.toNat.inj
  rw [UInt64.toNat_shiftRight, UInt64.toNat_shiftRight, UInt64.toNat_shiftRight, Nat.mod_eq_of_lt h1, Nat.mod_eq_of_lt h2, Nat.mod_eq_of_lt h3, h, Nat.shiftRight_add]
theorem sh8 (b : Int64) : ∀ n, n < 8 → shB b n = ushr b (nI (8 * n))
  | 0, _ => by
    show b = ushr b 0
    unfold ushr
    rw [show ((0 : Int32).toInt64.toUInt64 &&& Int64.toUInt64 63) = 0 from by decide]
    simp
  | n + 1, h => by
    show ushr (shB b n) 8 = _
    rw [sh8 b n (by omega)]
    rcases (by omega : n = 0 ∨ n = 1 ∨ n = 2 ∨ n = 3 ∨ n = 4 ∨ n = 5 ∨ n = 6) with rfl | rfl | rfl | rfl | rfl | rfl | rfl
    · exact ushr_ushr b _ _ _ 0 8 8 (by decide) (by decide) (by decide) (by decide) (by decide) (by decide) (by decide)
    · exact ushr_ushr b _ _ _ 8 8 16 (by decide) (by decide) (by decide) (by decide) (by decide) (by decide) (by decide)
    · exact ushr_ushr b _ _ _ 16 8 24 (by decide) (by decide) (by decide) (by decide) (by decide) (by decide) (by decide)
    · exact ushr_ushr b _ _ _ 24 8 32 (by decide) (by decide) (by decide) (by decide) (by decide) (by decide) (by decide)
    · exact ushr_ushr b _ _ _ 32 8 40 (by decide) (by decide) (by decide) (by decide) (by decide) (by decide) (by decide)
    · exact ushr_ushr b _ _ _ 40 8 48 (by decide) (by decide) (by decide) (by decide) (by decide) (by decide) (by decide)
    · exact ushr_ushr b _ _ _ 48 8 56 (by decide) (by decide) (by decide) (by decide) (by decide) (by decide) (by decide)

/-! ===== the calls, the reference over the state: bytes written and read, lists sent ===== -/
theorem sb255 (x : Int32) : sb x &&& 255 = x &&& 255 := by
  unfold sb
  apply Int32.toBitVec_inj.mp
  show (x.toBitVec.signExtend 8).signExtend 32 &&& 255#32 = x.toBitVec &&& 255#32
  apply BitVec.eq_of_getElem_eq
  intro i hi
  have h255 : ∀ i, i < 32 → (255#32).getLsbD i = decide (i < 8) := by decide
  rw [BitVec.getElem_and, BitVec.getElem_and]
  have := h255 i hi
  rw [← BitVec.getLsbD_eq_getElem (x := 255#32)] 
  rw [this]
  by_cases h : i < 8
  · simp [h, hi, BitVec.getElem_signExtend]
  · simp [h]
def shl (a : Int64) (g : Nat) : Int64 := a <<< ((nI (8 * g)).toInt64 &&& 63)
theorem shl_bv (a : Int64) : ∀ g, g < 8 → (shl a g).toBitVec = a.toBitVec <<< (8 * g) := by
  intro g hg
  unfold shl
  rw [Int64.toBitVec_shiftLeft]
  have : ∀ g, g < 8 → (((nI (8 * g)).toInt64 &&& 63).toBitVec.smod 64).toNat = 8 * g := by decide
  show a.toBitVec <<< (((nI (8 * g)).toInt64 &&& 63).toBitVec.smod 64).toNat = _
  rw [this g hg]
theorem shl_or (a b : Int64) (g : Nat) (hg : g < 8) : shl (a ||| b) g = shl a g ||| shl b g := by
  apply Int64.toBitVec_inj.mp
  rw [Int64.toBitVec_or, shl_bv _ g hg, shl_bv _ g hg, shl_bv _ g hg, Int64.toBitVec_or, BitVec.shiftLeft_or_distrib]
theorem shl_shl (a : Int64) (g : Nat) (hg : g + 1 < 8) : shl (shl a 1) g = shl a (g + 1) := by
  apply Int64.toBitVec_inj.mp
  rw [shl_bv _ g (by omega), shl_bv _ 1 (by omega), shl_bv _ (g + 1) hg, ← BitVec.shiftLeft_add]
  congr 1
  omega
theorem shl_0 (a : Int64) : shl a 0 = a := by
  apply Int64.toBitVec_inj.mp
  rw [shl_bv _ 0 (by omega)]
  simp
/-- a byte as a number from 0 to 255 -/
def bW (x : Int32) : Prop := x &&& 255 = x
theorem pkB_sh (x : Int32) (L : List Int32) (h : bW x) : pkB (x :: L) = shl (pkB L) 1 ||| x.toInt64 := by
  show (pkB L <<< ((8 : Int32).toInt64 &&& 63)) ||| (sb x &&& 255).toInt64 = _
  rw [sb255, h]
  rfl
theorem tkP_pk : ∀ (L : List Int32) (g : Nat) (w : Int64), (∀ x, x ∈ L → bW x) → L.length + g ≤ 8 → tkP L g w = if L = [] then w else w ||| shl (pkB L) g
  | [], g, w, _, _ => by
    rw [if_pos rfl]
    rfl
  | x :: L, g, w, hb, hl => by
    rw [if_neg (by simp)]
    rw [List.length_cons] at hl
    have h8 : ¬ 8 ≤ g := by omega
    show tkP L (g + 1) (tk1 w x g) = _
    rw [tkP_pk L (g + 1) _ (fun y hy => hb y (List.mem_cons_of_mem _ hy)) (by omega)]
    unfold tk1
    rw [if_neg h8, pkB_sh x L (hb x (List.mem_cons_self ..)), shl_or _ _ g (by omega)]
    by_cases q : L = []
    · subst q
      rw [if_pos rfl]
      have : shl (shl (pkB []) 1) g = 0 := by
        have h0 : ∀ g, g < 8 → shl (shl (pkB []) 1) g = 0 := by decide
        exact h0 g (by omega)
      rw [this, Int64.zero_or]
      rfl
    · rw [if_neg q]
      have hlen : 0 < L.length := List.length_pos_iff.mpr q
      rw [shl_shl _ g (by omega), Int64.or_assoc]
      congr 1
      rw [Int64.or_comm]
      rfl
theorem tkP_0 {L : List Int32} (hb : ∀ x, x ∈ L → bW x) (hl : L.length ≤ 8) : tkP L 0 0 = pkB L := by
  rw [tkP_pk L 0 0 hb (by omega)]
  by_cases q : L = []
  · subst q
    rw [if_pos rfl]
    rfl
  · rw [if_neg q, shl_0, Int64.zero_or]
section RRH
variable {M M' : mM} {A : zA} {e k : Nat}
theorem RR.s5f {M' : mM} {f : Nat → Nat → Int32} (h : RR M A) (he : e < 2) (hk : k < 12) (hf : ∀ a j, ¬ (a = 29 + 80 * e + 5 * k ∧ (j = 5 ∨ j = 6)) → f a j = zI A a j) (c : Chg M M' (fun a j => (a = 188 ∨ a = 189) ∧ j = 12 * e + k) no2) (h5 : e = 1 → Rresponded M' (12 * e + k) = f (29 + 80 * e + 5 * k) 5) (h6 : RlastSaid M' (12 * e + k) = f (29 + 80 * e + 5 * k) 6) : RR M' (yII A f) := by
  have hN := h.1.1
  have u : ∀ a j, a ≠ 188 → a ≠ 189 → a < 223 → mI M' a j = mI M a j := fun a j p p2 p3 => c.2.2.1 a j (by omega) (by omega)
  obtain ⟨g1, g2, g3, g4, g5⟩ := h.stk he hk
  have w : ∀ j, j ≠ 5 → j ≠ 6 → f (29 + 80 * e + 5 * k) j = zI A (29 + 80 * e + 5 * k) j := fun j p1 p2 => hf _ j (by omega)
  refine h.yS he hk (fun a j q => hf a j (by omega)) (c.mono (fun a j q => by omega) fun _ _ q => q) ?_
  unfold StR Ropened Rcut RsentEnd RgotEnd Rsent Rcredit Rgot Rback Rtold Rforce
  show stR (f _ 1) (f _ 2) _ _ _ _ ∧ (f _ 1 = 0 → _) ∧ (f _ 1 = 1 ∨ f _ 1 = 2 ∨ f _ 1 = 3 → _ = f _ 3 ∧ _ = f _ 4) ∧ (e = 1 → _ = f _ 5) ∧ _ = f _ 6
  rw [w 1 (by decide) (by decide), w 2 (by decide) (by decide), w 3 (by decide) (by decide), w 4 (by decide) (by decide), u 183 _ (by decide) (by decide) (by decide), u 184 _ (by decide) (by decide) (by decide), u 185 _ (by decide) (by decide) (by decide), u 186 _ (by decide) (by decide) (by decide), u 190 _ (by decide) (by decide) (by decide), u 191 _ (by decide) (by decide) (by decide), u 192 _ (by decide) (by decide) (by decide), u 193 _ (by decide) (by decide) (by decide), u 205 _ (by decide) (by decide) (by decide), u 206 _ (by decide) (by decide) (by decide)]
  exact ⟨g1, g2, g3, h5, h6⟩
theorem RR.lsS {z : Int32} (h : RR M A) (he : e < 2) (hk : k < 12) : RR (setI M 189 (12 * e + k) z) (yI A (29 + 80 * e + 5 * k) 6 z) := by
  obtain ⟨g1, g2, g3, g4, g5⟩ := h.stk he hk
  exact h.s5f (f := up2 (zI A) (29 + 80 * e + 5 * k) 6 z) he hk (fun a j q => up2_ne (by omega)) (Chg.rf.setI (Or.inl ⟨Or.inr rfl, rfl⟩)) (fun q => (sI_a (by decide)).trans ((g4 q).trans (up2_k (by decide)).symm)) (sI_s.trans up2_same.symm)
theorem RR.rsS {z : Int32} (h : RR M A) (he : e < 2) (hk : k < 12) : RR (setI M 188 (12 * e + k) z) (yI A (29 + 80 * e + 5 * k) 5 z) := by
  obtain ⟨g1, g2, g3, g4, g5⟩ := h.stk he hk
  exact h.s5f (f := up2 (zI A) (29 + 80 * e + 5 * k) 5 z) he hk (fun a j q => up2_ne (by omega)) (Chg.rf.setI (Or.inl ⟨Or.inl rfl, rfl⟩)) (fun _ => sI_s.trans up2_same.symm) ((sI_a (by decide)).trans (g5.trans (up2_k (by decide)).symm))
theorem RR.hs0 {z : Int32} (h : RR M A) (he : e < 2) (hk : k < 12) (h0 : e = 0) : RR M (yI A (29 + 80 * e + 5 * k) 5 z) := by
  obtain ⟨g1, g2, g3, g4, g5⟩ := h.stk he hk
  exact h.s5f (f := up2 (zI A) (29 + 80 * e + 5 * k) 5 z) he hk (fun a j q => up2_ne (by omega)) Chg.rf (fun q => by omega) (g5.trans (up2_k (by decide)).symm)
/-- one request more -/
theorem RR.rq {r : Nat} (h : RR M A) (hr : r < 12) (hq : zI A 9 15 = nI (2 * r + 1)) : RR (setI M 169 35 (nI (r + 1))) (op1 A 0) := by
  obtain ⟨h0, h1, h2, h3, h4, h5, h6, h7, h8, h9, h10, h11⟩ := h
  have hN := h0.1
  have c : Chg M (setI M 169 35 (nI (r + 1))) (fun a j => a = 169 ∧ j = 35) no2 := Chg.rf.setI (Or.inl ⟨rfl, rfl⟩)
  have hf : ∀ a i, ¬ (a = 9 ∧ i = 15) → zI (op1 A 0) a i = zI A a i := fun a i q => up2_ne (by omega)
  refine ⟨h0.mv c fun a k q => q.elim, fun d hd => ?_, fun d hd => ?_, ⟨r + 1, by omega, sI_s, ?_⟩, fun d hd => (h4 d hd).mv c hN fun a j q => by omega, fun d g hd hg => ?_, fun d g hd hg => (h6 d g hd hg).mv c hN fun a j q => by omega, fun d hd => (h7 d hd).mv c hN fun a j q => by omega, fun d g hd hg => (h8 d g hd hg).mv c hN fun a j q => by omega, fun d g hd hg => (h9 d g hd hg).mv c hN fun a j q => by omega, fun d hd => (h10 d hd).mv c hN fun a j q => by omega, fun d hd => (h11 d hd).mv c hN fun a j q => by omega⟩
  · have := (h1 d hd).mv c hN fun a j q => by omega
    unfold ScR at this ⊢
    rw [hf _ 3 (by omega), hf _ 4 (by omega), hf _ 16 (by omega)]
    exact this
  · have := (h2 d hd).mv c hN fun a j q => by omega
    unfold SeR at this ⊢
    rw [hf (26 + 80 * d) 0 (by omega), hf (26 + 80 * d) 1 (by omega), hf (26 + 80 * d) 2 (by omega), hf (25 + 80 * d) 1 (by omega), hf (25 + 80 * d) 2 (by omega), hf (14 + 80 * d) 1 (by omega), hf (14 + 80 * d) 2 (by omega), hf (14 + 80 * d) 3 (by omega), hf (19 + 80 * d) 1 (by omega)]
    exact this
  · have e2 : zI (op1 A 0) 9 15 = zI A 9 15 + 2 := (up2_same : up2 (zI A) (9 + 80 * 0) 15 _ (9 + 80 * 0) 15 = _)
    rw [e2, hq, show nI (2 * (r + 1) + 1) = nI (2 * r + 1) + nI 2 from by rw [nI_add]; congr 1]
    rfl
  · have := (h5 d g hd hg).mv c hN fun a j q => by omega
    unfold StR at this ⊢
    rw [hf (29 + 80 * d + 5 * g) 1 (by omega), hf (29 + 80 * d + 5 * g) 2 (by omega), hf (29 + 80 * d + 5 * g) 3 (by omega), hf (29 + 80 * d + 5 * g) 4 (by omega), hf (29 + 80 * d + 5 * g) 5 (by omega), hf (29 + 80 * d + 5 * g) 6 (by omega)]
    exact this
end RRH
/-! the list sent: both orders of writing -/
theorem encM_I {A : zA} {e a j : Nat} {v : Int32} (h : a ≠ 14 + 80 * e) : encM (yI A a j v) e = encM A e := by
  unfold encM
  have q : ∀ i, zI (yI A a j v) (14 + 80 * e) i = zI A (14 + 80 * e) i := fun i => zI_a (Ne.symm h)
  rw [q 1, q 2, q 3]
  rfl
theorem slB_I {B : zA} {e k : Nat} {z : Int32} : slB (yI (yI B (29 + 80 * e + 5 * k) 5 1) (29 + 80 * e + 5 * k) 6 z) e k z = yI (sHd1 B e k z) (29 + 80 * e + 5 * k) 6 z := by
  have hM : encM (yI (yI B (29 + 80 * e + 5 * k) 5 1) (29 + 80 * e + 5 * k) 6 z) e = encM B e := by rw [encM_I (by omega), encM_I (by omega)]
  have hB : encB (yI (yI B (29 + 80 * e + 5 * k) 5 1) (29 + 80 * e + 5 * k) 6 z) e = encB B e := by
    unfold encB
    rw [hM]
    rfl
  unfold slB sHd1 encA
  rw [hM, hB]
  have hI : up2 (up2 (up2 (zI B) (29 + 80 * e + 5 * k) 5 1) (29 + 80 * e + 5 * k) 6 z) (14 + 80 * e) 1 0 = up2 (up2 (up2 (zI B) (14 + 80 * e) 1 0) (29 + 80 * e + 5 * k) 5 1) (29 + 80 * e + 5 * k) 6 z := by
    funext a j
    unfold up2
    by_cases q1 : a = 14 + 80 * e ∧ j = 1
    · rw [if_pos q1, if_neg (by omega), if_neg (by omega), if_pos q1]
    · rw [if_neg q1]
      by_cases q2 : a = 29 + 80 * e + 5 * k ∧ j = 6
      · rw [if_pos q2, if_pos q2]
      · rw [if_neg q2, if_neg q2]
        by_cases q3 : a = 29 + 80 * e + 5 * k ∧ j = 5
        · rw [if_pos q3, if_pos q3]
        · rw [if_neg q3, if_neg q3, if_neg q1]
  show (up2 (up2 (up2 (zI B) (29 + 80 * e + 5 * k) 5 1) (29 + 80 * e + 5 * k) 6 z) (14 + 80 * e) 1 0, _) = (up2 (up2 (up2 (zI B) (14 + 80 * e) 1 0) (29 + 80 * e + 5 * k) 5 1) (29 + 80 * e + 5 * k) 6 z, _)
  rw [hI]
  rfl
theorem sHd_eq {B : zA} {e k : Nat} {z : Int32} (hz : z = 0 ∨ z = 1) (h6 : z = 0 → zI B (29 + 80 * e + 5 * k) 6 = 0) : slA (yI (yI B (29 + 80 * e + 5 * k) 5 1) (29 + 80 * e + 5 * k) 6 z) e k z = sHd B e k z := by
  unfold slA sHd
  rw [slB_I]
  rcases hz with rfl | rfl
  · rw [if_pos rfl, if_pos rfl]
    refine yI_same ?_
    unfold sHd1 encA
    show 0 = up2 (up2 (zI B) (14 + 80 * e) 1 0) (29 + 80 * e + 5 * k) 5 1 (29 + 80 * e + 5 * k) 6
    rw [up2_k (by decide), up2_ne (by omega), h6 rfl]
  · rw [if_neg (by decide), if_neg (by decide)]
theorem ct_pushT {X : mX} {l : Launch} {M : mM} {A : zA} {e : Nat} {kd s a f : Int32} (h : RR M A) (he : e < 2) (hl : (zP A e).length < 47) (hf : f = 0 ∨ f = 1) (B : List Int32) (h0 : kd = 0 → a = nI B.length ∧ ∀ x, x ∈ B → x = 0) (h1 : kd = 1 → a = 0) : Ct X l uMod_push (rk 0 0) [.ref 169, .int (nI e), .int kd, .int s, .int a, .int f] M (fun r M' => ∃ sl, sl < 96 ∧ r = some (.int (nI sl)) ∧ lastS M' e (zP A e).length sl ∧ RR M' (push A e (kd, s, a, f, 0, B, [])) ∧ Chg M M' mP no2 ∧ Rtaken M' = Rtaken M) := by
  obtain ⟨x, x1, x2, x3, x4, x5⟩ := h.2.2.2.2.1 e he
  have hN := h.1.1
  refine (ct_Mod_push h.1 he x3 x4 x1 x2 hf).post ?_
  rintro r M' ⟨rfl, rfl⟩
  have hlt := Nat.mod_lt (x + (zP A e).length) (by decide : 0 < 48)
  generalize hsl : 48 * e + (x + (zP A e).length) % 48 = sl at *
  have c : Chg M (pushM M e x (zP A e).length kd s a f) (fun a j => (171 ≤ a ∧ a ≤ 172 ∧ j = e) ∨ (173 ≤ a ∧ a ≤ 178 ∧ j = sl)) no2 := by
    unfold pushM
    rw [hsl]
    exact ((((((Chg.rf.setI (Or.inl (by omega))).setI (Or.inl (by omega))).setI (Or.inl (by omega))).setI (Or.inl (by omega))).setI (Or.inl (by omega))).setL (Or.inl (by omega))).setI (Or.inl (by omega))
  have hpm : pushM M e x (zP A e).length kd s a f = setI (setL (setI (setI (setI (setI (setI M 173 sl kd) 174 sl s) 175 sl a) 176 sl f) 177 sl 0) 178 sl 0) 172 e (nI ((zP A e).length + 1)) := by
    unfold pushM
    rw [hsl]
  have hIL : ∀ {N : mM} {b j i : Nat} {v : Int64}, mI (setL N 178 j v) b i = mI N b i := rfl
  have e1 : Rhead (pushM M e x (zP A e).length kd s a f) e = nI x := by
    rw [hpm]
    show mI _ 171 e = _
    rw [sI_a (by decide), hIL, sI_a (by decide), sI_a (by decide), sI_a (by decide), sI_a (by decide), sI_a (by decide)]
    exact x3
  refine ⟨sl, by omega, rfl, ⟨x, x1, e1, hsl.symm⟩, h.yP he ?_ (c.mono (fun a j q => by omega) fun _ _ q => q), mp c fun a j q => by omega, c.2.2.2.1 169 55 (by omega) (by omega)⟩
  refine ⟨x, x1, by rw [List.length_append]; exact Nat.succ_lt_succ hl, e1, ?_, fun j g hg => ?_⟩
  · rw [hpm, List.length_append]
    exact sI_s
  · by_cases hj : j < (zP A e).length
    · rw [List.getElem?_append_left hj] at hg
      exact (x5 j g hg).mv c hN fun a i q => by omega
    · rw [List.getElem?_append_right (by omega)] at hg
      have h6 := (List.getElem?_eq_some_iff.mp hg).1
      have hj2 : j = (zP A e).length := by simp at h6; omega
      subst hj2
      simp at hg
      subst hg
      rw [hsl]
      have r0 : Rkinds (pushM M e x (zP A e).length kd s a f) sl = kd := by
        rw [hpm]
        show mI _ 173 sl = _
        rw [sI_a (by decide), hIL, sI_a (by decide), sI_a (by decide), sI_a (by decide), sI_a (by decide), sI_s]
      have r1 : Rstreams (pushM M e x (zP A e).length kd s a f) sl = s := by
        rw [hpm]
        show mI _ 174 sl = _
        rw [sI_a (by decide), hIL, sI_a (by decide), sI_a (by decide), sI_a (by decide), sI_s]
      have r2 : Ramounts (pushM M e x (zP A e).length kd s a f) sl = a := by
        rw [hpm]
        show mI _ 175 sl = _
        rw [sI_a (by decide), hIL, sI_a (by decide), sI_a (by decide), sI_s]
      have r3 : Rflags (pushM M e x (zP A e).length kd s a f) sl = f := by
        rw [hpm]
        show mI _ 176 sl = _
        rw [sI_a (by decide), hIL, sI_a (by decide), sI_s]
      have r4 : Rsettings (pushM M e x (zP A e).length kd s a f) sl = 0 := by
        rw [hpm]
        show mI _ 177 sl = _
        rw [sI_a (by decide), hIL, sI_s]
      have r5 : Rloads (pushM M e x (zP A e).length kd s a f) sl = 0 := by
        rw [hpm]
        exact (up2_same : up2 (mL M) 178 sl 0 178 sl = 0)
      refine ⟨r0, r1, r2, r3, fun _ => r4, fun q => ⟨r4, ?_, Nat.zero_le _, rfl, fun j s hs => by simp at hs⟩, fun q => ⟨(h0 q).1, fun j y hy => ?_⟩⟩
      · exact h1 q
      · rw [r5, by0]
        exact (h0 q).2 y (List.mem_of_getElem? hy)
set_option maxRecDepth 100000 in
set_option maxHeartbeats 4000000 in
theorem ct_giveT {X : mX} {l : Launch} {M : mM} {A : zA} {e : Nat} (hR : RR M A) (he : e < 2) {n : Int32} (hp : (zP A (1 - e)).length < 47) : Ct X l uMod_giveBack (rk 1 26) [.ref 169, .int (nI e), .int n] M (fun r M' => r = none ∧ RR M' (give A e n) ∧ Chg M M' mP no2 ∧ Rtaken M' = Rtaken M) := by
  refine Ct.of (by decide) (Nat.le_of_ble_eq_true rfl) ?_
  show G X l uMod_giveBack (rk 1 26) 0 0 M 0 [some (.ref 169), some (.int (nI e)), some (.int n)] [] _
  have hC : Chg M M mP no2 := Chg.rf
  refine g_iload_n 0 dMod_giveBack_0 rfl ?_
  refine g_if_le 1 17 dMod_giveBack_1 rfl (fun h1 => ?_) (fun h1 => ?_)
  · exact g_vret 17 dMod_giveBack_17 rfl ⟨rfl, by first | (rw [give_0 h1]; exact hR) | (rw [give_1 h1]; exact hR.i5), hC, by first | exact ht1 | rfl⟩
  · refine g_aload_n 4 dMod_giveBack_4 rfl ?_
    refine g_iconst 5 (nI 1) dMod_giveBack_5 rfl ?_
    refine g_iload_n 6 dMod_giveBack_6 rfl ?_
    refine g_isubN 7 dMod_giveBack_7 (by omega) ?_
    refine g_bipush 8 8 dMod_giveBack_8 rfl ?_
    refine g_iconst 10 0 dMod_giveBack_10 rfl ?_
    refine g_iload_n 11 dMod_giveBack_11 rfl ?_
    refine g_iconst 12 0 dMod_giveBack_12 rfl ?_
    refine g_callV 13 [_, _, _, _, _] dMod_giveBack_13 cs_Mod_182 rfl (ci := 10) rfl (by decide) hR.1.mod rfl ⟨(Nat.le_of_ble_eq_true rfl), (Nat.le_of_ble_eq_true rfl)⟩ (Nat.le_of_ble_eq_true rfl) (ct_pushT hR (by omega) hp (Or.inl rfl) [] (fun q => absurd q (by decide)) (fun q => absurd q (by decide))) (Nat.le_of_ble_eq_true rfl) (Nat.le_of_ble_eq_true rfl) ?_
    rintro _ M1 ⟨sl, hsl, rfl, hla, hR1, hc, ht1⟩
    have hC1 := hC.tr hc
    refine g_pop 16 dMod_giveBack_16 rfl ?_
    exact g_vret 17 dMod_giveBack_17 rfl ⟨rfl, by first | (rw [give_0 h1]; exact hR1) | (rw [give_1 h1]; exact hR1.i5), hC1, by first | exact ht1 | rfl⟩

theorem RR.backS {M : mM} {A : zA} {e k : Nat} {x : Int32} (h : RR M A) (he : e < 2) (hk : k < 12) (hs : ¬ zI A (29 + 80 * e + 5 * k) 1 = 0) : RR (setI M 193 (12 * e + k) (Rback M (12 * e + k) + x)) (yI A (29 + 80 * e + 5 * k) 4 (zI A (29 + 80 * e + 5 * k) 4 + x)) := by
  refine h.yS (f := up2 (zI A) (29 + 80 * e + 5 * k) 4 (zI A (29 + 80 * e + 5 * k) 4 + x)) he hk (fun a j q => up2_a q) (Chg.rf.setI (Or.inl ⟨by omega, by omega, by omega, rfl⟩)) ?_
  obtain ⟨g1, g2, g3, g4, g5⟩ := h.stk he hk
  have u : ∀ a j, a ≠ 193 → mI (setI M 193 (12 * e + k) (Rback M (12 * e + k) + x)) a j = mI M a j := fun a j q => up2_a q
  have w : ∀ j, j ≠ 4 → up2 (zI A) (29 + 80 * e + 5 * k) 4 (zI A (29 + 80 * e + 5 * k) 4 + x) (29 + 80 * e + 5 * k) j = zI A (29 + 80 * e + 5 * k) j := fun j q => up2_k q
  unfold StR
  show stR (up2 _ _ _ _ _ 1) (up2 _ _ _ _ _ 2) (mI (setI M _ _ _) 183 _) (mI (setI M _ _ _) 184 _) (mI (setI M _ _ _) 185 _) (mI (setI M _ _ _) 186 _) ∧ (up2 _ _ _ _ _ 1 = 0 → _) ∧ (up2 _ _ _ _ _ 1 = 1 ∨ up2 _ _ _ _ _ 1 = 2 ∨ up2 _ _ _ _ _ 1 = 3 → mI (setI M _ _ _) 206 _ + mI (setI M _ _ _) 191 _ - mI (setI M _ _ _) 190 _ = up2 _ _ _ _ _ 3 ∧ mI (setI M _ _ _) 205 _ + mI (setI M _ _ _) 193 _ - mI (setI M _ _ _) 192 _ = up2 _ _ _ _ _ 4) ∧ (e = 1 → mI (setI M _ _ _) 188 _ = up2 _ _ _ _ _ 5) ∧ mI (setI M _ _ _) 189 _ = up2 _ _ _ _ _ 6
  rw [w 1 (by decide), w 2 (by decide), w 3 (by decide), w 5 (by decide), w 6 (by decide), u 183 _ (by decide), u 184 _ (by decide), u 185 _ (by decide), u 186 _ (by decide), u 206 _ (by decide), u 190 _ (by decide), u 205 _ (by decide), u 192 _ (by decide), u 191 _ (by decide), u 188 _ (by decide), u 189 _ (by decide), up2_same]
  refine ⟨g1, fun q => absurd q hs, fun q => ⟨(g3 q).1, ?_⟩, g4, g5⟩
  rw [show mI (setI M 193 (12 * e + k) (Rback M (12 * e + k) + x)) 193 (12 * e + k) = Rback M (12 * e + k) + x from up2_same, add_mid, ← (g3 q).2]
theorem tkn_nat {N c : Nat} (h : N < 2 ^ 31) : tkn (nI N) c = min N c := by
  unfold tkn
  rw [nI_clamp h]
theorem give_I {A : zA} {e a j : Nat} {n : Int32} (h : ¬ (a = 9 + 80 * e ∧ j = 5)) : zI (give A e n) a j = zI A a j := by
  unfold give
  split
  · rfl
  · exact up2_ne h
theorem rd_1 {A : zA} {e k N : Nat} (h7 : N ≤ 7) : rd1 A e k (nI N) = give (yU A e (tkU (zU A e) k N)) e (nI (min N (unrd (zU A e) k).length)) := by
  unfold rd1 rdP
  rw [tkn_nat (by omega), tkU_min, List.length_take, Nat.min_eq_left (Nat.min_le_right _ _)]
theorem rd_P {A : zA} {e k N : Nat} (h7 : N ≤ 7) : rdP A e k (nI N) = (unrd (zU A e) k).take N := by
  unfold rdP
  rw [tkn_nat (by omega)]
  by_cases q : N ≤ (unrd (zU A e) k).length
  · rw [Nat.min_eq_left q]
  · rw [Nat.min_eq_right (by omega), List.take_of_length_le (Nat.le_refl _), List.take_of_length_le (by omega)]
theorem rd_L {A : zA} {e k N : Nat} (h7 : N ≤ 7) : (rdP A e k (nI N)).length = min N (unrd (zU A e) k).length := by
  rw [rd_P h7, List.length_take]
theorem g_memT {X : mX} {l : Launch} {u : mU} {rm : Room} {bc bs : Nat} {M0 M N0 : mM} {A : zA} {pc : Nat} {ls : List (Option Value)} {st : List Value} {Q : Option Value → mM → Prop} (hR : RR M A) (hC : Chg M0 M mP no2) (ht : Rtaken M = Rtaken N0) (k : ∀ M', RR M' A → Chg M0 M' mP no2 → Rtaken M' = Rtaken N0 → G X l u rm bc bs M' pc ls st Q) : G X l u rm bc bs M pc ls st Q := k M hR hC ht

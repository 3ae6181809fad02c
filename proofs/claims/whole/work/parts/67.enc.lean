theorem dEnc_encodeMaximum_0 : decode uEnc_encodeMaximum.2.1 0 = .ok (.aload_n 1, 1) := by decide +kernel
theorem dEnc_encodeMaximum_1 : decode uEnc_encodeMaximum.2.1 1 = .ok (.iconst 0, 1) := by decide +kernel
theorem dEnc_encodeMaximum_2 : decode uEnc_encodeMaximum.2.1 2 = .ok (.iload_n 2, 1) := by decide +kernel
theorem dEnc_encodeMaximum_3 : decode uEnc_encodeMaximum.2.1 3 = .ok (.iconst 0, 1) := by decide +kernel
theorem dEnc_encodeMaximum_4 : decode uEnc_encodeMaximum.2.1 4 = .ok (.iconst 0, 1) := by decide +kernel
theorem dEnc_encodeMaximum_5 : decode uEnc_encodeMaximum.2.1 5 = .ok (.invokevirtual 64, 3) := by decide +kernel
theorem dEnc_encodeMaximum_8 : decode uEnc_encodeMaximum.2.1 8 = .ok (.aload_n 0, 1) := by decide +kernel
theorem dEnc_encodeMaximum_9 : decode uEnc_encodeMaximum.2.1 9 = .ok (.getfield 12, 3) := by decide +kernel
theorem dEnc_encodeMaximum_12 : decode uEnc_encodeMaximum.2.1 12 = .ok (.iload_n 2, 1) := by decide +kernel
theorem dEnc_encodeMaximum_13 : decode uEnc_encodeMaximum.2.1 13 = .ok (.invokevirtual 68, 3) := by decide +kernel
theorem dEnc_encodeMaximum_16 : decode uEnc_encodeMaximum.2.1 16 = .ok (.return_, 1) := by decide +kernel
theorem dEnc_encodeField_0 : decode uEnc_encodeField.2.1 0 = .ok (.iload 4, 2) := by decide +kernel
theorem dEnc_encodeField_2 : decode uEnc_encodeField.2.1 2 = .ok (.ifCond .eq 19, 3) := by decide +kernel
theorem dEnc_encodeField_5 : decode uEnc_encodeField.2.1 5 = .ok (.aload_n 1, 1) := by decide +kernel
theorem dEnc_encodeField_6 : decode uEnc_encodeField.2.1 6 = .ok (.iconst 3, 1) := by decide +kernel
theorem dEnc_encodeField_7 : decode uEnc_encodeField.2.1 7 = .ok (.aload_n 0, 1) := by decide +kernel
theorem dEnc_encodeField_8 : decode uEnc_encodeField.2.1 8 = .ok (.getfield 12, 3) := by decide +kernel
theorem dEnc_encodeField_11 : decode uEnc_encodeField.2.1 11 = .ok (.iload_n 2, 1) := by decide +kernel
theorem dEnc_encodeField_12 : decode uEnc_encodeField.2.1 12 = .ok (.invokevirtual 71, 3) := by decide +kernel
theorem dEnc_encodeField_15 : decode uEnc_encodeField.2.1 15 = .ok (.iload_n 2, 1) := by decide +kernel
theorem dEnc_encodeField_16 : decode uEnc_encodeField.2.1 16 = .ok (.iload_n 3, 1) := by decide +kernel
theorem dEnc_encodeField_17 : decode uEnc_encodeField.2.1 17 = .ok (.invokevirtual 64, 3) := by decide +kernel
theorem dEnc_encodeField_20 : decode uEnc_encodeField.2.1 20 = .ok (.return_, 1) := by decide +kernel
theorem dEnc_encodeField_21 : decode uEnc_encodeField.2.1 21 = .ok (.aload_n 0, 1) := by decide +kernel
theorem dEnc_encodeField_22 : decode uEnc_encodeField.2.1 22 = .ok (.getfield 12, 3) := by decide +kernel
theorem dEnc_encodeField_25 : decode uEnc_encodeField.2.1 25 = .ok (.iload_n 2, 1) := by decide +kernel
theorem dEnc_encodeField_26 : decode uEnc_encodeField.2.1 26 = .ok (.iload_n 3, 1) := by decide +kernel
theorem dEnc_encodeField_27 : decode uEnc_encodeField.2.1 27 = .ok (.invokevirtual 75, 3) := by decide +kernel
theorem dEnc_encodeField_30 : decode uEnc_encodeField.2.1 30 = .ok (.istore 5, 2) := by decide +kernel
theorem dEnc_encodeField_32 : decode uEnc_encodeField.2.1 32 = .ok (.iload 5, 2) := by decide +kernel
theorem dEnc_encodeField_34 : decode uEnc_encodeField.2.1 34 = .ok (.ifCond .eq 13, 3) := by decide +kernel
theorem dEnc_encodeField_37 : decode uEnc_encodeField.2.1 37 = .ok (.aload_n 1, 1) := by decide +kernel
theorem dEnc_encodeField_38 : decode uEnc_encodeField.2.1 38 = .ok (.iconst 1, 1) := by decide +kernel
theorem dEnc_encodeField_39 : decode uEnc_encodeField.2.1 39 = .ok (.iload 5, 2) := by decide +kernel
theorem dEnc_encodeField_41 : decode uEnc_encodeField.2.1 41 = .ok (.iconst 0, 1) := by decide +kernel
theorem dEnc_encodeField_42 : decode uEnc_encodeField.2.1 42 = .ok (.iconst 0, 1) := by decide +kernel
theorem dEnc_encodeField_43 : decode uEnc_encodeField.2.1 43 = .ok (.invokevirtual 64, 3) := by decide +kernel
theorem dEnc_encodeField_46 : decode uEnc_encodeField.2.1 46 = .ok (.return_, 1) := by decide +kernel
theorem dEnc_encodeField_47 : decode uEnc_encodeField.2.1 47 = .ok (.aload_n 1, 1) := by decide +kernel
theorem dEnc_encodeField_48 : decode uEnc_encodeField.2.1 48 = .ok (.iconst 2, 1) := by decide +kernel
theorem dEnc_encodeField_49 : decode uEnc_encodeField.2.1 49 = .ok (.aload_n 0, 1) := by decide +kernel
theorem dEnc_encodeField_50 : decode uEnc_encodeField.2.1 50 = .ok (.getfield 12, 3) := by decide +kernel
theorem dEnc_encodeField_53 : decode uEnc_encodeField.2.1 53 = .ok (.iload_n 2, 1) := by decide +kernel
theorem dEnc_encodeField_54 : decode uEnc_encodeField.2.1 54 = .ok (.invokevirtual 71, 3) := by decide +kernel
theorem dEnc_encodeField_57 : decode uEnc_encodeField.2.1 57 = .ok (.iload_n 2, 1) := by decide +kernel
theorem dEnc_encodeField_58 : decode uEnc_encodeField.2.1 58 = .ok (.iload_n 3, 1) := by decide +kernel
theorem dEnc_encodeField_59 : decode uEnc_encodeField.2.1 59 = .ok (.invokevirtual 64, 3) := by decide +kernel
theorem dEnc_encodeField_62 : decode uEnc_encodeField.2.1 62 = .ok (.aload_n 0, 1) := by decide +kernel
theorem dEnc_encodeField_63 : decode uEnc_encodeField.2.1 63 = .ok (.getfield 12, 3) := by decide +kernel
theorem dEnc_encodeField_66 : decode uEnc_encodeField.2.1 66 = .ok (.iload_n 2, 1) := by decide +kernel
theorem dEnc_encodeField_67 : decode uEnc_encodeField.2.1 67 = .ok (.iload_n 3, 1) := by decide +kernel
theorem dEnc_encodeField_68 : decode uEnc_encodeField.2.1 68 = .ok (.invokevirtual 78, 3) := by decide +kernel
theorem dEnc_encodeField_71 : decode uEnc_encodeField.2.1 71 = .ok (.return_, 1) := by decide +kernel
theorem cs_Enc_64 : cV "InterleavedLink$Encoder" 64 uBlock_add 4 := ⟨⟨Or.inl (gW_in 461 (by decide +kernel) rfl), (gW_in 75 (by decide +kernel) rfl), (gW_in 464 (by decide +kernel) rfl), ⟨by decide, by decide⟩, by decide +kernel⟩, (gW_in 462 (by decide +kernel) rfl), (gW_in 463 (by decide +kernel) rfl)⟩
theorem fs_Enc_12 : fS "InterleavedLink$Encoder" 12 4 0 := ⟨"InterleavedLink$Encoder", T_Enc, 4, cf_Enc, by decide, Or.inl (gW_in 179 (by decide +kernel) rfl)⟩
theorem cs_Enc_68 : cV "InterleavedLink$Encoder" 68 uTable_setMaximum 1 := ⟨⟨Or.inl (gW_in 465 (by decide +kernel) rfl), (gW_in 69 (by decide +kernel) rfl), (gW_in 468 (by decide +kernel) rfl), ⟨by decide, by decide⟩, by decide +kernel⟩, (gW_in 466 (by decide +kernel) rfl), (gW_in 467 (by decide +kernel) rfl)⟩
theorem cs_Enc_75 : cV "InterleavedLink$Encoder" 75 uTable_leastEqual 2 := ⟨⟨Or.inl (gW_in 491 (by decide +kernel) rfl), (gW_in 69 (by decide +kernel) rfl), (gW_in 494 (by decide +kernel) rfl), ⟨by decide, by decide⟩, by decide +kernel⟩, (gW_in 492 (by decide +kernel) rfl), (gW_in 493 (by decide +kernel) rfl)⟩
theorem cs_Enc_71 : cV "InterleavedLink$Encoder" 71 uTable_leastNamed 1 := ⟨⟨Or.inl (gW_in 477 (by decide +kernel) rfl), (gW_in 69 (by decide +kernel) rfl), (gW_in 480 (by decide +kernel) rfl), ⟨by decide, by decide⟩, by decide +kernel⟩, (gW_in 478 (by decide +kernel) rfl), (gW_in 479 (by decide +kernel) rfl)⟩
theorem cs_Enc_78 : cV "InterleavedLink$Encoder" 78 uTable_add 2 := ⟨⟨Or.inl (gW_in 501 (by decide +kernel) rfl), (gW_in 69 (by decide +kernel) rfl), (gW_in 504 (by decide +kernel) rfl), ⟨by decide, by decide⟩, by decide +kernel⟩, (gW_in 502 (by decide +kernel) rfl), (gW_in 503 (by decide +kernel) rfl)⟩
/-! ===== blocks made and read ===== -/
theorem Chg.tr2 {M M1 M2 : mM} {PI PR PI' PR' : Nat → Nat → Prop} (h : Chg M M1 PI PR) (g : Chg M1 M2 PI' PR') (n1 : ∀ a k, PI' a k → PI a k ∨ mN M ≤ a) (n2 : ∀ a k, PR' a k → PR a k ∨ mN M ≤ a) : Chg M M2 PI PR :=
  have q : ∀ a, a < mN M → a < mN M1 := fun _ ha => Nat.lt_of_lt_of_le ha h.1
  have p1 : ∀ a k, a < mN M → ¬ PI a k → ¬ PI' a k := fun a k ha hp hq => by rcases n1 a k hq with w | w; exact hp w; omega
  have p2 : ∀ a k, a < mN M → ¬ PR a k → ¬ PR' a k := fun a k ha hp hq => by rcases n2 a k hq with w | w; exact hp w; omega
  ⟨Nat.le_trans h.1 g.1, fun a ha => (g.2.1 a (q a ha)).trans (h.2.1 a ha), fun a k ha hp => (g.2.2.1 a k (q a ha) (p1 a k ha hp)).trans (h.2.2.1 a k ha hp), fun a k ha hp => (g.2.2.2.1 a k (q a ha) (p1 a k ha hp)).trans (h.2.2.2.1 a k ha hp), fun a k ha hp => (g.2.2.2.2 a k (q a ha) (p2 a k ha hp)).trans (h.2.2.2.2 a k ha hp)⟩
abbrev zS : Type := Int32 × Int32 × Int32 × Int32
/-- a block with its rows from c on, of r places -/
def BK (M : mM) (b c r : Nat) (S : List zS) : Prop := (mT M b).1 = 11 ∧ mI M b 4 = nI S.length ∧ mI M b 5 = sumS S ∧ (b < c ∧ c + 3 < mN M ∧ S.length ≤ r ∧ r ≤ 8) ∧ (∀ i, i < 4 → mT M (c + i) = (100, r) ∧ mR M b i = some (c + i)) ∧ ∀ j s, S[j]? = some s → mI M c j = s.1 ∧ mI M (c + 1) j = s.2.1 ∧ mI M (c + 2) j = s.2.2.1 ∧ mI M (c + 3) j = s.2.2.2
theorem BK.blk {m : Nat} {M : mM} {b c r : Nat} {S : List zS} (h : BK M b c r S) (hm : m ≤ b) : BlkC m M b S := ⟨h.1, h.2.1, h.2.2.1, r, c, ⟨hm, h.2.2.2.1.1, h.2.2.2.1.2.1, h.2.2.2.1.2.2.1, h.2.2.2.1.2.2.2⟩, h.2.2.2.2.1, h.2.2.2.2.2⟩
theorem BlkC.bk {m : Nat} {M : mM} {b : Nat} {S : List zS} (h : BlkC m M b S) : ∃ r c, m ≤ b ∧ BK M b c r S := by
  obtain ⟨h1, h2, h3, r, c, ⟨p1, p2, p3, p4, p5⟩, h4, h5⟩ := h
  exact ⟨r, c, p1, h1, h2, h3, ⟨p2, p3, p4, p5⟩, h4, h5⟩
theorem BK.mv {M M' : mM} {b c r : Nat} {S : List zS} {PI PR : Nat → Nat → Prop} (h : BK M b c r S) (g : Chg M M' PI PR) (n1 : ∀ a k, PI a k → a < b) (n2 : ∀ a k, PR a k → a < b) : BK M' b c r S := by
  obtain ⟨h1, h2, h3, ⟨p2, p3, p4, p5⟩, h4, h5⟩ := h
  have hI : ∀ a k, b ≤ a → a < mN M → mI M' a k = mI M a k := fun a k ha hb => g.2.2.1 a k hb fun q => by have := n1 _ _ q; omega
  have hR : ∀ a k, b ≤ a → a < mN M → mR M' a k = mR M a k := fun a k ha hb => g.2.2.2.2 a k hb fun q => by have := n2 _ _ q; omega
  refine ⟨by rw [g.2.1 b (by omega)]; exact h1, by rw [hI b 4 (by omega) (by omega)]; exact h2, by rw [hI b 5 (by omega) (by omega)]; exact h3, ⟨p2, Nat.lt_of_lt_of_le p3 g.1, p4, p5⟩, fun i hi => ⟨by rw [g.2.1 _ (by omega)]; exact (h4 i hi).1, by rw [hR b i (by omega) (by omega)]; exact (h4 i hi).2⟩, fun j s hs => ?_⟩
  rw [hI c j (by omega) (by omega), hI (c + 1) j (by omega) (by omega), hI (c + 2) j (by omega) (by omega), hI (c + 3) j (by omega) (by omega)]
  exact h5 j s hs
theorem sumS_app : ∀ (S : List zS) (s : zS), sumS (S ++ [s]) = sumS S + s.2.1
  | [], s => by show s.2.1 + 0 = 0 + s.2.1; rw [Int32.add_comm]
  | y :: S, s => by
    show y.2.1 + sumS (S ++ [s]) = y.2.1 + sumS S + s.2.1
    rw [sumS_app S s, Int32.add_assoc]
theorem ct_BK_add {X : mX} {l : Launch} {M : mM} {b c r : Nat} {S : List zS} {kd nu na va : Int32} (h : BK M b c r S) (hr : S.length < r) : Ct X l uBlock_add (rk 0 0) [.ref b, .int kd, .int nu, .int na, .int va] M (fun v M' => v = none ∧ BK M' b c r (S ++ [(kd, nu, na, va)]) ∧ Chg M M' (fun a _ => a = b ∨ (c ≤ a ∧ a ≤ c + 3)) no2) := by
  obtain ⟨h1, h2, h3, ⟨p2, p3, p4, p5⟩, h4, h5⟩ := h
  refine (ct_Blk_add (a0 := c) (a1 := c + 1) (a2 := c + 2) (a3 := c + 3) h1 (h4 0 (by decide)).2 (h4 1 (by decide)).2 (h4 2 (by decide)).2 (h4 3 (by decide)).2 (h4 0 (by decide)).1 (h4 1 (by decide)).1 (h4 2 (by decide)).1 (h4 3 (by decide)).1 h2 hr p5).post ?_
  rintro v M' ⟨rfl, rfl⟩
  refine ⟨rfl, ⟨h1, ?_, ?_, ⟨p2, p3, by rw [List.length_append]; exact hr, p5⟩, h4, fun j s hs => ?_⟩, ?_⟩
  · rw [mI_setI, up2_k (by decide), mI_setI, up2_same, List.length_append]
    rfl
  · rw [mI_setI, up2_same, h3, sumS_app]
  · by_cases hj : j < S.length
    · rw [List.getElem?_append_left hj] at hs
      obtain ⟨g0, g1, g2, g3⟩ := h5 j s hs
      refine ⟨?_, ?_, ?_, ?_⟩
      · rw [sI_a (by omega), sI_a (by omega), sI_a (by omega), sI_a (by omega), sI_a (by omega), sI_k (by omega)]; exact g0
      · rw [sI_a (by omega), sI_a (by omega), sI_a (by omega), sI_a (by omega), sI_k (by omega), sI_a (by omega)]; exact g1
      · rw [sI_a (by omega), sI_a (by omega), sI_a (by omega), sI_k (by omega), sI_a (by omega), sI_a (by omega)]; exact g2
      · rw [sI_a (by omega), sI_a (by omega), sI_k (by omega), sI_a (by omega), sI_a (by omega), sI_a (by omega)]; exact g3
    · rw [List.getElem?_append_right (by omega)] at hs
      have h6 := (List.getElem?_eq_some_iff.mp hs).1
      have hj2 : j = S.length := by simp at h6; omega
      subst hj2
      simp at hs
      subst hs
      refine ⟨?_, ?_, ?_, ?_⟩
      · rw [sI_a (by omega), sI_a (by omega), sI_a (by omega), sI_a (by omega), sI_a (by omega), sI_s]
      · rw [sI_a (by omega), sI_a (by omega), sI_a (by omega), sI_a (by omega), sI_s]
      · rw [sI_a (by omega), sI_a (by omega), sI_a (by omega), sI_s]
      · rw [sI_a (by omega), sI_a (by omega), sI_s]
  · exact (((((Chg.rf.setI (Or.inl (Or.inr (by omega)))).setI (Or.inl (Or.inr (by omega)))).setI (Or.inl (Or.inr (by omega)))).setI (Or.inl (Or.inr (by omega)))).setI (Or.inl (Or.inl rfl))).setI (Or.inl (Or.inl rfl))
theorem BK.new {M : mM} {n : Nat} (hn : n ≤ 8) : BK (mkBlk (newM M 11 6) (mN M) n) (mN M) (mN M + 1) n [] ∧ Chg M (mkBlk (newM M 11 6) (mN M) n) no2 no2 := by
  have hlt : mN M < mN (newM M 11 6) := Nat.lt_succ_self _
  refine ⟨⟨blk_t hlt nT, blk_c hlt, blk_s hlt, ⟨Nat.lt_succ_self _, by show mN M + 1 + 3 < mN M + 1 + 1 + 1 + 1 + 1; omega, Nat.zero_le _, hn⟩, fun i hi => ?_, fun j s hs => by simp at hs⟩, ?_⟩
  · rcases (by omega : i = 0 ∨ i = 1 ∨ i = 2 ∨ i = 3) with rfl | rfl | rfl | rfl
    · exact ⟨blk_t0, blk_r0 hlt⟩
    · exact ⟨blk_t1, blk_r1 hlt⟩
    · exact ⟨blk_t2, blk_r2 hlt⟩
    · exact ⟨blk_t3, blk_r3⟩
  · have q : ∀ P : Prop, P ∨ mN M ≤ mN M := fun _ => Or.inr (Nat.le_refl _)
    exact (((((((((Chg.rf.new.setI (q _)).setI (q _)).new).setR (q _)).new).setR (q _)).new).setR (q _)).new).setR (q _)
/-! the encoder -/
def encS (L : List (Int32 × Int32)) (n v z : Int32) : zS := if z = 0 then (if leT L n v (6 + L.length) 1 = 0 then (2, nI (lnT L n (6 + L.length) 1), n, v) else (1, nI (leT L n v (6 + L.length) 1), 0, 0)) else (3, nI (lnT L n (6 + L.length) 1), n, v)
def encL (L : List (Int32 × Int32)) (mx n v z : Int32) : List (Int32 × Int32) := if z = 0 then (if leT L n v (6 + L.length) 1 = 0 then addT L mx n v else L) else L
def PE (e b c : Nat) (a _ : Nat) : Prop := (15 + 80 * e ≤ a ∧ a ≤ 18 + 80 * e) ∨ a = b ∨ (c ≤ a ∧ a ≤ c + 3)
set_option maxRecDepth 100000 in
set_option maxHeartbeats 4000000 in
theorem ct_encMax {X : mX} {l : Launch} {M : mM} {e b c : Nat} {L : List (Int32 × Int32)} {mx : Int32} {S : List zS} (hS : Shp M) (he : e < 2) (hB : TabG M (15 + 80 * e) L mx) (hK : BK M b c 8 S) (hb : 223 ≤ b) (h8 : S.length < 8) {m : Int32} : Ct X l uEnc_encodeMaximum (rk 2 42) [.ref (14 + 80 * e), .ref b, .int m] M (fun r M' => r = none ∧ TabG M' (15 + 80 * e) (dropT m L) m ∧ BK M' b c 8 (S ++ [(0, m, 0, 0)]) ∧ Chg M M' (PE e b c) no2) := by
  refine Ct.of (by decide) (Nat.le_of_ble_eq_true rfl) ?_
  show G X l uEnc_encodeMaximum (rk 2 42) 0 0 M 0 [some (.ref (14 + 80 * e)), some (.ref b), some (.int m)] [] _
  refine g_aload_n 0 dEnc_encodeMaximum_0 rfl ?_
  refine g_iconst 1 0 dEnc_encodeMaximum_1 rfl ?_
  refine g_iload_n 2 dEnc_encodeMaximum_2 rfl ?_
  refine g_iconst 3 0 dEnc_encodeMaximum_3 rfl ?_
  refine g_iconst 4 0 dEnc_encodeMaximum_4 rfl ?_
  refine g_callV 5 [_, _, _, _] dEnc_encodeMaximum_5 cs_Enc_64 rfl (ci := 11) rfl (by decide) hK.1 rfl ⟨(Nat.le_of_ble_eq_true rfl), (Nat.le_of_ble_eq_true rfl)⟩ (Nat.le_of_ble_eq_true rfl) (ct_BK_add hK h8) (Nat.le_of_ble_eq_true rfl) (Nat.le_of_ble_eq_true rfl) ?_
  rintro _ M1 ⟨rfl, hK1, hc1⟩
  have hS1 := hS.mv hc1 (fun _ _ q => q.elim)
  have hB1 := hB.mv hc1 (hS.tg0 he).2.1 (fun a j q => by have := hK.2.2.2.1.1; omega)
  have hC1 : Chg M M1 (PE e b c) no2 := hc1.mono (fun a j q => Or.inr q) fun _ _ q => q
  refine g_aload_n 8 dEnc_encodeMaximum_8 rfl ?_
  refine g_getr 9 4 0 dEnc_encodeMaximum_9 fs_Enc_12 rfl (hS1.tEnc he) (hS1.rEnc0 he) ?_
  refine g_iload_n 12 dEnc_encodeMaximum_12 rfl ?_
  refine g_callV 13 [_] dEnc_encodeMaximum_13 cs_Enc_68 rfl (ci := 5) rfl (by decide) (hS1.tTabE he) rfl ⟨(Nat.le_of_ble_eq_true rfl), (Nat.le_of_ble_eq_true rfl)⟩ (Nat.le_of_ble_eq_true rfl) (ct_T_max (hS1.tg0 he) hB1) (Nat.le_of_ble_eq_true rfl) (Nat.le_of_ble_eq_true rfl) ?_
  rintro _ M2 ⟨rfl, hB2, hc2⟩
  exact g_vret 16 dEnc_encodeMaximum_16 rfl ⟨rfl, hB2, hK1.mv hc2 (fun a j q => show a < b by omega) fun _ _ q => q.elim, hC1.tr (hc2.mono (fun a j q => Or.inl ⟨q.1, by omega⟩) fun _ _ q => q)⟩

set_option maxRecDepth 100000 in
set_option maxHeartbeats 4000000 in
theorem ct_encField {X : mX} {l : Launch} {M : mM} {e b c : Nat} {L : List (Int32 × Int32)} {mx : Int32} {S : List zS} (hS : Shp M) (he : e < 2) (hB : TabG M (15 + 80 * e) L mx) (hK : BK M b c 8 S) (hb : 223 ≤ b) (h8 : S.length < 8) {n v z : Int32} (hX : FX X) : Ct X l uEnc_encodeField (rk 3 65) [.ref (14 + 80 * e), .ref b, .int n, .int v, .int z] M (fun r M' => r = none ∧ TabG M' (15 + 80 * e) (encL L mx n v z) mx ∧ BK M' b c 8 (S ++ [encS L n v z]) ∧ Chg M M' (PE e b c) no2) := by
  refine Ct.of (by decide) (Nat.le_of_ble_eq_true rfl) ?_
  show G X l uEnc_encodeField (rk 3 65) 0 0 M 0 [some (.ref (14 + 80 * e)), some (.ref b), some (.int n), some (.int v), some (.int z), none] [] _
  have hle := leT_le L n v (6 + L.length) 1
  have hn5 := hB.2.1
  refine g_iload 0 dEnc_encodeField_0 rfl ?_
  refine g_if_eq 2 21 dEnc_encodeField_2 rfl (fun h2 => ?_) (fun h2 => ?_)
  · refine g_aload_n 21 dEnc_encodeField_21 rfl ?_
    refine g_getr 22 4 0 dEnc_encodeField_22 fs_Enc_12 rfl (hS.tEnc he) (hS.rEnc0 he) ?_
    refine g_iload_n 25 dEnc_encodeField_25 rfl ?_
    refine g_iload_n 26 dEnc_encodeField_26 rfl ?_
    refine g_callV 27 [_, _] dEnc_encodeField_27 cs_Enc_75 rfl (ci := 5) rfl (by decide) (hS.tTabE he) rfl ⟨(Nat.le_of_ble_eq_true rfl), (Nat.le_of_ble_eq_true rfl)⟩ (Nat.le_of_ble_eq_true rfl) (ct_T_le (hS.tg0 he) hB hX) (Nat.le_of_ble_eq_true rfl) (Nat.le_of_ble_eq_true rfl) ?_
    rintro _ M2 ⟨rfl, hM2⟩
    rw [hM2]
    clear hM2 M2
    refine g_istore 30 dEnc_encodeField_30 (by decide) rfl ?_
    refine g_iload 32 dEnc_encodeField_32 rfl ?_
    refine g_if_eqN 34 47 dEnc_encodeField_34 rfl (by omega) (fun h34 => ?_) (fun h34 => ?_)
    · refine g_aload_n 47 dEnc_encodeField_47 rfl ?_
      refine g_iconst 48 2 dEnc_encodeField_48 rfl ?_
      refine g_aload_n 49 dEnc_encodeField_49 rfl ?_
      refine g_getr 50 4 0 dEnc_encodeField_50 fs_Enc_12 rfl (hS.tEnc he) (hS.rEnc0 he) ?_
      refine g_iload_n 53 dEnc_encodeField_53 rfl ?_
      refine g_callV 54 [_] dEnc_encodeField_54 cs_Enc_71 rfl (ci := 5) rfl (by decide) (hS.tTabE he) rfl ⟨(Nat.le_of_ble_eq_true rfl), (Nat.le_of_ble_eq_true rfl)⟩ (Nat.le_of_ble_eq_true rfl) (ct_T_ln (hS.tg0 he) hB hX) (Nat.le_of_ble_eq_true rfl) (Nat.le_of_ble_eq_true rfl) ?_
      rintro _ M2 ⟨rfl, hM2⟩
      rw [hM2]
      clear hM2 M2
      refine g_iload_n 57 dEnc_encodeField_57 rfl ?_
      refine g_iload_n 58 dEnc_encodeField_58 rfl ?_
      refine g_callV 59 [_, _, _, _] dEnc_encodeField_59 cs_Enc_64 rfl (ci := 11) rfl (by decide) hK.1 rfl ⟨(Nat.le_of_ble_eq_true rfl), (Nat.le_of_ble_eq_true rfl)⟩ (Nat.le_of_ble_eq_true rfl) (ct_BK_add hK h8) (Nat.le_of_ble_eq_true rfl) (Nat.le_of_ble_eq_true rfl) ?_
      rintro _ M1 ⟨rfl, hK1, hc1⟩
      have hS1 := hS.mv hc1 (fun _ _ q => q.elim)
      have hB1 := hB.mv hc1 (hS.tg0 he).2.1 (fun a j q => by have := hK.2.2.2.1.1; omega)
      have hC1 : Chg M M1 (PE e b c) no2 := hc1.mono (fun a j q => Or.inr q) fun _ _ q => q
      refine g_aload_n 62 dEnc_encodeField_62 rfl ?_
      refine g_getr 63 4 0 dEnc_encodeField_63 fs_Enc_12 rfl (hS1.tEnc he) (hS1.rEnc0 he) ?_
      refine g_iload_n 66 dEnc_encodeField_66 rfl ?_
      refine g_iload_n 67 dEnc_encodeField_67 rfl ?_
      refine g_callV 68 [_, _] dEnc_encodeField_68 cs_Enc_78 rfl (ci := 5) rfl (by decide) (hS1.tTabE he) rfl ⟨(Nat.le_of_ble_eq_true rfl), (Nat.le_of_ble_eq_true rfl)⟩ (Nat.le_of_ble_eq_true rfl) (ct_T_add (hS1.tg0 he) hB1) (Nat.le_of_ble_eq_true rfl) (Nat.le_of_ble_eq_true rfl) ?_
      rintro _ M2 ⟨rfl, hB2, hc2⟩
      exact g_vret 71 dEnc_encodeField_71 rfl ⟨rfl, by unfold encL; rw [if_pos h2, if_pos h34]; exact hB2, by unfold encS; rw [if_pos h2, if_pos h34]; exact hK1.mv hc2 (fun a j q => show a < b by omega) fun _ _ q => q.elim, hC1.tr (hc2.mono (fun a j q => Or.inl ⟨q.1, by omega⟩) fun _ _ q => q)⟩
    · refine g_aload_n 37 dEnc_encodeField_37 rfl ?_
      refine g_iconst 38 1 dEnc_encodeField_38 rfl ?_
      refine g_iload 39 dEnc_encodeField_39 rfl ?_
      refine g_iconst 41 0 dEnc_encodeField_41 rfl ?_
      refine g_iconst 42 0 dEnc_encodeField_42 rfl ?_
      refine g_callV 43 [_, _, _, _] dEnc_encodeField_43 cs_Enc_64 rfl (ci := 11) rfl (by decide) hK.1 rfl ⟨(Nat.le_of_ble_eq_true rfl), (Nat.le_of_ble_eq_true rfl)⟩ (Nat.le_of_ble_eq_true rfl) (ct_BK_add hK h8) (Nat.le_of_ble_eq_true rfl) (Nat.le_of_ble_eq_true rfl) ?_
      rintro _ M1 ⟨rfl, hK1, hc1⟩
      have hS1 := hS.mv hc1 (fun _ _ q => q.elim)
      have hB1 := hB.mv hc1 (hS.tg0 he).2.1 (fun a j q => by have := hK.2.2.2.1.1; omega)
      have hC1 : Chg M M1 (PE e b c) no2 := hc1.mono (fun a j q => Or.inr q) fun _ _ q => q
      exact g_vret 46 dEnc_encodeField_46 rfl ⟨rfl, by unfold encL; rw [if_pos h2, if_neg h34]; exact hB1, by unfold encS; rw [if_pos h2, if_neg h34]; exact hK1, hC1⟩
  · refine g_aload_n 5 dEnc_encodeField_5 rfl ?_
    refine g_iconst 6 3 dEnc_encodeField_6 rfl ?_
    refine g_aload_n 7 dEnc_encodeField_7 rfl ?_
    refine g_getr 8 4 0 dEnc_encodeField_8 fs_Enc_12 rfl (hS.tEnc he) (hS.rEnc0 he) ?_
    refine g_iload_n 11 dEnc_encodeField_11 rfl ?_
    refine g_callV 12 [_] dEnc_encodeField_12 cs_Enc_71 rfl (ci := 5) rfl (by decide) (hS.tTabE he) rfl ⟨(Nat.le_of_ble_eq_true rfl), (Nat.le_of_ble_eq_true rfl)⟩ (Nat.le_of_ble_eq_true rfl) (ct_T_ln (hS.tg0 he) hB hX) (Nat.le_of_ble_eq_true rfl) (Nat.le_of_ble_eq_true rfl) ?_
    rintro _ M2 ⟨rfl, hM2⟩
    rw [hM2]
    clear hM2 M2
    refine g_iload_n 15 dEnc_encodeField_15 rfl ?_
    refine g_iload_n 16 dEnc_encodeField_16 rfl ?_
    refine g_callV 17 [_, _, _, _] dEnc_encodeField_17 cs_Enc_64 rfl (ci := 11) rfl (by decide) hK.1 rfl ⟨(Nat.le_of_ble_eq_true rfl), (Nat.le_of_ble_eq_true rfl)⟩ (Nat.le_of_ble_eq_true rfl) (ct_BK_add hK h8) (Nat.le_of_ble_eq_true rfl) (Nat.le_of_ble_eq_true rfl) ?_
    rintro _ M1 ⟨rfl, hK1, hc1⟩
    have hS1 := hS.mv hc1 (fun _ _ q => q.elim)
    have hB1 := hB.mv hc1 (hS.tg0 he).2.1 (fun a j q => by have := hK.2.2.2.1.1; omega)
    have hC1 : Chg M M1 (PE e b c) no2 := hc1.mono (fun a j q => Or.inr q) fun _ _ q => q
    exact g_vret 20 dEnc_encodeField_20 rfl ⟨rfl, by unfold encL; rw [if_neg h2]; exact hB1, by unfold encS; rw [if_neg h2]; exact hK1, hC1⟩

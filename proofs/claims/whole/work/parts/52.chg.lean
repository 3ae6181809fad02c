
/-! ===== what a call leaves as it was: PI places of numbers, PR places of references ===== -/
def Chg (M M' : mM) (PI PR : Nat → Nat → Prop) : Prop := mN M ≤ mN M' ∧ (∀ a, a < mN M → mT M' a = mT M a) ∧ (∀ a k, a < mN M → ¬ PI a k → mI M' a k = mI M a k) ∧ (∀ a k, a < mN M → ¬ PI a k → mL M' a k = mL M a k) ∧ ∀ a k, a < mN M → ¬ PR a k → mR M' a k = mR M a k
def no2 (_ _ : Nat) : Prop := False
section CHG
variable {M M1 M2 : mM} {PI PR PI' PR' : Nat → Nat → Prop}
theorem Chg.rf : Chg M M PI PR := ⟨Nat.le_refl _, fun _ _ => rfl, fun _ _ _ _ => rfl, fun _ _ _ _ => rfl, fun _ _ _ _ => rfl⟩
theorem Chg.tr (h : Chg M M1 PI PR) (g : Chg M1 M2 PI PR) : Chg M M2 PI PR :=
  have q : ∀ a, a < mN M → a < mN M1 := fun _ ha => Nat.lt_of_lt_of_le ha h.1
  ⟨Nat.le_trans h.1 g.1, fun a ha => (g.2.1 a (q a ha)).trans (h.2.1 a ha), fun a k ha hp => (g.2.2.1 a k (q a ha) hp).trans (h.2.2.1 a k ha hp), fun a k ha hp => (g.2.2.2.1 a k (q a ha) hp).trans (h.2.2.2.1 a k ha hp), fun a k ha hp => (g.2.2.2.2 a k (q a ha) hp).trans (h.2.2.2.2 a k ha hp)⟩
theorem Chg.mono (h : Chg M M1 PI PR) (h1 : ∀ a k, PI a k → PI' a k) (h2 : ∀ a k, PR a k → PR' a k) : Chg M M1 PI' PR' := ⟨h.1, h.2.1, fun a k ha hp => h.2.2.1 a k ha fun q => hp (h1 a k q), fun a k ha hp => h.2.2.2.1 a k ha fun q => hp (h1 a k q), fun a k ha hp => h.2.2.2.2 a k ha fun q => hp (h2 a k q)⟩
theorem Chg.setI {a k : Nat} {v : Int32} (h : Chg M M1 PI PR) (hp : PI a k ∨ mN M ≤ a) : Chg M (setI M1 a k v) PI PR := ⟨h.1, h.2.1, fun b j hb hq => by
  rw [mI_setI, up2_ne (fun q => by obtain ⟨rfl, rfl⟩ := q; rcases hp with q | q; exact hq q; omega)]
  exact h.2.2.1 b j hb hq, h.2.2.2.1, h.2.2.2.2⟩
theorem Chg.setL {a k : Nat} {v : Int64} (h : Chg M M1 PI PR) (hp : PI a k ∨ mN M ≤ a) : Chg M (setL M1 a k v) PI PR := ⟨h.1, h.2.1, h.2.2.1, fun b j hb hq => by
  rw [mL_setL, up2_ne (fun q => by obtain ⟨rfl, rfl⟩ := q; rcases hp with q | q; exact hq q; omega)]
  exact h.2.2.2.1 b j hb hq, h.2.2.2.2⟩
theorem Chg.setR {a k : Nat} {v : Option Nat} (h : Chg M M1 PI PR) (hp : PR a k ∨ mN M ≤ a) : Chg M (setR M1 a k v) PI PR := ⟨h.1, h.2.1, h.2.2.1, h.2.2.2.1, fun b j hb hq => by
  rw [mR_setR, up2_ne (fun q => by obtain ⟨rfl, rfl⟩ := q; rcases hp with q | q; exact hq q; omega)]
  exact h.2.2.2.2 b j hb hq⟩
theorem Chg.new {t n : Nat} (h : Chg M M1 PI PR) : Chg M (newM M1 t n) PI PR :=
  have q : ∀ a, a < mN M → a ≠ mN M1 := fun a ha => by have := h.1; omega
  ⟨Nat.le_succ_of_le h.1, fun a ha => (mT_new_ne (q a ha)).trans (h.2.1 a ha), fun a k ha hp => (mI_new_ne (q a ha)).trans (h.2.2.1 a k ha hp), fun a k ha hp => (mL_new_ne (q a ha)).trans (h.2.2.2.1 a k ha hp), fun a k ha hp => (mR_new_ne (q a ha)).trans (h.2.2.2.2 a k ha hp)⟩
theorem mI_cpy {a0 a sp dp n k : Nat} : mI (cpyI M a0 a sp dp n) a k = va_cpy (mI M a0) (mI M a) sp dp n k := if_pos rfl
theorem mI_cpy_ne {a0 a sp dp n b k : Nat} (h : b ≠ a) : mI (cpyI M a0 a sp dp n) b k = mI M b k := if_neg h
theorem Chg.cpy {a0 a sp dp n : Nat} (h : Chg M M1 PI PR) (hp : (∀ k, PI a k) ∨ mN M ≤ a) : Chg M (cpyI M1 a0 a sp dp n) PI PR := ⟨h.1, h.2.1, fun b j hb hq => by
  rw [mI_cpy_ne (fun q => by subst q; rcases hp with q | q; exact hq (q j); omega)]
  exact h.2.2.1 b j hb hq, h.2.2.2.1, h.2.2.2.2⟩
end CHG
/-! ===== Arrays.copyOf ===== -/
abbrev uCopyOf : mU := (⟨"java/util/Arrays", "copyOf", "([BI)[B"⟩, prog_18_method_121_code, 3, some (.array .byte))
theorem dCopyOf_0 : decode uCopyOf.2.1 0 = .ok (.iload_n 1, 1) := by decide +kernel
theorem dCopyOf_1 : decode uCopyOf.2.1 1 = .ok (.aload_n 0, 1) := by decide +kernel
theorem dCopyOf_2 : decode uCopyOf.2.1 2 = .ok (.arraylength, 1) := by decide +kernel
theorem dCopyOf_3 : decode uCopyOf.2.1 3 = .ok (.if_icmp .ne 11, 3) := by decide +kernel
theorem dCopyOf_14 : decode uCopyOf.2.1 14 = .ok (.iload_n 1, 1) := by decide +kernel
theorem dCopyOf_15 : decode uCopyOf.2.1 15 = .ok (.newarray .byte, 2) := by decide +kernel
theorem dCopyOf_17 : decode uCopyOf.2.1 17 = .ok (.astore_n 2, 1) := by decide +kernel
theorem dCopyOf_18 : decode uCopyOf.2.1 18 = .ok (.aload_n 0, 1) := by decide +kernel
theorem dCopyOf_19 : decode uCopyOf.2.1 19 = .ok (.iconst 0, 1) := by decide +kernel
theorem dCopyOf_20 : decode uCopyOf.2.1 20 = .ok (.aload_n 2, 1) := by decide +kernel
theorem dCopyOf_21 : decode uCopyOf.2.1 21 = .ok (.iconst 0, 1) := by decide +kernel
theorem dCopyOf_22 : decode uCopyOf.2.1 22 = .ok (.aload_n 0, 1) := by decide +kernel
theorem dCopyOf_23 : decode uCopyOf.2.1 23 = .ok (.arraylength, 1) := by decide +kernel
theorem dCopyOf_24 : decode uCopyOf.2.1 24 = .ok (.iload_n 1, 1) := by decide +kernel
theorem dCopyOf_25 : decode uCopyOf.2.1 25 = .ok (.invokestatic 304, 3) := by decide +kernel
theorem dCopyOf_28 : decode uCopyOf.2.1 28 = .ok (.invokestatic 150, 3) := by decide +kernel
theorem dCopyOf_31 : decode uCopyOf.2.1 31 = .ok (.aload_n 2, 1) := by decide +kernel
theorem dCopyOf_32 : decode uCopyOf.2.1 32 = .ok (.areturn, 1) := by decide +kernel
theorem jm_min : Cond.static Lib.Math.min.name ∈ gW := gW_in 600 (by decide +kernel) rfl
theorem jm_max : Cond.static Lib.Math.max.name ∈ gW := gW_in 608 (by decide +kernel) rfl
theorem jm_init : Cond.initialized "java/lang/Math" ∈ gW := gW_in 77 (by decide +kernel) rfl
theorem jm_minc : Cond.code Lib.Math.min.name Lib.Math.min.code 2 (some .int) ∈ gW := gW_in 601 (by decide +kernel) rfl
theorem jm_maxc : Cond.code Lib.Math.max.name Lib.Math.max.code 2 (some .int) ∈ gW := gW_in 609 (by decide +kernel) rfl
theorem jc_s : Cond.static arraycopyName ∈ gW := gW_in 622 (by decide +kernel) rfl
theorem jc_n : Cond.native arraycopyName ∈ gW := gW_in 623 (by decide +kernel) rfl
theorem jc_i : Cond.initialized "java/lang/System" ∈ gW := gW_in 79 (by decide +kernel) rfl
theorem jm_Arr : Cond.methodLink "java/util/Arrays" 304 Lib.Math.min.name ∈ gW := gW_in 620 (by decide +kernel) rfl
theorem jc_Arr : Cond.methodLink "java/util/Arrays" 150 arraycopyName ∈ gW := gW_in 621 (by decide +kernel) rfl
theorem jm_BQ_17 : Cond.methodLink "InterleavedLink$ByteQueue" 17 Lib.Math.min.name ∈ gW := gW_in 606 (by decide +kernel) rfl
theorem jm_End_174 : Cond.methodLink "InterleavedLink$End" 174 Lib.Math.min.name ∈ gW := gW_in 599 (by decide +kernel) rfl
theorem jm_Enc_29 : Cond.methodLink "InterleavedLink$Encoder" 29 Lib.Math.min.name ∈ gW := gW_in 788 (by decide +kernel) rfl
theorem jm_BQ_29 : Cond.methodLink "InterleavedLink$ByteQueue" 29 Lib.Math.max.name ∈ gW := gW_in 607 (by decide +kernel) rfl
theorem jc_BQ_23 : Cond.methodLink "InterleavedLink$ByteQueue" 23 arraycopyName ∈ gW := gW_in 624 (by decide +kernel) rfl
theorem cs_BQ_32 : cSt "InterleavedLink$ByteQueue" 32 uCopyOf 2 := ⟨⟨Or.inl (gW_in 610 (by decide +kernel) rfl), (gW_in 78 (by decide +kernel) rfl), (gW_in 612 (by decide +kernel) rfl), ⟨by decide, by decide⟩, by decide +kernel⟩, (gW_in 611 (by decide +kernel) rfl)⟩
set_option maxRecDepth 100000 in
set_option maxHeartbeats 4000000 in
theorem ct_copyOf {X : mX} {l : Launch} {M : mM} {a n0 n : Nat} (hT : mT M a = (101, n0)) (ha : a < mN M) (hn : n < n0) (h8 : n ≤ 8) (hn0 : n0 < 2 ^ 31) (hfit : ∀ i, i < n → fits .byte (.int (mI M a i)) = true) : Ct X l uCopyOf (rn 1 40 1 8) [.ref a, .int (nI n)] M (fun r M' => r = some (.ref (mN M)) ∧ M' = cpyI (newM M 101 n) a (mN M) 0 0 n) := by
  refine Ct.of (by decide) (Nat.le_of_ble_eq_true rfl) ?_
  show G X l uCopyOf (rn 1 40 1 8) 1 8 M 0 [some (.ref a), some (.int (nI n)), none] [] _
  refine g_iload_n 0 dCopyOf_0 rfl ?_
  refine g_aload_n 1 dCopyOf_1 rfl ?_
  refine g_alen 2 1 dCopyOf_2 rfl hT ?_
  refine g_icmp_neN 3 14 dCopyOf_3 rfl (by omega) (by omega) (fun h => ?_) (fun h => absurd h (by omega))
  refine g_iload_n 14 dCopyOf_14 rfl ?_
  refine g_newaN 15 1 8 dCopyOf_15 aw_byte rfl rfl (fun _ => rfl) (fun _ _ h => h) (by decide) (by omega) (by decide) (Nat.le_of_ble_eq_true rfl) (Nat.le_of_ble_eq_true rfl) ?_
  refine g_astore_n 17 dCopyOf_17 (by decide) rfl ?_
  refine g_aload_n 18 dCopyOf_18 rfl ?_
  refine g_iconst 19 (nI 0) dCopyOf_19 rfl ?_
  refine g_aload_n 20 dCopyOf_20 rfl ?_
  refine g_iconst 21 (nI 0) dCopyOf_21 rfl ?_
  refine g_aload_n 22 dCopyOf_22 rfl ?_
  refine g_alen 23 1 dCopyOf_23 rfl (oTT ha hT) ?_
  refine g_iload_n 24 dCopyOf_24 rfl ?_
  refine g_mmin 25 dCopyOf_25 jm_Arr jm_min jm_init jm_minc ⟨(Nat.le_of_ble_eq_true rfl), (Nat.le_of_ble_eq_true rfl)⟩ ?_
  refine g_top (nI n) (if_pos ((nI_ltI (by omega) (by omega)).mpr hn)) ?_
  refine g_copy 28 dCopyOf_28 jc_Arr jc_n jc_s jc_i (oTT ha hT) (mT_new M 101 n) (by omega) (by omega) hn0 (by omega) (fun i hi => by rw [mI_new_ne (Nat.ne_of_lt ha), Nat.zero_add]; exact hfit i hi) ⟨(Nat.le_of_ble_eq_true rfl), (Nat.le_of_ble_eq_true rfl)⟩ ?_
  refine g_aload_n 31 dCopyOf_31 rfl ?_
  exact g_aret 32 dCopyOf_32 rfl (Or.inr ⟨_, rfl⟩) ⟨rfl, rfl⟩

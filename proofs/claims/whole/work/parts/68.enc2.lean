theorem dEnc_encode_0 : decode uEnc_encode.2.1 0 = .ok (.new 35, 3) := by decide +kernel
theorem dEnc_encode_3 : decode uEnc_encode.2.1 3 = .ok (.dup, 1) := by decide +kernel
theorem dEnc_encode_4 : decode uEnc_encode.2.1 4 = .ok (.bipush 8, 2) := by decide +kernel
theorem dEnc_encode_6 : decode uEnc_encode.2.1 6 = .ok (.invokespecial 37, 3) := by decide +kernel
theorem dEnc_encode_9 : decode uEnc_encode.2.1 9 = .ok (.astore_n 2, 1) := by decide +kernel
theorem dEnc_encode_10 : decode uEnc_encode.2.1 10 = .ok (.aload_n 0, 1) := by decide +kernel
theorem dEnc_encode_11 : decode uEnc_encode.2.1 11 = .ok (.getfield 18, 3) := by decide +kernel
theorem dEnc_encode_14 : decode uEnc_encode.2.1 14 = .ok (.ifCond .eq 37, 3) := by decide +kernel
theorem dEnc_encode_17 : decode uEnc_encode.2.1 17 = .ok (.aload_n 0, 1) := by decide +kernel
theorem dEnc_encode_18 : decode uEnc_encode.2.1 18 = .ok (.getfield 22, 3) := by decide +kernel
theorem dEnc_encode_21 : decode uEnc_encode.2.1 21 = .ok (.aload_n 0, 1) := by decide +kernel
theorem dEnc_encode_22 : decode uEnc_encode.2.1 22 = .ok (.getfield 26, 3) := by decide +kernel
theorem dEnc_encode_25 : decode uEnc_encode.2.1 25 = .ok (.if_icmp .ge 12, 3) := by decide +kernel
theorem dEnc_encode_28 : decode uEnc_encode.2.1 28 = .ok (.aload_n 0, 1) := by decide +kernel
theorem dEnc_encode_29 : decode uEnc_encode.2.1 29 = .ok (.aload_n 2, 1) := by decide +kernel
theorem dEnc_encode_30 : decode uEnc_encode.2.1 30 = .ok (.aload_n 0, 1) := by decide +kernel
theorem dEnc_encode_31 : decode uEnc_encode.2.1 31 = .ok (.getfield 22, 3) := by decide +kernel
theorem dEnc_encode_34 : decode uEnc_encode.2.1 34 = .ok (.invokevirtual 40, 3) := by decide +kernel
theorem dEnc_encode_37 : decode uEnc_encode.2.1 37 = .ok (.aload_n 0, 1) := by decide +kernel
theorem dEnc_encode_38 : decode uEnc_encode.2.1 38 = .ok (.aload_n 2, 1) := by decide +kernel
theorem dEnc_encode_39 : decode uEnc_encode.2.1 39 = .ok (.aload_n 0, 1) := by decide +kernel
theorem dEnc_encode_40 : decode uEnc_encode.2.1 40 = .ok (.getfield 26, 3) := by decide +kernel
theorem dEnc_encode_43 : decode uEnc_encode.2.1 43 = .ok (.invokevirtual 40, 3) := by decide +kernel
theorem dEnc_encode_46 : decode uEnc_encode.2.1 46 = .ok (.aload_n 0, 1) := by decide +kernel
theorem dEnc_encode_47 : decode uEnc_encode.2.1 47 = .ok (.iconst 0, 1) := by decide +kernel
theorem dEnc_encode_48 : decode uEnc_encode.2.1 48 = .ok (.putfield 18, 3) := by decide +kernel
theorem dEnc_encode_51 : decode uEnc_encode.2.1 51 = .ok (.iconst 0, 1) := by decide +kernel
theorem dEnc_encode_52 : decode uEnc_encode.2.1 52 = .ok (.istore_n 3, 1) := by decide +kernel
theorem dEnc_encode_53 : decode uEnc_encode.2.1 53 = .ok (.iload_n 3, 1) := by decide +kernel
theorem dEnc_encode_54 : decode uEnc_encode.2.1 54 = .ok (.aload_n 1, 1) := by decide +kernel
theorem dEnc_encode_55 : decode uEnc_encode.2.1 55 = .ok (.getfield 44, 3) := by decide +kernel
theorem dEnc_encode_58 : decode uEnc_encode.2.1 58 = .ok (.if_icmp .ge 32, 3) := by decide +kernel
theorem dEnc_encode_61 : decode uEnc_encode.2.1 61 = .ok (.aload_n 0, 1) := by decide +kernel
theorem dEnc_encode_62 : decode uEnc_encode.2.1 62 = .ok (.aload_n 2, 1) := by decide +kernel
theorem dEnc_encode_63 : decode uEnc_encode.2.1 63 = .ok (.aload_n 1, 1) := by decide +kernel
theorem dEnc_encode_64 : decode uEnc_encode.2.1 64 = .ok (.getfield 49, 3) := by decide +kernel
theorem dEnc_encode_67 : decode uEnc_encode.2.1 67 = .ok (.iload_n 3, 1) := by decide +kernel
theorem dEnc_encode_68 : decode uEnc_encode.2.1 68 = .ok (.iaload, 1) := by decide +kernel
theorem dEnc_encode_69 : decode uEnc_encode.2.1 69 = .ok (.aload_n 1, 1) := by decide +kernel
theorem dEnc_encode_70 : decode uEnc_encode.2.1 70 = .ok (.getfield 53, 3) := by decide +kernel
theorem dEnc_encode_73 : decode uEnc_encode.2.1 73 = .ok (.iload_n 3, 1) := by decide +kernel
theorem dEnc_encode_74 : decode uEnc_encode.2.1 74 = .ok (.iaload, 1) := by decide +kernel
theorem dEnc_encode_75 : decode uEnc_encode.2.1 75 = .ok (.aload_n 1, 1) := by decide +kernel
theorem dEnc_encode_76 : decode uEnc_encode.2.1 76 = .ok (.getfield 56, 3) := by decide +kernel
theorem dEnc_encode_79 : decode uEnc_encode.2.1 79 = .ok (.iload_n 3, 1) := by decide +kernel
theorem dEnc_encode_80 : decode uEnc_encode.2.1 80 = .ok (.baload, 1) := by decide +kernel
theorem dEnc_encode_81 : decode uEnc_encode.2.1 81 = .ok (.invokevirtual 60, 3) := by decide +kernel
theorem dEnc_encode_84 : decode uEnc_encode.2.1 84 = .ok (.iinc 3 1, 3) := by decide +kernel
theorem dEnc_encode_87 : decode uEnc_encode.2.1 87 = .ok (.goto (-34), 3) := by decide +kernel
theorem dEnc_encode_90 : decode uEnc_encode.2.1 90 = .ok (.aload_n 2, 1) := by decide +kernel
theorem dEnc_encode_91 : decode uEnc_encode.2.1 91 = .ok (.areturn, 1) := by decide +kernel
theorem fs_Enc_44 : fS "InterleavedLink$Encoder" 44 3 3 := ⟨"InterleavedLink$FieldList", T_FList, 4, cf_FList, by decide, Or.inl (gW_in 130 (by decide +kernel) rfl)⟩
theorem fs_Enc_49 : fS "InterleavedLink$Encoder" 49 3 0 := ⟨"InterleavedLink$FieldList", T_FList, 4, cf_FList, by decide, Or.inl (gW_in 121 (by decide +kernel) rfl)⟩
theorem fs_Enc_53 : fS "InterleavedLink$Encoder" 53 3 1 := ⟨"InterleavedLink$FieldList", T_FList, 4, cf_FList, by decide, Or.inl (gW_in 124 (by decide +kernel) rfl)⟩
theorem fs_Enc_56 : fS "InterleavedLink$Encoder" 56 3 2 := ⟨"InterleavedLink$FieldList", T_FList, 4, cf_FList, by decide, Or.inl (gW_in 127 (by decide +kernel) rfl)⟩
theorem cs_Enc_60 : cV "InterleavedLink$Encoder" 60 uEnc_encodeField 4 := ⟨⟨Or.inl (gW_in 473 (by decide +kernel) rfl), (gW_in 68 (by decide +kernel) rfl), (gW_in 476 (by decide +kernel) rfl), ⟨by decide, by decide⟩, by decide +kernel⟩, (gW_in 475 (by decide +kernel) rfl), (gW_in 5 (by decide +kernel) rfl)⟩
theorem ns_Enc_35 : nS "InterleavedLink$Encoder" 35 11 6 := ⟨"InterleavedLink$Block", T_Block, cf_Block, (gW_in 425 (by decide +kernel) rfl), (gW_in 426 (by decide +kernel) rfl), (gW_in 75 (by decide +kernel) rfl)⟩
theorem cs_Enc_37 : cI "InterleavedLink$Encoder" 37 uBlock_init 1 := ⟨⟨Or.inl (gW_in 427 (by decide +kernel) rfl), (gW_in 75 (by decide +kernel) rfl), (gW_in 429 (by decide +kernel) rfl), ⟨by decide, by decide⟩, by decide +kernel⟩, (gW_in 428 (by decide +kernel) rfl), rfl, rfl⟩
theorem fs_Enc_26 : fS "InterleavedLink$Encoder" 26 4 3 := ⟨"InterleavedLink$Encoder", T_Enc, 4, cf_Enc, by decide, Or.inl (gW_in 183 (by decide +kernel) rfl)⟩
theorem cs_Enc_40 : cV "InterleavedLink$Encoder" 40 uEnc_encodeMaximum 2 := ⟨⟨Or.inl (gW_in 457 (by decide +kernel) rfl), (gW_in 68 (by decide +kernel) rfl), (gW_in 460 (by decide +kernel) rfl), ⟨by decide, by decide⟩, by decide +kernel⟩, (gW_in 459 (by decide +kernel) rfl), (gW_in 3 (by decide +kernel) rfl)⟩
/-! ===== a list encoded ===== -/
def encT (mx : Int32) : List (Int32 × Int32 × Int32) → List (Int32 × Int32) → List (Int32 × Int32)
  | [], L => L
  | x :: R, L => encT mx R (encL L mx x.1 x.2.1 x.2.2)
def encQ (mx : Int32) : List (Int32 × Int32 × Int32) → List (Int32 × Int32) → List zS
  | [], _ => []
  | x :: R, L => encS L x.1 x.2.1 x.2.2 :: encQ mx R (encL L mx x.1 x.2.1 x.2.2)
theorem encQ_len (mx : Int32) : ∀ (R : List (Int32 × Int32 × Int32)) (L : List (Int32 × Int32)), (encQ mx R L).length = R.length
  | [], _ => rfl
  | x :: R, L => by unfold encQ; rw [List.length_cons, List.length_cons, encQ_len mx R]
theorem encL_len {L : List (Int32 × Int32)} {mx n v z : Int32} (h : L.length ≤ 5) : (encL L mx n v z).length ≤ 5 := by
  unfold encL
  split
  · split
    · exact addT_len h
    · exact h
  · exact h
/-- table, maximum and first steps behind the limits that were told -/
def encM (A : zA) (e : Nat) : List (Int32 × Int32) × Int32 × List zS := if zI A (14 + 80 * e) 1 = 0 then ((zB A e 0).1, (zB A e 0).2, []) else if zI A (14 + 80 * e) 3 ≤ zI A (14 + 80 * e) 2 then (dropT (zI A (14 + 80 * e) 3) (zB A e 0).1, zI A (14 + 80 * e) 3, [(0, zI A (14 + 80 * e) 3, 0, 0)]) else (dropT (zI A (14 + 80 * e) 3) (dropT (zI A (14 + 80 * e) 2) (zB A e 0).1), zI A (14 + 80 * e) 3, [(0, zI A (14 + 80 * e) 2, 0, 0), (0, zI A (14 + 80 * e) 3, 0, 0)])
theorem encM_len (A : zA) (e : Nat) : (encM A e).2.2.length ≤ 2 := by
  unfold encM
  split
  · exact Nat.zero_le _
  · split
    · exact Nat.le_succ _
    · exact Nat.le_refl _
def encB (A : zA) (e : Nat) : List zS := (encM A e).2.2 ++ encQ (encM A e).2.1 (zK A e) (encM A e).1
def encA (A : zA) (e : Nat) : zA := yI (yB A e 0 (encT (encM A e).2.1 (zK A e) (encM A e).1, (encM A e).2.1)) (14 + 80 * e) 1 0
/-- the cells that an encoder changes -/
def PM (e : Nat) (a j : Nat) : Prop := (15 + 80 * e ≤ a ∧ a ≤ 18 + 80 * e) ∨ (a = 14 + 80 * e ∧ j = 1)
theorem rc_enc {M M' : mM} {A : zA} {e : Nat} {L : List (Int32 × Int32)} {mx v : Int32} (h : RC M A) (he : e < 2) (c : Chg M M' (PM e) no2) (hB : TabG M' (15 + 80 * e) L mx) (hv : mI M' (14 + 80 * e) 1 = v) : RC M' (yI (yB A e 0 (L, mx)) (14 + 80 * e) 1 v) := by
  obtain ⟨h0, h1, h2, h3, h4, h5, h6, h7, h8, h9⟩ := h
  have hN := h0.1
  refine ⟨h0.mv c fun a k q => q.elim, fun b i hb => ?_, fun d hd => (h2 d hd).mv c hN hd fun b i q => ?_, fun d hd => (h3 d hd).mv c hN hd (fun b i q => ?_) fun b i q => q.elim, fun d g hd hg => (h4 d g hd hg).mv c (by omega) (by omega) (fun q => ?_) fun i q => ?_, fun d g hd hg => (h5 d g hd hg).mv c (by omega) (by omega) (fun q => ?_) fun i q => ?_, fun d g hd hg => (h6 d g hd hg).mv c hN hd hg (fun b i q => ?_) fun b i q => q.elim, fun d i hd hi => ?_, fun d hd => (h8 d hd).mv c hN hd fun b i q => ?_, fun d hd => (h9 d hd).mv c hN hd fun b i q => ?_⟩
  · show mI M' b i = up2 (zI A) (14 + 80 * e) 1 v b i
    by_cases q : b = 14 + 80 * e ∧ i = 1
    · obtain ⟨rfl, rfl⟩ := q
      rw [up2_same]
      exact hv
    · rw [up2_ne q, c.2.2.1 b i (by have := hb.2.1; omega) fun q2 => by unfold sc at hb; unfold PM at q2; omega]
      exact h1 b i hb
  iterate 7 (unfold PM at q; omega)
  · show TabC M' d i (up2 (zB A) e 0 (L, mx) d i).1 (up2 (zB A) e 0 (L, mx) d i).2
    by_cases q : d = e ∧ i = 0
    · obtain ⟨rfl, rfl⟩ := q
      rw [up2_same]
      exact TabC.g.mpr hB
    · rw [up2_ne q]
      exact (h7 d i hd hi).mv c hN hd hi fun b j q => by unfold PM at q; omega
  iterate 2 (unfold PM at q; omega)
set_option maxRecDepth 100000 in
set_option maxHeartbeats 4000000 in
theorem g_enc {X : mX} {l : Launch} {e b c : Nat} {mx : Int32} {K : List (Int32 × Int32 × Int32)} {bc bs : Nat} {Q : Option Value → mM → Prop} (hX : FX X) (he : e < 2) (hb : 223 ≤ b) : ∀ (R : List (Int32 × Int32 × Int32)) (k : Nat) (L : List (Int32 × Int32)) (S : List zS) (M1 : mM), Shp M1 → MkC M1 e K → K.drop k = R → k ≤ K.length → TabG M1 (15 + 80 * e) L mx → BK M1 b c 8 S → S.length + R.length ≤ 8 → (∀ M', TabG M' (15 + 80 * e) (encT mx R L) mx → BK M' b c 8 (S ++ encQ mx R L) → Chg M1 M' (PE e b c) no2 → Q (some (.ref b)) M') → G X l uEnc_encode (rn 4 90 5 38) bc bs M1 53 [some (.ref (14 + 80 * e)), some (.ref (10 + 80 * e)), some (.ref b), some (.int (nI k))] [] Q
  | [], k, L, S, M1, hS, hMk, hR, hk, hB, hK, h8, hq => by
    have hk6 := hMk.2.1
    have hle : K.length ≤ k := List.drop_eq_nil_iff.mp hR
    refine g_iload_n 53 dEnc_encode_53 rfl ?_
    refine g_aload_n 54 dEnc_encode_54 rfl ?_
    refine g_geti 55 3 3 dEnc_encode_55 fs_Enc_44 rfl (hS.tFL he) ?_
    refine g_top (nI (K.length)) (hMk.1) ?_
    refine g_icmp_geN 58 90 dEnc_encode_58 rfl (by omega) (by omega) (fun h58 => ?_) (fun h58 => ?_)
    · refine g_aload_n 90 dEnc_encode_90 rfl ?_
      exact g_aret 91 dEnc_encode_91 rfl (Or.inl ⟨_, rfl⟩) (hq M1 hB (by rw [show encQ mx [] L = [] from rfl, List.append_nil]; exact hK) Chg.rf)
    · exact absurd hle h58
  | x :: R, k, L, S, M1, hS, hMk, hR, hk, hB, hK, h8, hq => by
    have hk6 := hMk.2.1
    rw [List.length_cons] at h8
    have hlt : k < K.length := by
      apply Nat.lt_of_not_le
      intro q
      rw [List.drop_eq_nil_iff.mpr q] at hR
      cases hR
    have hx : K[k]? = some x := by
      have := congrArg (fun z => z[0]?) hR
      simpa using this
    have hR2 : K.drop (k + 1) = R := by
      rw [← List.drop_drop, hR]
      rfl
    refine g_iload_n 53 dEnc_encode_53 rfl ?_
    refine g_aload_n 54 dEnc_encode_54 rfl ?_
    refine g_geti 55 3 3 dEnc_encode_55 fs_Enc_44 rfl (hS.tFL he) ?_
    refine g_top (nI (K.length)) (hMk.1) ?_
    refine g_icmp_geN 58 90 dEnc_encode_58 rfl (by omega) (by omega) (fun h58 => ?_) (fun h58 => ?_)
    · exact absurd h58 (by omega)
    · refine g_aload_n 61 dEnc_encode_61 rfl ?_
      refine g_aload_n 62 dEnc_encode_62 rfl ?_
      refine g_aload_n 63 dEnc_encode_63 rfl ?_
      refine g_getr 64 3 0 dEnc_encode_64 fs_Enc_49 rfl (hS.tFL he) (hS.rFL0 he) ?_
      refine g_iload_n 67 dEnc_encode_67 rfl ?_
      refine g_ialdN 68 dEnc_encode_68 (hS.TFLn he) (by omega) (by decide) ?_
      refine g_top (x.1) ((hMk.2.2 k x hx).1) ?_
      refine g_aload_n 69 dEnc_encode_69 rfl ?_
      refine g_getr 70 3 1 dEnc_encode_70 fs_Enc_53 rfl (hS.tFL he) (hS.rFL1 he) ?_
      refine g_iload_n 73 dEnc_encode_73 rfl ?_
      refine g_ialdN 74 dEnc_encode_74 (hS.TFLv he) (by omega) (by decide) ?_
      refine g_top (x.2.1) ((hMk.2.2 k x hx).2.1) ?_
      refine g_aload_n 75 dEnc_encode_75 rfl ?_
      refine g_getr 76 3 2 dEnc_encode_76 fs_Enc_56 rfl (hS.tFL he) (hS.rFL2 he) ?_
      refine g_iload_n 79 dEnc_encode_79 rfl ?_
      refine g_zaldN 80 dEnc_encode_80 (hS.TFLs he) (by omega) (by decide) ?_
      refine g_top (x.2.2) ((hMk.2.2 k x hx).2.2) ?_
      refine g_callV 81 [_, _, _, _] dEnc_encode_81 cs_Enc_60 rfl (ci := 4) rfl (by decide) (hS.tEnc he) rfl ⟨(Nat.le_of_ble_eq_true rfl), (Nat.le_of_ble_eq_true rfl)⟩ (Nat.le_of_ble_eq_true rfl) (ct_encField hS he hB hK hb (by omega) hX) (Nat.le_of_ble_eq_true rfl) (Nat.le_of_ble_eq_true rfl) ?_
      rintro _ M2 ⟨rfl, hB2, hK2, hc2⟩
      have hbc := hK.2.2.2.1.1
      refine g_iincN 84 dEnc_encode_84 rfl (by decide) rfl ?_
      refine g_goto 87 53 dEnc_encode_87 rfl ?_
      refine g_enc hX he hb R (k + 1) _ _ M2 (hS.mv hc2 fun _ _ q => q.elim) (hMk.mv hc2 hS.1 he fun a j q => ?_) hR2 hlt hB2 hK2 (by rw [List.length_append]; show S.length + 1 + R.length ≤ 8; omega) fun M' h1 h2 h3 => hq M' h1 ?_ (hc2.tr h3)
      · unfold PE at q
        omega
      · rw [List.append_assoc] at h2
        exact h2
theorem enc_pm {M M1 M2 : mM} {e : Nat} (hN : 223 ≤ mN M) (h : Chg M M1 (PM e) no2) (g : Chg M1 M2 (PE e (mN M) (mN M + 1)) no2) : Chg M M2 (PM e) no2 := h.tr2 g (fun a j q => by unfold PE at q; unfold PM; omega) fun _ _ q => q.elim
theorem enc_mk {M1 M2 : mM} {e b c : Nat} {K : List (Int32 × Int32 × Int32)} (hS : Shp M1) (he : e < 2) (hb : 223 ≤ b) (hbc : b < c) (h : MkC M1 e K) (g : Chg M1 M2 (PE e b c) no2) : MkC M2 e K := h.mv g hS.1 he fun a j q => by unfold PE at q; omega
theorem TabG.sN {M : mM} {e : Nat} {L : List (Int32 × Int32)} {mx v : Int32} (h : TabG M (15 + 80 * e) L mx) : TabG (setI M (14 + 80 * e) 1 v) (15 + 80 * e) L mx := ⟨(up2_a (by omega)).trans h.1, h.2.1, (up2_a (by omega)).trans h.2.2.1, (up2_a (by omega)).trans h.2.2.2.1, fun j x hj => ⟨(up2_a (by omega)).trans (h.2.2.2.2 j x hj).1, (up2_a (by omega)).trans (h.2.2.2.2 j x hj).2.1, (up2_a (by omega)).trans (h.2.2.2.2 j x hj).2.2⟩⟩
theorem BK.sN {M : mM} {e b c r : Nat} {S : List zS} {v : Int32} (h : BK M b c r S) (he : e < 2) (hb : 223 ≤ b) : BK (setI M (14 + 80 * e) 1 v) b c r S := h.mv (Chg.rf.setI (PI := fun a _ => a < 169) (PR := no2) (Or.inl (by omega))) (fun a _ q => by omega) fun _ _ q => q.elim
theorem MkC.sN {M : mM} {e : Nat} {K : List (Int32 × Int32 × Int32)} {v : Int32} (h : MkC M e K) : MkC (setI M (14 + 80 * e) 1 v) e K := ⟨(up2_a (by omega)).trans h.1, h.2.1, fun j x hj => ⟨(up2_a (by omega)).trans (h.2.2 j x hj).1, (up2_a (by omega)).trans (h.2.2 j x hj).2.1, (up2_a (by omega)).trans (h.2.2 j x hj).2.2⟩⟩
set_option maxRecDepth 100000 in
set_option maxHeartbeats 4000000 in
theorem enc_one {X : mX} {l : Launch} {M M1 : mM} {A : zA} {e : Nat} {bc bs : Nat} (hX : FX X) (hR : RC M A) (he : e < 2) (hK : BK M1 (mN M) (mN M + 1) 8 []) (hc0 : Chg M M1 no2 no2) (hR1 : RC M1 A) (hB : TabG M1 (15 + 80 * e) (zB A e 0).1 (zB A e 0).2) (hb : 223 ≤ mN M) (eM : encM A e = (dropT (zI A (14 + 80 * e) 3) (zB A e 0).1, zI A (14 + 80 * e) 3, [(0, zI A (14 + 80 * e) 3, 0, 0)])) : G X l uEnc_encode (rn 4 90 5 38) bc bs M1 37 [some (.ref (14 + 80 * e)), some (.ref (10 + 80 * e)), some (.ref (mN M)), none] [] (fun r M' => ∃ b, r = some (.ref b) ∧ BlkC 223 M' b (encB A e) ∧ RC M' (encA A e) ∧ Chg M M' cP cP) := by
    refine g_aload_n 37 dEnc_encode_37 rfl ?_
    refine g_aload_n 38 dEnc_encode_38 rfl ?_
    refine g_aload_n 39 dEnc_encode_39 rfl ?_
    refine g_geti 40 4 3 dEnc_encode_40 fs_Enc_26 rfl (hR1.1.tEnc he) ?_
    refine g_top (zI A (14 + 80 * e) 3) (hR1.sI (sc_N he (by omega) (by omega))) ?_
    refine g_callV 43 [_, _] dEnc_encode_43 cs_Enc_40 rfl (ci := 4) rfl (by decide) (hR1.1.tEnc he) rfl ⟨(Nat.le_of_ble_eq_true rfl), (Nat.le_of_ble_eq_true rfl)⟩ (Nat.le_of_ble_eq_true rfl) (ct_encMax hR1.1 he hB hK hb (by decide)) (Nat.le_of_ble_eq_true rfl) (Nat.le_of_ble_eq_true rfl) ?_
    rintro _ M2 ⟨rfl, hB2, hK2, hc2⟩
    have hS2 := hR1.1.mv hc2 (fun _ _ q => q.elim)
    have hMk2 := enc_mk hR1.1 he hb (Nat.lt_succ_self _) (hR1.2.2.2.2.2.2.2.2.1 e he) hc2
    have hC2 := enc_pm hR.1.1 (hc0.mono (fun _ _ q => q.elim) fun _ _ q => q) hc2
    refine g_aload_n 46 dEnc_encode_46 rfl ?_
    refine g_iconst 47 0 dEnc_encode_47 rfl ?_
    refine g_putz 48 4 1 dEnc_encode_48 ps_Enc_18 rfl (by decide) (hS2.tEnc he) ?_
    have hS9 := hS2
    have hMk9 := hMk2.sN (v := 0)
    have hB9 : TabG (setI M2 (14 + 80 * e) 1 0) (15 + 80 * e) (encM A e).1 (encM A e).2.1 := by rw [eM]; exact hB2.sN
    have hK9 : BK (setI M2 (14 + 80 * e) 1 0) (mN M) (mN M + 1) 8 (encM A e).2.2 := by rw [eM]; exact hK2.sN he hb
    have hC9 : Chg M (setI M2 (14 + 80 * e) 1 0) (PM e) no2 := hC2.setI (Or.inl (Or.inr ⟨rfl, rfl⟩))
    have h90 : mI (setI M2 (14 + 80 * e) 1 0) (14 + 80 * e) 1 = 0 := up2_same
    refine g_iconst 51 (nI 0) dEnc_encode_51 rfl ?_
    refine g_istore_n 52 dEnc_encode_52 (by decide) rfl ?_
    refine g_enc hX he hb (zK A e) 0 _ _ _ hS9 hMk9 rfl (Nat.zero_le _) hB9 hK9 (by have := hR.mk6 he; have := encM_len A e; omega) (fun M' h1 h2 h3 => ⟨_, rfl, h2.blk hb, ?_, ?_⟩)
    · refine rc_enc hR he (hC9.tr2 h3 (fun a j q => ?_) fun _ _ q => q.elim) h1 ((h3.2.2.1 _ _ (Nat.lt_of_lt_of_le (show 14 + 80 * e < 223 by omega) hS9.1) (by unfold PE; omega)).trans h90)
      unfold PE at q
      unfold PM
      omega
    · refine (hC9.tr2 h3 (fun a j q => ?_) fun _ _ q => q.elim).mono (fun a j q => ?_) fun _ _ q => q.elim
      · unfold PE at q
        unfold PM
        omega
      · unfold PM at q
        show a < 169
        omega
set_option maxRecDepth 100000 in
set_option maxHeartbeats 4000000 in
theorem enc_two {X : mX} {l : Launch} {M M1 : mM} {A : zA} {e : Nat} {bc bs : Nat} {M2 : mM} (hX : FX X) (hR : RC M A) (he : e < 2) (hc0 : Chg M M1 no2 no2) (hR1 : RC M1 A) (hb : 223 ≤ mN M) (hS2 : Shp M2) (hMk2 : MkC M2 e (zK A e)) (hC2 : Chg M M2 (PM e) no2) (hB2 : TabG M2 (15 + 80 * e) (dropT (zI A (14 + 80 * e) 2) (zB A e 0).1) (zI A (14 + 80 * e) 2)) (hK2 : BK M2 (mN M) (mN M + 1) 8 ([] ++ [(0, zI A (14 + 80 * e) 2, 0, 0)])) (hc2 : Chg M1 M2 (PE e (mN M) (mN M + 1)) no2) (eM : encM A e = (dropT (zI A (14 + 80 * e) 3) (dropT (zI A (14 + 80 * e) 2) (zB A e 0).1), zI A (14 + 80 * e) 3, [(0, zI A (14 + 80 * e) 2, 0, 0), (0, zI A (14 + 80 * e) 3, 0, 0)])) : G X l uEnc_encode (rn 4 90 5 38) bc bs M2 37 [some (.ref (14 + 80 * e)), some (.ref (10 + 80 * e)), some (.ref (mN M)), none] [] (fun r M' => ∃ b, r = some (.ref b) ∧ BlkC 223 M' b (encB A e) ∧ RC M' (encA A e) ∧ Chg M M' cP cP) := by
    refine g_aload_n 37 dEnc_encode_37 rfl ?_
    refine g_aload_n 38 dEnc_encode_38 rfl ?_
    refine g_aload_n 39 dEnc_encode_39 rfl ?_
    refine g_geti 40 4 3 dEnc_encode_40 fs_Enc_26 rfl (hS2.tEnc he) ?_
    refine g_top (zI A (14 + 80 * e) 3) ((hc2.2.2.1 _ _ (by have := hR1.1.1; omega) (by unfold PE; omega)).trans (hR1.sI (sc_N he (by omega) (by omega)))) ?_
    refine g_callV 43 [_, _] dEnc_encode_43 cs_Enc_40 rfl (ci := 4) rfl (by decide) (hS2.tEnc he) rfl ⟨(Nat.le_of_ble_eq_true rfl), (Nat.le_of_ble_eq_true rfl)⟩ (Nat.le_of_ble_eq_true rfl) (ct_encMax hS2 he hB2 hK2 hb (by simp)) (Nat.le_of_ble_eq_true rfl) (Nat.le_of_ble_eq_true rfl) ?_
    rintro _ M3 ⟨rfl, hB3, hK3, hc3⟩
    have hS3 := hS2.mv hc3 (fun _ _ q => q.elim)
    have hMk3 := enc_mk hS2 he hb (Nat.lt_succ_self _) hMk2 hc3
    have hC3 := enc_pm hR.1.1 hC2 hc3
    refine g_aload_n 46 dEnc_encode_46 rfl ?_
    refine g_iconst 47 0 dEnc_encode_47 rfl ?_
    refine g_putz 48 4 1 dEnc_encode_48 ps_Enc_18 rfl (by decide) (hS3.tEnc he) ?_
    have hS9 := hS3
    have hMk9 := hMk3.sN (v := 0)
    have hB9 : TabG (setI M3 (14 + 80 * e) 1 0) (15 + 80 * e) (encM A e).1 (encM A e).2.1 := by rw [eM]; exact hB3.sN
    have hK9 : BK (setI M3 (14 + 80 * e) 1 0) (mN M) (mN M + 1) 8 (encM A e).2.2 := by rw [eM]; exact hK3.sN he hb
    have hC9 : Chg M (setI M3 (14 + 80 * e) 1 0) (PM e) no2 := hC3.setI (Or.inl (Or.inr ⟨rfl, rfl⟩))
    have h90 : mI (setI M3 (14 + 80 * e) 1 0) (14 + 80 * e) 1 = 0 := up2_same
    refine g_iconst 51 (nI 0) dEnc_encode_51 rfl ?_
    refine g_istore_n 52 dEnc_encode_52 (by decide) rfl ?_
    refine g_enc hX he hb (zK A e) 0 _ _ _ hS9 hMk9 rfl (Nat.zero_le _) hB9 hK9 (by have := hR.mk6 he; have := encM_len A e; omega) (fun M' h1 h2 h3 => ⟨_, rfl, h2.blk hb, ?_, ?_⟩)
    · refine rc_enc hR he (hC9.tr2 h3 (fun a j q => ?_) fun _ _ q => q.elim) h1 ((h3.2.2.1 _ _ (Nat.lt_of_lt_of_le (show 14 + 80 * e < 223 by omega) hS9.1) (by unfold PE; omega)).trans h90)
      unfold PE at q
      unfold PM
      omega
    · refine (hC9.tr2 h3 (fun a j q => ?_) fun _ _ q => q.elim).mono (fun a j q => ?_) fun _ _ q => q.elim
      · unfold PE at q
        unfold PM
        omega
      · unfold PM at q
        show a < 169
        omega
set_option maxRecDepth 100000 in
set_option maxHeartbeats 4000000 in
theorem enc_rest {X : mX} {l : Launch} {M M1 : mM} {A : zA} {e : Nat} {bc bs : Nat} (hX : FX X) (hR : RC M A) (he : e < 2) (hK : BK M1 (mN M) (mN M + 1) 8 []) (hc0 : Chg M M1 no2 no2) (hR1 : RC M1 A) (hB : TabG M1 (15 + 80 * e) (zB A e 0).1 (zB A e 0).2) (hb : 223 ≤ mN M) : G X l uEnc_encode (rn 4 90 5 38) bc bs M1 10 [some (.ref (14 + 80 * e)), some (.ref (10 + 80 * e)), some (.ref (mN M)), none] [] (fun r M' => ∃ b, r = some (.ref b) ∧ BlkC 223 M' b (encB A e) ∧ RC M' (encA A e) ∧ Chg M M' cP cP) := by
  refine g_aload_n 10 dEnc_encode_10 rfl ?_
  refine g_geti 11 4 1 dEnc_encode_11 fs_Enc_18 rfl (hR1.1.tEnc he) ?_
  refine g_top (zI A (14 + 80 * e) 1) (hR1.sI (sc_N he (by omega) (by omega))) ?_
  refine g_if_eq 14 51 dEnc_encode_14 rfl (fun h14 => ?_) (fun h14 => ?_)
  · have hS9 := hR1.1
    have hMk9 := hR1.2.2.2.2.2.2.2.2.1 e he
    have eM : encM A e = ((zB A e 0).1, (zB A e 0).2, []) := by unfold encM; rw [if_pos h14]
    have hB9 : TabG M1 (15 + 80 * e) (encM A e).1 (encM A e).2.1 := by rw [eM]; exact hB
    have hK9 : BK M1 (mN M) (mN M + 1) 8 (encM A e).2.2 := by rw [eM]; exact hK
    have hC9 : Chg M M1 (PM e) no2 := hc0.mono (fun _ _ q => q.elim) fun _ _ q => q
    have h90 : mI M1 (14 + 80 * e) 1 = 0 := (hR1.sI (sc_N he (by omega) (by omega))).trans h14
    refine g_iconst 51 (nI 0) dEnc_encode_51 rfl ?_
    refine g_istore_n 52 dEnc_encode_52 (by decide) rfl ?_
    refine g_enc hX he hb (zK A e) 0 _ _ _ hS9 hMk9 rfl (Nat.zero_le _) hB9 hK9 (by have := hR.mk6 he; have := encM_len A e; omega) (fun M' h1 h2 h3 => ⟨_, rfl, h2.blk hb, ?_, ?_⟩)
    · refine rc_enc hR he (hC9.tr2 h3 (fun a j q => ?_) fun _ _ q => q.elim) h1 ((h3.2.2.1 _ _ (Nat.lt_of_lt_of_le (show 14 + 80 * e < 223 by omega) hS9.1) (by unfold PE; omega)).trans h90)
      unfold PE at q
      unfold PM
      omega
    · refine (hC9.tr2 h3 (fun a j q => ?_) fun _ _ q => q.elim).mono (fun a j q => ?_) fun _ _ q => q.elim
      · unfold PE at q
        unfold PM
        omega
      · unfold PM at q
        show a < 169
        omega
  · refine g_aload_n 17 dEnc_encode_17 rfl ?_
    refine g_geti 18 4 2 dEnc_encode_18 fs_Enc_22 rfl (hR1.1.tEnc he) ?_
    refine g_top (zI A (14 + 80 * e) 2) (hR1.sI (sc_N he (by omega) (by omega))) ?_
    refine g_aload_n 21 dEnc_encode_21 rfl ?_
    refine g_geti 22 4 3 dEnc_encode_22 fs_Enc_26 rfl (hR1.1.tEnc he) ?_
    refine g_top (zI A (14 + 80 * e) 3) (hR1.sI (sc_N he (by omega) (by omega))) ?_
    refine g_icmp_ge 25 37 dEnc_encode_25 rfl (fun h25 => ?_) (fun h25 => ?_)
    · have eM : encM A e = (dropT (zI A (14 + 80 * e) 3) (zB A e 0).1, zI A (14 + 80 * e) 3, [(0, zI A (14 + 80 * e) 3, 0, 0)]) := by unfold encM; rw [if_neg h14, if_pos h25]
      exact enc_one hX hR he hK hc0 hR1 hB hb eM
    · have eM : encM A e = (dropT (zI A (14 + 80 * e) 3) (dropT (zI A (14 + 80 * e) 2) (zB A e 0).1), zI A (14 + 80 * e) 3, [(0, zI A (14 + 80 * e) 2, 0, 0), (0, zI A (14 + 80 * e) 3, 0, 0)]) := by unfold encM; rw [if_neg h14, if_neg h25]
      refine g_aload_n 28 dEnc_encode_28 rfl ?_
      refine g_aload_n 29 dEnc_encode_29 rfl ?_
      refine g_aload_n 30 dEnc_encode_30 rfl ?_
      refine g_geti 31 4 2 dEnc_encode_31 fs_Enc_22 rfl (hR1.1.tEnc he) ?_
      refine g_top (zI A (14 + 80 * e) 2) (hR1.sI (sc_N he (by omega) (by omega))) ?_
      refine g_callV 34 [_, _] dEnc_encode_34 cs_Enc_40 rfl (ci := 4) rfl (by decide) (hR1.1.tEnc he) rfl ⟨(Nat.le_of_ble_eq_true rfl), (Nat.le_of_ble_eq_true rfl)⟩ (Nat.le_of_ble_eq_true rfl) (ct_encMax hR1.1 he hB hK hb (by decide)) (Nat.le_of_ble_eq_true rfl) (Nat.le_of_ble_eq_true rfl) ?_
      rintro _ M2 ⟨rfl, hB2, hK2, hc2⟩
      have hS2 := hR1.1.mv hc2 (fun _ _ q => q.elim)
      have hMk2 := enc_mk hR1.1 he hb (Nat.lt_succ_self _) (hR1.2.2.2.2.2.2.2.2.1 e he) hc2
      have hC2 := enc_pm hR.1.1 (hc0.mono (fun _ _ q => q.elim) fun _ _ q => q) hc2
      exact enc_two hX hR he hc0 hR1 hb hS2 hMk2 hC2 hB2 hK2 hc2 eM
set_option maxRecDepth 100000 in
set_option maxHeartbeats 4000000 in
theorem ct_encR {X : mX} {l : Launch} {M : mM} {A : zA} {e : Nat} (hR : RC M A) (he : e < 2) (hX : FX X) : Ct X l uEnc_encode (rn 4 90 5 38) [.ref (14 + 80 * e), .ref (10 + 80 * e)] M (fun r M' => ∃ b, r = some (.ref b) ∧ BlkC 223 M' b (encB A e) ∧ RC M' (encA A e) ∧ Chg M M' cP cP) := by
  refine Ct.of (by decide) (Nat.le_of_ble_eq_true rfl) ?_
  show G X l uEnc_encode (rn 4 90 5 38) 5 38 M 0 [some (.ref (14 + 80 * e)), some (.ref (10 + 80 * e)), none, none] [] _
  refine g_new 0 11 6 dEnc_encode_0 ns_Enc_35 (Nat.le_of_ble_eq_true rfl) (Nat.le_of_ble_eq_true rfl) ?_
  refine g_dup 3 dEnc_encode_3 rfl ?_
  refine g_bipush 4 (nI 8) dEnc_encode_4 rfl ?_
  refine g_callI 6 [_] dEnc_encode_6 cs_Enc_37 rfl rfl ⟨(Nat.le_of_ble_eq_true rfl), (Nat.le_of_ble_eq_true rfl)⟩ (Nat.le_of_ble_eq_true rfl) (ct_Blk_init nT (by decide)) (Nat.le_of_ble_eq_true rfl) (Nat.le_of_ble_eq_true rfl) ?_
  rintro _ _ ⟨rfl, rfl⟩
  obtain ⟨hK, hc0⟩ := BK.new (M := M) (n := 8) (by decide)
  generalize mkBlk (newM M 11 6) (mN M) 8 = M1 at *
  have hR1 := hR.grow hc0
  have hB := hR1.tg0 he
  have hb : 223 ≤ mN M := hR.1.1
  refine g_astore_n 9 dEnc_encode_9 (by decide) rfl ?_
  exact enc_rest hX hR he hK hc0 hR1 hB hb

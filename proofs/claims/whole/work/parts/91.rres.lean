
/-! ===== the calls, the reference over the state: respond; bytes of a number ===== -/
theorem ushr_bv (w : Int64) : ∀ j, j < 8 → (ushr w (nI (8 * j))).toBitVec = w.toBitVec >>> (8 * j) := by
  intro j hj
  unfold ushr
  have h : ∀ j, j < 8 → ((nI (8 * j)).toInt64.toUInt64 &&& Int64.toUInt64 63).toNat = 8 * j := by decide
  show (w.toUInt64 >>> ((nI (8 * j)).toInt64.toUInt64 &&& Int64.toUInt64 63)).toBitVec = _
  rw [UInt64.toBitVec_shiftRight]
  show w.toBitVec >>> (((nI (8 * j)).toInt64.toUInt64 &&& Int64.toUInt64 63).toBitVec % 64).toNat = _
  congr 1
  rw [BitVec.toNat_umod]
  have := h j hj
  show ((nI (8 * j)).toInt64.toUInt64 &&& Int64.toUInt64 63).toNat % 64 = _
  rw [this]
  omega
theorem by_bit (w : Int64) (j i : Nat) (hj : j < 8) (hi : i < 32) : (byR w j).toBitVec.getLsbD i = (decide (i < 8) && w.toBitVec.getLsbD (8 * j + i)) := by
  unfold byR
  rw [if_pos hj]
  have h255 : ∀ i, i < 32 → (255#32).getLsbD i = decide (i < 8) := by decide
  show (((ushr w (nI (8 * j))).toBitVec.signExtend 32) &&& 255#32).getLsbD i = _
  rw [BitVec.getLsbD_and, h255 i hi, ushr_bv w j hj]
  by_cases q : i < 8
  · rw [BitVec.getLsbD_signExtend]
    simp [q, hi, BitVec.getLsbD_ushiftRight]
    omega
  · simp [q]
theorem bW_bit {x : Int32} (h : bW x) (i : Nat) (hi : i < 32) (h8 : ¬ i < 8) : x.toBitVec.getLsbD i = false := by
  have h255 : ∀ i, i < 32 → (255#32).getLsbD i = decide (i < 8) := by decide
  have : x.toBitVec &&& 255#32 = x.toBitVec := congrArg Int32.toBitVec h
  rw [← this, BitVec.getLsbD_and, h255 i hi]
  simp [h8]
theorem x64_bit {x : Int32} (h : bW x) (n : Nat) (hn : n < 64) : x.toInt64.toBitVec.getLsbD n = (decide (n < 8) && x.toBitVec.getLsbD n) := by
  show (x.toBitVec.signExtend 64).getLsbD n = _
  rw [BitVec.getLsbD_signExtend]
  have hm : x.toBitVec.msb = false := by
    rw [BitVec.msb_eq_getLsbD_last]
    exact bW_bit h 31 (by omega) (by omega)
  by_cases q : n < 8
  · have : n < 32 := by omega
    simp [q, hn, this]
  · by_cases q2 : n < 32
    · have h0 := bW_bit h n q2 q
      rw [BitVec.getLsbD_eq_getElem q2] at h0
      simp [q, hn, q2, h0]
    · simp [q, hn, q2, hm]
theorem byR_0 {x : Int32} (h : bW x) (P : Int64) : byR (shl P 1 ||| x.toInt64) 0 = x := by
  apply Int32.toBitVec_inj.mp
  apply BitVec.eq_of_getLsbD_eq
  intro i hi
  rw [by_bit _ 0 i (by omega) hi, Int64.toBitVec_or, BitVec.getLsbD_or, shl_bv P 1 (by omega), x64_bit h _ (by omega)]
  by_cases q : i < 8
  · simp [q, BitVec.getLsbD_shiftLeft]
  · simp [q, bW_bit h i hi q]
theorem byR_s {x : Int32} (h : bW x) (P : Int64) (j : Nat) (hj : j + 1 < 8) : byR (shl P 1 ||| x.toInt64) (j + 1) = byR P j := by
  apply Int32.toBitVec_inj.mp
  apply BitVec.eq_of_getLsbD_eq
  intro i hi
  rw [by_bit _ (j + 1) i hj hi, by_bit P j i (by omega) hi]
  by_cases q : i < 8
  · rw [Int64.toBitVec_or, BitVec.getLsbD_or, shl_bv P 1 (by omega), x64_bit h _ (by omega)]
    have h2 : ¬ 8 * (j + 1) + i < 8 := by omega
    have h3 : 8 * (j + 1) + i < 64 := by omega
    have h4 : 8 * (j + 1) + i - 8 = 8 * j + i := by omega
    simp [q, h2, h3, BitVec.getLsbD_shiftLeft, h4]
    exact (BitVec.getLsbD_eq_getElem (by omega)).symm
  · simp [q]
theorem byR_pk : ∀ (L : List Int32) (j : Nat) (x : Int32), (∀ y, y ∈ L → bW y) → L.length ≤ 8 → L[j]? = some x → byR (pkB L) j = x
  | [], j, x, _, _, h => by simp at h
  | y :: L, 0, x, hb, hl, h => by
    have hy : y = x := by simpa using h
    subst hy
    rw [pkB_sh y L (hb y (List.mem_cons_self ..))]
    exact byR_0 (hb y (List.mem_cons_self ..)) _
  | y :: L, j + 1, x, hb, hl, h => by
    rw [List.getElem?_cons_succ] at h
    have hlt := (List.getElem?_eq_some_iff.mp h).1
    rw [List.length_cons] at hl
    rw [pkB_sh y L (hb y (List.mem_cons_self ..)), byR_s (hb y (List.mem_cons_self ..)) _ j (by omega)]
    exact byR_pk L j x (fun z hz => hb z (List.mem_cons_of_mem _ hz)) (by omega) h
theorem tkP_app : ∀ (L : List Int32) (y : Int32) (g : Nat) (w : Int64), tkP (L ++ [y]) g w = tk1 (tkP L g w) y (g + L.length)
  | [], y, g, w => rfl
  | x :: L, y, g, w => by
    show tkP (L ++ [y]) (g + 1) (tk1 w x g) = tk1 (tkP L (g + 1) (tk1 w x g)) y (g + (L.length + 1))
    rw [tkP_app L y (g + 1), show g + 1 + L.length = g + (L.length + 1) by omega]
set_option maxRecDepth 100000 in
set_option maxHeartbeats 4000000 in
theorem cm_respondR {X : mX} {l : Launch} {M : mM} {A : zA} {e k : Nat} (hR : RR M A) (he : e < 2) (hk : k < 12) (e1 : e = 1) {z : Int32} (hz : z = 0 ∨ z = 1) (hst : zI A (29 + 80 * e + 5 * k) 1 = 1 ∨ zI A (29 + 80 * e + 5 * k) 1 = 3) (hq5 : zI A (29 + 80 * e + 5 * k) 5 = 0) (hmk : ¬ (zK A e).length = 0) (hl6 : zI A (29 + 80 * e + 5 * k) 6 = 0) (hN : ¬ zI A (14 + 80 * e) 1 = 0 → (0 ≤ zI A (14 + 80 * e) 2 ∧ ∃ mt : Nat, mt ≤ 200 ∧ zI A (14 + 80 * e) 3 = nI mt)) {mm : Nat} (hmb : (zB A e 0).2 = nI mm) (hmm : mm ≤ 200) (hz0 : zI A (9 + 80 * e) 3 = 0) (hnf : (zP A (1 - e)).length < 30) : Ct X l uMod_respond (rk 4 98) [.ref 169, .int (nI (2 * k + 1)), .int z] M (fun r M' => r = some (.int (nI (zK A e).length)) ∧ RR M' (sHd A e k z) ∧ Chg M M' mP no2) := by
  refine Ct.of (by decide) (Nat.le_of_ble_eq_true rfl) ?_
  show G X l uMod_respond (rk 4 98) 0 0 M 0 [some (.ref 169), some (.int (nI (2 * k + 1))), some (.int z), none, none, none] [] _
  have hC : Chg M M mP no2 := Chg.rf
  have hu : Rdowns M e = 0 := (hR.dn he).trans hz0
  subst e1
  have hk6 := (hR.mk he).2.1
  have hB : ∀ a j, a ≠ 29 + 80 * 1 + 5 * k → zI (yI (yI A (29 + 80 * 1 + 5 * k) 5 1) (29 + 80 * 1 + 5 * k) 6 z) a j = zI A a j := fun a j q => (zI_a q).trans (zI_a q)
  have hN1 : ¬ zI (yI (yI A (29 + 80 * 1 + 5 * k) 5 1) (29 + 80 * 1 + 5 * k) 6 z) (14 + 80 * 1) 1 = 0 → (0 ≤ zI (yI (yI A (29 + 80 * 1 + 5 * k) 5 1) (29 + 80 * 1 + 5 * k) 6 z) (14 + 80 * 1) 2 ∧ ∃ mt : Nat, mt ≤ 200 ∧ zI (yI (yI A (29 + 80 * 1 + 5 * k) 5 1) (29 + 80 * 1 + 5 * k) 6 z) (14 + 80 * 1) 3 = nI mt) := by
    rw [hB _ 1 (by omega), hB _ 2 (by omega), hB _ 3 (by omega)]
    exact hN
  have hg1 : zI (yI (yI A (29 + 80 * 1 + 5 * k) 5 1) (29 + 80 * 1 + 5 * k) 6 z) (29 + 80 * 1 + 5 * k) 1 = 1 ∨ zI (yI (yI A (29 + 80 * 1 + 5 * k) 5 1) (29 + 80 * 1 + 5 * k) 6 z) (29 + 80 * 1 + 5 * k) 1 = 3 := by
    rw [zI_k (by decide), zI_k (by decide)]
    exact hst
  have hp1 : (zP (yI (yI A (29 + 80 * 1 + 5 * k) 5 1) (29 + 80 * 1 + 5 * k) 6 z) (1 - 1)).length ≤ 44 := (show (zP A (1 - 1)).length ≤ 44 by omega)
  refine g_aload_n 0 dMod_respond_0 rfl ?_
  refine g_iconst 1 (nI 1) dMod_respond_1 rfl ?_
  refine g_callV 2 [_] dMod_respond_2 cs_Mod_309 rfl (ci := 10) rfl (by decide) hR.1.mod rfl ⟨(Nat.le_of_ble_eq_true rfl), (Nat.le_of_ble_eq_true rfl)⟩ (Nat.le_of_ble_eq_true rfl) (ct_up_y hR.1 he hu) (Nat.le_of_ble_eq_true rfl) (Nat.le_of_ble_eq_true rfl) ?_
  rintro _ M2 ⟨rfl, hM2⟩
  rw [hM2]
  clear hM2 M2
  refine g_if_eq 5 24 dMod_respond_5 rfl (fun h5 => ?_) (fun h5 => ?_)
  · exact absurd h5 (by decide)
  · refine g_iload_n 8 dMod_respond_8 rfl ?_
    refine g_callS 9 [_] dMod_respond_9 cs_Mod_246 rfl rfl ⟨(Nat.le_of_ble_eq_true rfl), (Nat.le_of_ble_eq_true rfl)⟩ (Nat.le_of_ble_eq_true rfl) (ct_isStr_y hk) (Nat.le_of_ble_eq_true rfl) (Nat.le_of_ble_eq_true rfl) ?_
    rintro _ M2 ⟨rfl, hM2⟩
    rw [hM2]
    clear hM2 M2
    refine g_if_eq 12 24 dMod_respond_12 rfl (fun h12 => ?_) (fun h12 => ?_)
    · exact absurd h12 (by decide)
    · refine g_aload_n 15 dMod_respond_15 rfl ?_
      refine g_getr 16 10 48 dMod_respond_16 fs_Mod_153 rfl hR.1.mod hR.1.R_making ?_
      refine g_iconst 19 (nI 1) dMod_respond_19 rfl ?_
      refine g_ialdN 20 dMod_respond_20 hR.1.T_making (by omega) (by decide) ?_
      refine g_top (nI ((zK A 1).length)) ((hR.mk he).1) ?_
      refine g_if_neN 21 26 dMod_respond_21 rfl (by omega) (fun h21 => ?_) (fun h21 => ?_)
      · refine g_iconst 26 (nI 1) dMod_respond_26 rfl ?_
        refine g_iload_n 27 dMod_respond_27 rfl ?_
        refine g_callS 28 [_, _] dMod_respond_28 cs_Mod_190 rfl rfl ⟨(Nat.le_of_ble_eq_true rfl), (Nat.le_of_ble_eq_true rfl)⟩ (Nat.le_of_ble_eq_true rfl) (ct_Mod_at (by omega) (by omega)) (Nat.le_of_ble_eq_true rfl) (Nat.le_of_ble_eq_true rfl) ?_
        rintro _ M2 ⟨rfl, hM2⟩
        rw [hM2]
        clear hM2 M2
        refine g_top (nI (12 * 1 + k)) (by rw [show (2 * k + 1) / 2 = k by omega]) ?_
        refine g_istore_n 31 dMod_respond_31 (by decide) rfl ?_
        refine g_aload_n 32 dMod_respond_32 rfl ?_
        refine g_iload_n 33 dMod_respond_33 rfl ?_
        refine g_callV 34 [_] dMod_respond_34 cs_Mod_175 rfl (ci := 10) rfl (by decide) hR.1.mod rfl ⟨(Nat.le_of_ble_eq_true rfl), (Nat.le_of_ble_eq_true rfl)⟩ (Nat.le_of_ble_eq_true rfl) (ct_stM hR he hk) (Nat.le_of_ble_eq_true rfl) (Nat.le_of_ble_eq_true rfl) ?_
        rintro _ M2 ⟨rfl, hM2⟩
        rw [hM2]
        clear hM2 M2
        refine g_istore 37 dMod_respond_37 (by decide) rfl ?_
        refine g_iload 39 dMod_respond_39 rfl ?_
        refine g_iconst 41 1 dMod_respond_41 rfl ?_
        refine g_icmp_eq 42 51 dMod_respond_42 rfl (fun h42 => ?_) (fun h42 => ?_)
        · refine g_aload_n 51 dMod_respond_51 rfl ?_
          refine g_getr 52 10 18 dMod_respond_52 fs_Mod_66 rfl hR.1.mod hR.1.R_responded ?_
          refine g_iload_n 55 dMod_respond_55 rfl ?_
          refine g_zaldN 56 dMod_respond_56 hR.1.T_responded (by omega) (by decide) ?_
          refine g_top (zI A (29 + 80 * 1 + 5 * k) 5) ((hR.stk he hk).2.2.2.1 rfl) ?_
          refine g_if_eq 57 62 dMod_respond_57 rfl (fun h57 => ?_) (fun h57 => ?_)
          · refine g_aload_n 62 dMod_respond_62 rfl ?_
            refine g_iconst 63 (nI 1) dMod_respond_63 rfl ?_
            refine g_callV 64 [_] dMod_respond_64 cs_Mod_315 rfl (ci := 10) rfl (by decide) hR.1.mod rfl ⟨(Nat.le_of_ble_eq_true rfl), (Nat.le_of_ble_eq_true rfl)⟩ (Nat.le_of_ble_eq_true rfl) (ct_fullM hR he) (Nat.le_of_ble_eq_true rfl) (Nat.le_of_ble_eq_true rfl) ?_
            rintro _ M2 ⟨rfl, hM2⟩
            rw [hM2]
            clear hM2 M2
            refine g_if_eq 67 73 dMod_respond_67 rfl (fun h67 => ?_) (fun h67 => ?_)
            · refine g_aload_n 73 dMod_respond_73 rfl ?_
              refine g_getr 74 10 48 dMod_respond_74 fs_Mod_153 rfl hR.1.mod hR.1.R_making ?_
              refine g_iconst 77 (nI 1) dMod_respond_77 rfl ?_
              refine g_ialdN 78 dMod_respond_78 hR.1.T_making (by omega) (by decide) ?_
              refine g_top (nI ((zK A 1).length)) ((hR.mk he).1) ?_
              refine g_istore 79 dMod_respond_79 (by decide) rfl ?_
              refine g_aload_n 81 dMod_respond_81 rfl ?_
              refine g_getr 82 10 18 dMod_respond_82 fs_Mod_66 rfl hR.1.mod hR.1.R_responded ?_
              refine g_iload_n 85 dMod_respond_85 rfl ?_
              refine g_iconst 86 1 dMod_respond_86 rfl ?_
              refine g_zastN 87 dMod_respond_87 hR.1.T_responded (by omega) (by decide) (by decide) ?_
              refine g_memM (hR.rsS he hk) (kM hC (by decide)) (fun M1 hR1 hC1 => ?_)
              refine g_aload_n 88 dMod_respond_88 rfl ?_
              refine g_getr 89 10 19 dMod_respond_89 fs_Mod_69 rfl hR1.1.mod hR1.1.R_lastSaid ?_
              refine g_iload_n 92 dMod_respond_92 rfl ?_
              refine g_iload_n 93 dMod_respond_93 rfl ?_
              refine g_zastN 94 dMod_respond_94 hR1.1.T_lastSaid (by omega) (by decide) hz ?_
              refine g_memM (hR1.lsS he hk) (kM hC1 (by decide)) (fun M2 hR2 hC2 => ?_)
              refine g_aload_n 95 dMod_respond_95 rfl ?_
              refine g_iconst 96 (nI 1) dMod_respond_96 rfl ?_
              refine g_iload_n 97 dMod_respond_97 rfl ?_
              refine g_iload_n 98 dMod_respond_98 rfl ?_
              refine g_callV 99 [_, _, _] dMod_respond_99 cs_Mod_318 rfl (ci := 10) rfl (by decide) hR2.1.mod rfl ⟨(Nat.le_of_ble_eq_true rfl), (Nat.le_of_ble_eq_true rfl)⟩ (Nat.le_of_ble_eq_true rfl) (ct_slM hR2 he hk hz hN1 hmb hmm hg1 hp1) (Nat.le_of_ble_eq_true rfl) (Nat.le_of_ble_eq_true rfl) ?_
              rintro _ M3 ⟨rfl, hR3, hc⟩
              have hC3 := hC2.tr hc
              refine g_iload 102 dMod_respond_102 rfl ?_
              exact g_iret 104 dMod_respond_104 rfl ⟨rfl, by rw [← sHd_eq hz (fun _ => hl6)]; exact hR3, hC3⟩
            · exact absurd (if_neg (by omega)) h67
          · exact absurd hq5 h57
        · refine g_iload 45 dMod_respond_45 rfl ?_
          refine g_iconst 47 3 dMod_respond_47 rfl ?_
          refine g_icmp_ne 48 60 dMod_respond_48 rfl (fun h48 => ?_) (fun h48 => ?_)
          · exact absurd (hst.resolve_left h42) h48
          · refine g_aload_n 51 dMod_respond_51 rfl ?_
            refine g_getr 52 10 18 dMod_respond_52 fs_Mod_66 rfl hR.1.mod hR.1.R_responded ?_
            refine g_iload_n 55 dMod_respond_55 rfl ?_
            refine g_zaldN 56 dMod_respond_56 hR.1.T_responded (by omega) (by decide) ?_
            refine g_top (zI A (29 + 80 * 1 + 5 * k) 5) ((hR.stk he hk).2.2.2.1 rfl) ?_
            refine g_if_eq 57 62 dMod_respond_57 rfl (fun h57 => ?_) (fun h57 => ?_)
            · refine g_aload_n 62 dMod_respond_62 rfl ?_
              refine g_iconst 63 (nI 1) dMod_respond_63 rfl ?_
              refine g_callV 64 [_] dMod_respond_64 cs_Mod_315 rfl (ci := 10) rfl (by decide) hR.1.mod rfl ⟨(Nat.le_of_ble_eq_true rfl), (Nat.le_of_ble_eq_true rfl)⟩ (Nat.le_of_ble_eq_true rfl) (ct_fullM hR he) (Nat.le_of_ble_eq_true rfl) (Nat.le_of_ble_eq_true rfl) ?_
              rintro _ M2 ⟨rfl, hM2⟩
              rw [hM2]
              clear hM2 M2
              refine g_if_eq 67 73 dMod_respond_67 rfl (fun h67 => ?_) (fun h67 => ?_)
              · refine g_aload_n 73 dMod_respond_73 rfl ?_
                refine g_getr 74 10 48 dMod_respond_74 fs_Mod_153 rfl hR.1.mod hR.1.R_making ?_
                refine g_iconst 77 (nI 1) dMod_respond_77 rfl ?_
                refine g_ialdN 78 dMod_respond_78 hR.1.T_making (by omega) (by decide) ?_
                refine g_top (nI ((zK A 1).length)) ((hR.mk he).1) ?_
                refine g_istore 79 dMod_respond_79 (by decide) rfl ?_
                refine g_aload_n 81 dMod_respond_81 rfl ?_
                refine g_getr 82 10 18 dMod_respond_82 fs_Mod_66 rfl hR.1.mod hR.1.R_responded ?_
                refine g_iload_n 85 dMod_respond_85 rfl ?_
                refine g_iconst 86 1 dMod_respond_86 rfl ?_
                refine g_zastN 87 dMod_respond_87 hR.1.T_responded (by omega) (by decide) (by decide) ?_
                refine g_memM (hR.rsS he hk) (kM hC (by decide)) (fun M1 hR1 hC1 => ?_)
                refine g_aload_n 88 dMod_respond_88 rfl ?_
                refine g_getr 89 10 19 dMod_respond_89 fs_Mod_69 rfl hR1.1.mod hR1.1.R_lastSaid ?_
                refine g_iload_n 92 dMod_respond_92 rfl ?_
                refine g_iload_n 93 dMod_respond_93 rfl ?_
                refine g_zastN 94 dMod_respond_94 hR1.1.T_lastSaid (by omega) (by decide) hz ?_
                refine g_memM (hR1.lsS he hk) (kM hC1 (by decide)) (fun M2 hR2 hC2 => ?_)
                refine g_aload_n 95 dMod_respond_95 rfl ?_
                refine g_iconst 96 (nI 1) dMod_respond_96 rfl ?_
                refine g_iload_n 97 dMod_respond_97 rfl ?_
                refine g_iload_n 98 dMod_respond_98 rfl ?_
                refine g_callV 99 [_, _, _] dMod_respond_99 cs_Mod_318 rfl (ci := 10) rfl (by decide) hR2.1.mod rfl ⟨(Nat.le_of_ble_eq_true rfl), (Nat.le_of_ble_eq_true rfl)⟩ (Nat.le_of_ble_eq_true rfl) (ct_slM hR2 he hk hz hN1 hmb hmm hg1 hp1) (Nat.le_of_ble_eq_true rfl) (Nat.le_of_ble_eq_true rfl) ?_
                rintro _ M3 ⟨rfl, hR3, hc⟩
                have hC3 := hC2.tr hc
                refine g_iload 102 dMod_respond_102 rfl ?_
                exact g_iret 104 dMod_respond_104 rfl ⟨rfl, by rw [← sHd_eq hz (fun _ => hl6)]; exact hR3, hC3⟩
              · exact absurd (if_neg (by omega)) h67
            · exact absurd hq5 h57
      · exact absurd h21 hmk

set_option maxRecDepth 100000 in
set_option maxHeartbeats 4000000 in
theorem cm_respond_full {X : mX} {l : Launch} {M : mM} {A : zA} {e k : Nat} (hR : RR M A) (he : e < 2) (hk : k < 12) (e1 : e = 1) {z : Int32} (hst : zI A (29 + 80 * e + 5 * k) 1 = 1 ∨ zI A (29 + 80 * e + 5 * k) 1 = 3) (hq5 : zI A (29 + 80 * e + 5 * k) 5 = 0) (hmk : ¬ (zK A e).length = 0) (hz0 : zI A (9 + 80 * e) 3 = 0) (hfl : 30 ≤ (zP A (1 - e)).length) : Ct X l uMod_respond (rk 4 98) [.ref 169, .int (nI (2 * k + 1)), .int z] M (fun r M' => r = some (.int (-2)) ∧ M' = M) := by
  refine Ct.of (by decide) (Nat.le_of_ble_eq_true rfl) ?_
  show G X l uMod_respond (rk 4 98) 0 0 M 0 [some (.ref 169), some (.int (nI (2 * k + 1))), some (.int z), none, none, none] [] _
  have hC : Chg M M mP no2 := Chg.rf
  have hu : Rdowns M e = 0 := (hR.dn he).trans hz0
  subst e1
  have hk6 := (hR.mk he).2.1
  refine g_aload_n 0 dMod_respond_0 rfl ?_
  refine g_iconst 1 (nI 1) dMod_respond_1 rfl ?_
  refine g_callV 2 [_] dMod_respond_2 cs_Mod_309 rfl (ci := 10) rfl (by decide) hR.1.mod rfl ⟨(Nat.le_of_ble_eq_true rfl), (Nat.le_of_ble_eq_true rfl)⟩ (Nat.le_of_ble_eq_true rfl) (ct_up_y hR.1 he hu) (Nat.le_of_ble_eq_true rfl) (Nat.le_of_ble_eq_true rfl) ?_
  rintro _ M2 ⟨rfl, hM2⟩
  rw [hM2]
  clear hM2 M2
  refine g_if_eq 5 24 dMod_respond_5 rfl (fun h5 => ?_) (fun h5 => ?_)
  · exact absurd h5 (by decide)
  · refine g_iload_n 8 dMod_respond_8 rfl ?_
    refine g_callS 9 [_] dMod_respond_9 cs_Mod_246 rfl rfl ⟨(Nat.le_of_ble_eq_true rfl), (Nat.le_of_ble_eq_true rfl)⟩ (Nat.le_of_ble_eq_true rfl) (ct_isStr_y hk) (Nat.le_of_ble_eq_true rfl) (Nat.le_of_ble_eq_true rfl) ?_
    rintro _ M2 ⟨rfl, hM2⟩
    rw [hM2]
    clear hM2 M2
    refine g_if_eq 12 24 dMod_respond_12 rfl (fun h12 => ?_) (fun h12 => ?_)
    · exact absurd h12 (by decide)
    · refine g_aload_n 15 dMod_respond_15 rfl ?_
      refine g_getr 16 10 48 dMod_respond_16 fs_Mod_153 rfl hR.1.mod hR.1.R_making ?_
      refine g_iconst 19 (nI 1) dMod_respond_19 rfl ?_
      refine g_ialdN 20 dMod_respond_20 hR.1.T_making (by omega) (by decide) ?_
      refine g_top (nI ((zK A 1).length)) ((hR.mk he).1) ?_
      refine g_if_neN 21 26 dMod_respond_21 rfl (by omega) (fun h21 => ?_) (fun h21 => ?_)
      · refine g_iconst 26 (nI 1) dMod_respond_26 rfl ?_
        refine g_iload_n 27 dMod_respond_27 rfl ?_
        refine g_callS 28 [_, _] dMod_respond_28 cs_Mod_190 rfl rfl ⟨(Nat.le_of_ble_eq_true rfl), (Nat.le_of_ble_eq_true rfl)⟩ (Nat.le_of_ble_eq_true rfl) (ct_Mod_at (by omega) (by omega)) (Nat.le_of_ble_eq_true rfl) (Nat.le_of_ble_eq_true rfl) ?_
        rintro _ M2 ⟨rfl, hM2⟩
        rw [hM2]
        clear hM2 M2
        refine g_top (nI (12 * 1 + k)) (by rw [show (2 * k + 1) / 2 = k by omega]) ?_
        refine g_istore_n 31 dMod_respond_31 (by decide) rfl ?_
        refine g_aload_n 32 dMod_respond_32 rfl ?_
        refine g_iload_n 33 dMod_respond_33 rfl ?_
        refine g_callV 34 [_] dMod_respond_34 cs_Mod_175 rfl (ci := 10) rfl (by decide) hR.1.mod rfl ⟨(Nat.le_of_ble_eq_true rfl), (Nat.le_of_ble_eq_true rfl)⟩ (Nat.le_of_ble_eq_true rfl) (ct_stM hR he hk) (Nat.le_of_ble_eq_true rfl) (Nat.le_of_ble_eq_true rfl) ?_
        rintro _ M2 ⟨rfl, hM2⟩
        rw [hM2]
        clear hM2 M2
        refine g_istore 37 dMod_respond_37 (by decide) rfl ?_
        refine g_iload 39 dMod_respond_39 rfl ?_
        refine g_iconst 41 1 dMod_respond_41 rfl ?_
        refine g_icmp_eq 42 51 dMod_respond_42 rfl (fun h42 => ?_) (fun h42 => ?_)
        · refine g_aload_n 51 dMod_respond_51 rfl ?_
          refine g_getr 52 10 18 dMod_respond_52 fs_Mod_66 rfl hR.1.mod hR.1.R_responded ?_
          refine g_iload_n 55 dMod_respond_55 rfl ?_
          refine g_zaldN 56 dMod_respond_56 hR.1.T_responded (by omega) (by decide) ?_
          refine g_top (zI A (29 + 80 * 1 + 5 * k) 5) ((hR.stk he hk).2.2.2.1 rfl) ?_
          refine g_if_eq 57 62 dMod_respond_57 rfl (fun h57 => ?_) (fun h57 => ?_)
          · refine g_aload_n 62 dMod_respond_62 rfl ?_
            refine g_iconst 63 (nI 1) dMod_respond_63 rfl ?_
            refine g_callV 64 [_] dMod_respond_64 cs_Mod_315 rfl (ci := 10) rfl (by decide) hR.1.mod rfl ⟨(Nat.le_of_ble_eq_true rfl), (Nat.le_of_ble_eq_true rfl)⟩ (Nat.le_of_ble_eq_true rfl) (ct_fullM hR he) (Nat.le_of_ble_eq_true rfl) (Nat.le_of_ble_eq_true rfl) ?_
            rintro _ M2 ⟨rfl, hM2⟩
            rw [hM2]
            clear hM2 M2
            refine g_if_eq 67 73 dMod_respond_67 rfl (fun h67 => ?_) (fun h67 => ?_)
            · exact absurd (h67.symm.trans (if_pos hfl)) (by decide)
            · refine g_bipush 70 (-2) dMod_respond_70 rfl ?_
              exact g_iret 72 dMod_respond_72 rfl (by (try rw [if_pos h42]); exact ⟨rfl, rfl⟩)
          · exact absurd hq5 h57
        · refine g_iload 45 dMod_respond_45 rfl ?_
          refine g_iconst 47 3 dMod_respond_47 rfl ?_
          refine g_icmp_ne 48 60 dMod_respond_48 rfl (fun h48 => ?_) (fun h48 => ?_)
          · exact absurd (hst.resolve_left h42) h48
          · refine g_aload_n 51 dMod_respond_51 rfl ?_
            refine g_getr 52 10 18 dMod_respond_52 fs_Mod_66 rfl hR.1.mod hR.1.R_responded ?_
            refine g_iload_n 55 dMod_respond_55 rfl ?_
            refine g_zaldN 56 dMod_respond_56 hR.1.T_responded (by omega) (by decide) ?_
            refine g_top (zI A (29 + 80 * 1 + 5 * k) 5) ((hR.stk he hk).2.2.2.1 rfl) ?_
            refine g_if_eq 57 62 dMod_respond_57 rfl (fun h57 => ?_) (fun h57 => ?_)
            · refine g_aload_n 62 dMod_respond_62 rfl ?_
              refine g_iconst 63 (nI 1) dMod_respond_63 rfl ?_
              refine g_callV 64 [_] dMod_respond_64 cs_Mod_315 rfl (ci := 10) rfl (by decide) hR.1.mod rfl ⟨(Nat.le_of_ble_eq_true rfl), (Nat.le_of_ble_eq_true rfl)⟩ (Nat.le_of_ble_eq_true rfl) (ct_fullM hR he) (Nat.le_of_ble_eq_true rfl) (Nat.le_of_ble_eq_true rfl) ?_
              rintro _ M2 ⟨rfl, hM2⟩
              rw [hM2]
              clear hM2 M2
              refine g_if_eq 67 73 dMod_respond_67 rfl (fun h67 => ?_) (fun h67 => ?_)
              · exact absurd (h67.symm.trans (if_pos hfl)) (by decide)
              · refine g_bipush 70 (-2) dMod_respond_70 rfl ?_
                exact g_iret 72 dMod_respond_72 rfl (by (try rw [if_neg h42]); exact ⟨rfl, rfl⟩)
            · exact absurd hq5 h57
      · exact absurd h21 hmk

set_option maxRecDepth 100000 in
set_option maxHeartbeats 4000000 in
theorem cm_request_full {X : mX} {l : Launch} {M : mM} {A : zA} {e k : Nat} (hR : RR M A) (he : e < 2) (hk : k < 12) (e0 : e = 0) {z : Int32} (hno : zI A (9 + 80 * e) 15 = nI (2 * k + 1)) (hm : ¬ moZ A e = 0) (hz0 : zI A (9 + 80 * e) 3 = 0) (hfl : 30 ≤ (zP A (1 - e)).length) : Ct X l uMod_request (rk 4 98) [.ref 169, .int z] M (fun r M' => r = some (.int (-2)) ∧ M' = M) := by
  refine Ct.of (by decide) (Nat.le_of_ble_eq_true rfl) ?_
  show G X l uMod_request (rk 4 98) 0 0 M 0 [some (.ref 169), some (.int z), none] [] _
  have hC : Chg M M mP no2 := Chg.rf
  have hu : Rdowns M e = 0 := (hR.dn he).trans hz0
  subst e0
  obtain ⟨r0, hr1, hr2, hr3⟩ := hR.2.2.2.1
  have hrk : k = r0 := by have := (nI_eq (a := 2 * r0 + 1) (b := 2 * k + 1) (by omega) (by omega)).mp (hr3.symm.trans hno); omega
  subst hrk
  have hrq : Rrequests M = nI k := hr2
  have hk6 := (hR.mk he).2.1
  refine g_aload_n 0 dMod_request_0 rfl ?_
  refine g_iconst 1 (nI 0) dMod_request_1 rfl ?_
  refine g_callV 2 [_] dMod_request_2 cs_Mod_309 rfl (ci := 10) rfl (by decide) hR.1.mod rfl ⟨(Nat.le_of_ble_eq_true rfl), (Nat.le_of_ble_eq_true rfl)⟩ (Nat.le_of_ble_eq_true rfl) (ct_up_y hR.1 he hu) (Nat.le_of_ble_eq_true rfl) (Nat.le_of_ble_eq_true rfl) ?_
  rintro _ M2 ⟨rfl, hM2⟩
  rw [hM2]
  clear hM2 M2
  refine g_if_eq 5 40 dMod_request_5 rfl (fun h5 => ?_) (fun h5 => ?_)
  · exact absurd h5 (by decide)
  · refine g_aload_n 8 dMod_request_8 rfl ?_
    refine g_geti 9 10 35 dMod_request_9 fs_Mod_312 rfl hR.1.mod ?_
    refine g_top (nI (k)) (hrq) ?_
    refine g_bipush 12 (nI 12) dMod_request_12 rfl ?_
    refine g_icmp_geN 14 40 dMod_request_14 rfl (by omega) (by omega) (fun h14 => ?_) (fun h14 => ?_)
    · exact absurd h14 (by omega)
    · refine g_aload_n 17 dMod_request_17 rfl ?_
      refine g_getr 18 10 48 dMod_request_18 fs_Mod_153 rfl hR.1.mod hR.1.R_making ?_
      refine g_iconst 21 (nI 0) dMod_request_21 rfl ?_
      refine g_ialdN 22 dMod_request_22 hR.1.T_making (by omega) (by decide) ?_
      refine g_top (nI ((zK A 0).length)) ((hR.mk he).1) ?_
      refine g_if_eqN 23 40 dMod_request_23 rfl (by omega) (fun h23 => ?_) (fun h23 => ?_)
      · exact absurd (by unfold moZ; split; rfl; rw [if_pos (by rw [h23]; decide)]) hm
      · refine g_aload_n 26 dMod_request_26 rfl ?_
        refine g_iconst 27 (nI 0) dMod_request_27 rfl ?_
        refine g_callV 28 [_] dMod_request_28 cs_Mod_273 rfl (ci := 10) rfl (by decide) hR.1.mod rfl ⟨(Nat.le_of_ble_eq_true rfl), (Nat.le_of_ble_eq_true rfl)⟩ (Nat.le_of_ble_eq_true rfl) (ct_cntM hR he) (Nat.le_of_ble_eq_true rfl) (Nat.le_of_ble_eq_true rfl) ?_
        rintro _ M2 ⟨rfl, hM2⟩
        rw [hM2]
        clear hM2 M2
        refine g_aload_n 31 dMod_request_31 rfl ?_
        refine g_getr 32 10 37 dMod_request_32 fs_Mod_120 rfl hR.1.mod hR.1.R_told ?_
        refine g_iconst 35 (nI 1) dMod_request_35 rfl ?_
        refine g_ialdN 36 dMod_request_36 hR.1.T_told (by omega) (by decide) ?_
        refine g_top (zI A (25 + 80 * 0) 1) ((hR.se he).2.1.1) ?_
        refine g_icmp_lt 37 42 dMod_request_37 rfl (fun h37 => ?_) (fun h37 => ?_)
        · refine g_aload_n 42 dMod_request_42 rfl ?_
          refine g_iconst 43 (nI 0) dMod_request_43 rfl ?_
          refine g_callV 44 [_] dMod_request_44 cs_Mod_315 rfl (ci := 10) rfl (by decide) hR.1.mod rfl ⟨(Nat.le_of_ble_eq_true rfl), (Nat.le_of_ble_eq_true rfl)⟩ (Nat.le_of_ble_eq_true rfl) (ct_fullM hR he) (Nat.le_of_ble_eq_true rfl) (Nat.le_of_ble_eq_true rfl) ?_
          rintro _ M2 ⟨rfl, hM2⟩
          rw [hM2]
          clear hM2 M2
          refine g_if_eq 47 53 dMod_request_47 rfl (fun h47 => ?_) (fun h47 => ?_)
          · exact absurd (h47.symm.trans (if_pos hfl)) (by decide)
          · refine g_bipush 50 (-2) dMod_request_50 rfl ?_
            exact g_iret 52 dMod_request_52 rfl ⟨rfl, rfl⟩
        · exact absurd (by unfold moZ; split; rfl; split; rfl; rw [if_pos (Int32.not_lt.mp h37)]) hm


/-! ===== the reference over the state: data that comes ===== -/
theorem ct_lrM {X : mX} {l : Launch} {M : mM} {A : zA} {e : Nat} (h : RR M A) (he : e < 2) (hU : zI A (9 + 80 * e) 5 = nI (40 - (zU A e).length)) : Ct X l uMod_linkReceive (rk 0 0) [.ref 169, .int (nI e)] M (fun r M' => r = some (.int (zI A (9 + 80 * e) 5)) ∧ M' = M) := by
  have hu := h.un he
  have : zI A (9 + 80 * e) 5 = 40 - Runread M e := by
    rw [hU, hu.1]
    exact (nI_sub' hu.2.1).symm
  rw [this]
  exact ct_Mod_linkReceive h.1 he
theorem RR.gotS {M : mM} {A : zA} {e k : Nat} {x : Int32} (h : RR M A) (he : e < 2) (hk : k < 12) (hs : ¬ zI A (29 + 80 * e + 5 * k) 1 = 0) : RR (setI M 192 (12 * e + k) (Rgot M (12 * e + k) + x)) (yI A (29 + 80 * e + 5 * k) 4 (zI A (29 + 80 * e + 5 * k) 4 - x)) := by
  refine h.yS (f := up2 (zI A) (29 + 80 * e + 5 * k) 4 (zI A (29 + 80 * e + 5 * k) 4 - x)) he hk (fun a j q => up2_a q) (Chg.rf.setI (Or.inl ⟨by omega, by omega, by omega, rfl⟩)) ?_
  obtain ⟨g1, g2, g3, g4, g5⟩ := h.stk he hk
  have u : ∀ a j, a ≠ 192 → mI (setI M 192 (12 * e + k) (Rgot M (12 * e + k) + x)) a j = mI M a j := fun a j q => up2_a q
  have w : ∀ j, j ≠ 4 → up2 (zI A) (29 + 80 * e + 5 * k) 4 (zI A (29 + 80 * e + 5 * k) 4 - x) (29 + 80 * e + 5 * k) j = zI A (29 + 80 * e + 5 * k) j := fun j q => up2_k q
  unfold StR
  show stR (up2 _ _ _ _ _ 1) (up2 _ _ _ _ _ 2) (mI (setI M _ _ _) 183 _) (mI (setI M _ _ _) 184 _) (mI (setI M _ _ _) 185 _) (mI (setI M _ _ _) 186 _) ∧ (up2 _ _ _ _ _ 1 = 0 → _) ∧ (up2 _ _ _ _ _ 1 = 1 ∨ up2 _ _ _ _ _ 1 = 2 ∨ up2 _ _ _ _ _ 1 = 3 → mI (setI M _ _ _) 206 _ + mI (setI M _ _ _) 191 _ - mI (setI M _ _ _) 190 _ = up2 _ _ _ _ _ 3 ∧ mI (setI M _ _ _) 205 _ + mI (setI M _ _ _) 193 _ - mI (setI M _ _ _) 192 _ = up2 _ _ _ _ _ 4) ∧ (e = 1 → mI (setI M _ _ _) 188 _ = up2 _ _ _ _ _ 5) ∧ mI (setI M _ _ _) 189 _ = up2 _ _ _ _ _ 6
  rw [w 1 (by decide), w 2 (by decide), w 3 (by decide), w 5 (by decide), w 6 (by decide), u 183 _ (by decide), u 184 _ (by decide), u 185 _ (by decide), u 186 _ (by decide), u 206 _ (by decide), u 190 _ (by decide), u 205 _ (by decide), u 193 _ (by decide), u 191 _ (by decide), u 188 _ (by decide), u 189 _ (by decide), up2_same]
  refine ⟨g1, fun q => absurd q hs, fun q => ⟨(g3 q).1, ?_⟩, g4, g5⟩
  rw [show mI (setI M 192 (12 * e + k) (Rgot M (12 * e + k) + x)) 192 (12 * e + k) = Rgot M (12 * e + k) + x from up2_same, sub_mid, ← (g3 q).2]
theorem mg_0 {A : zA} {e k : Nat} (h : zI A (29 + 80 * e + 5 * k) 1 = 3 ∨ zI A (29 + 80 * e + 5 * k) 1 = 4) : mgZ A e k = 0 := by
  unfold mgZ
  rcases h with q | q <;> rw [q] <;> decide
theorem mg_1 {A : zA} {e k : Nat} (h : zI A (29 + 80 * e + 5 * k) 1 = 1 ∨ zI A (29 + 80 * e + 5 * k) 1 = 2) : ¬ mgZ A e k = 0 := by
  unfold mgZ
  rcases h with q | q <;> rw [q] <;> decide
set_option maxRecDepth 100000 in
set_option maxHeartbeats 4000000 in
theorem ct_gDtM_no {X : mX} {l : Launch} {M : mM} {A : zA} {e : Nat} (hR : RR M A) (he : e < 2) {sl : Nat} {f : zF} (hsl : sl < 96) (hF : FrR M sl f) (hfs : ¬ isStr f.2.1) (hp : (zP A (1 - e)).length ≤ 44) : Ct X l uMod_getData (rk 3 74) [.ref 169, .int (nI e), .int (nI sl)] M (fun r M' => r = some (.int (100 + 1)) ∧ RR M' (lerr A e 1) ∧ Chg M M' mP no2) := by
  refine Ct.of (by decide) (Nat.le_of_ble_eq_true rfl) ?_
  show G X l uMod_getData (rk 3 74) 0 0 M 0 [some (.ref 169), some (.int (nI e)), some (.int (nI sl)), none, none, none, none] [] _
  have hC : Chg M M mP no2 := Chg.rf
  refine g_aload_n 0 dMod_getData_0 rfl ?_
  refine g_getr 1 10 4 dMod_getData_1 fs_Mod_22 rfl hR.1.mod hR.1.R_streams ?_
  refine g_iload_n 4 dMod_getData_4 rfl ?_
  refine g_ialdN 5 dMod_getData_5 hR.1.T_streams (by omega) (by decide) ?_
  refine g_top (f.2.1) (hF.2.1) ?_
  refine g_istore_n 6 dMod_getData_6 (by decide) rfl ?_
  refine g_aload_n 7 dMod_getData_7 rfl ?_
  refine g_getr 8 10 5 dMod_getData_8 fs_Mod_25 rfl hR.1.mod hR.1.R_amounts ?_
  refine g_iload_n 11 dMod_getData_11 rfl ?_
  refine g_ialdN 12 dMod_getData_12 hR.1.T_amounts (by omega) (by decide) ?_
  refine g_top (f.2.2.1) (hF.2.2.1) ?_
  refine g_istore 13 dMod_getData_13 (by decide) rfl ?_
  refine g_iload_n 15 dMod_getData_15 rfl ?_
  refine g_callS 16 [_] dMod_getData_16 cs_Mod_246 rfl rfl ⟨(Nat.le_of_ble_eq_true rfl), (Nat.le_of_ble_eq_true rfl)⟩ (Nat.le_of_ble_eq_true rfl) (ct_isStr_n hfs) (Nat.le_of_ble_eq_true rfl) (Nat.le_of_ble_eq_true rfl) ?_
  rintro _ M2 ⟨rfl, hM2⟩
  rw [hM2]
  clear hM2 M2
  refine g_if_eq 19 35 dMod_getData_19 rfl (fun h19 => ?_) (fun h19 => ?_)
  · refine g_aload_n 35 dMod_getData_35 rfl ?_
    refine g_iload_n 36 dMod_getData_36 rfl ?_
    refine g_iconst 37 1 dMod_getData_37 rfl ?_
    refine g_callV 38 [_, _] dMod_getData_38 cs_Mod_249 rfl (ci := 10) rfl (by decide) hR.1.mod rfl ⟨(Nat.le_of_ble_eq_true rfl), (Nat.le_of_ble_eq_true rfl)⟩ (Nat.le_of_ble_eq_true rfl) (ct_lerrM hR he (show (zP A (1 - e)).length < 47 by omega)) (Nat.le_of_ble_eq_true rfl) (Nat.le_of_ble_eq_true rfl) ?_
    rintro _ M1 ⟨rfl, hR1, hc⟩
    have hC1 := hC.tr hc
    exact g_iret 41 dMod_getData_41 rfl ⟨rfl, hR1, hC1⟩
  · exact absurd rfl h19

set_option maxRecDepth 100000 in
set_option maxHeartbeats 4000000 in
theorem g_dtFin {X : mX} {l : Launch} {M0 M : mM} {A : zA} {e k sl n : Nat} {f : zF} (hR : RR M A) (hC : Chg M0 M mP no2) (he : e < 2) (hk : k < 12) (hsl : sl < 96) (hfl : Rflags M sl = f.2.2.2.1) (hz : f.2.2.2.1 = 0 ∨ f.2.2.2.1 = 1) (q12 : zI A (29 + 80 * e + 5 * k) 1 = 1 ∨ zI A (29 + 80 * e + 5 * k) 1 = 2) : G X l uMod_getData (rk 3 74) 0 0 M 259 [some (.ref 169), some (.int (nI e)), some (.int (nI sl)), some (.int (nI (2 * k + 1))), some (.int (nI f.2.2.2.2.2.1.length)), some (.int (nI (12 * e + k))), some (.int (nI n))] [] (fun r M' => r = some (.int 0) ∧ RR M' (if f.2.2.2.1 = 0 then A else endG A e k) ∧ Chg M0 M' mP no2) := by
  refine g_aload_n 259 dMod_getData_259 rfl ?_
  refine g_getr 260 10 16 dMod_getData_260 fs_Mod_60 rfl hR.1.mod hR.1.R_gotEnd ?_
  refine g_iload 263 dMod_getData_263 rfl ?_
  refine g_aload_n 265 dMod_getData_265 rfl ?_
  refine g_getr 266 10 6 dMod_getData_266 fs_Mod_28 rfl hR.1.mod hR.1.R_flags ?_
  refine g_iload_n 269 dMod_getData_269 rfl ?_
  refine g_zaldN 270 dMod_getData_270 hR.1.T_flags (by omega) (by decide) ?_
  refine g_top (f.2.2.2.1) (hfl) ?_
  refine g_zastN 271 dMod_getData_271 hR.1.T_gotEnd (by omega) (by decide) hz ?_
  refine g_memM (hR.eG he hk q12 hz) (kM hC (by decide)) (fun M1 hR1 hC1 => ?_)
  refine g_iconst 272 0 dMod_getData_272 rfl ?_
  exact g_iret 273 dMod_getData_273 rfl ⟨rfl, hR1, hC1⟩
theorem g_dtEnd {X : mX} {l : Launch} {M0 M : mM} {A : zA} {e k sl : Nat} {f : zF} (hR : RR M A) (hC : Chg M0 M mP no2) (he : e < 2) (hk : k < 12) (hsl : sl < 96) (hF : FrR M sl f) (hn : f.2.2.1 = nI f.2.2.2.2.2.1.length) (h0 : f.1 = 0) (hz : f.2.2.2.1 = 0 ∨ f.2.2.2.1 = 1) (q12 : zI A (29 + 80 * e + 5 * k) 1 = 1 ∨ zI A (29 + 80 * e + 5 * k) 1 = 2) (hul : (zU A e).length + f.2.2.2.2.2.1.length ≤ 40) : G X l uMod_getData (rk 3 74) 0 0 (setI M 192 (12 * e + k) (Rgot M (12 * e + k) + nI f.2.2.2.2.2.1.length)) 171 [some (.ref 169), some (.int (nI e)), some (.int (nI sl)), some (.int (nI (2 * k + 1))), some (.int (nI f.2.2.2.2.2.1.length)), some (.int (nI (12 * e + k))), some (.int (nI 0))] [] (fun r M' => r = some (.int (gDt2 A e k f).1) ∧ RR M' (gDt2 A e k f).2 ∧ Chg M0 M' mP no2) := by
  have hs : ¬ zI A (29 + 80 * e + 5 * k) 1 = 0 := by rcases q12 with q | q <;> rw [q] <;> decide
  have hN := hR.1.1
  have hR1 := hR.gotS (x := f.2.2.1) he hk hs
  rw [hn] at hR1
  have c1 : Chg M (setI M 192 (12 * e + k) (Rgot M (12 * e + k) + nI f.2.2.2.2.2.1.length)) (fun a j => a = 192) no2 := Chg.rf.setI (Or.inl rfl)
  have hC1 : Chg M0 (setI M 192 (12 * e + k) (Rgot M (12 * e + k) + nI f.2.2.2.2.2.1.length)) mP no2 := kM hC (by decide)
  have hF1 := hF.mv c1 hN fun a j q => by omega
  generalize setI M 192 (12 * e + k) (Rgot M (12 * e + k) + nI f.2.2.2.2.2.1.length) = M1 at *
  have hun := hR1.un he
  refine g_unM (U := zU A e) (B := f.2.2.2.2.2.1) hR1.1 he hk hsl (hF1.2.2.2.2.2.2 h0).2 hul (fun M2 hI => ?_) f.2.2.2.2.2.1.length 0 (Nat.zero_add _) M1 ⟨Chg.rf, by rw [List.take_zero, List.map_nil, List.append_nil]; exact hun⟩
  have hI2 := hI.2
  rw [List.take_length] at hI2
  have hR2 := hR1.yU he hI2 hI.1
  have hC2 := hC1.tr (mp hI.1 fun a j q => by unfold unP at q; omega)
  have hfl : Rflags M2 sl = f.2.2.2.1 := (hI.1.2.2.1 176 sl (by have := hR1.1.1; omega) (by unfold unP; omega)).trans hF1.2.2.2.1
  have hq := g_dtFin (X := X) (l := l) (n := f.2.2.2.2.2.1.length) hR2 hC2 he hk hsl hfl hz (by show up2 (zI A) _ 4 _ _ 1 = 1 ∨ up2 (zI A) _ 4 _ _ 1 = 2; rw [up2_k (by decide)]; exact q12)
  unfold gDt2
  rw [hn]
  rcases hz with q | q
  · rw [if_pos q]
    rw [if_pos q] at hq
    exact hq
  · have q' : ¬ f.2.2.2.1 = 0 := by rw [q]; decide
    rw [if_neg q']
    rw [if_neg q'] at hq
    exact hq
set_option maxRecDepth 100000 in
set_option maxHeartbeats 4000000 in
theorem ct_gDtM {X : mX} {l : Launch} {M : mM} {A : zA} {e k : Nat} (hR : RR M A) (he : e < 2) (hk : k < 12) {sl : Nat} {f : zF} (hsl : sl < 96) (hF : FrR M sl f) (hfs : f.2.1 = nI (2 * k + 1)) (hp : (zP A (1 - e)).length ≤ 44) (h0 : f.1 = 0) (hU : zI A (9 + 80 * e) 5 = nI (40 - (zU A e).length)) (hU40 : (zU A e).length ≤ 40) (hn : f.2.2.1 = nI f.2.2.2.2.2.1.length) (hn15 : f.2.2.2.2.2.1.length ≤ 15) (hz : f.2.2.2.1 = 0 ∨ f.2.2.2.1 = 1) {b : Bool} (hzl : (zL A e k = none → b = false) ∧ (¬ zL A e k = none → b = true)) : Ct X l uMod_getData (rk 3 74) [.ref 169, .int (nI e), .int (nI sl)] M (fun r M' => r = some (.int (gDt A b e k f).1) ∧ RR M' (gDt A b e k f).2 ∧ Chg M M' mP no2) := by
  refine Ct.of (by decide) (Nat.le_of_ble_eq_true rfl) ?_
  show G X l uMod_getData (rk 3 74) 0 0 M 0 [some (.ref 169), some (.int (nI e)), some (.int (nI sl)), none, none, none, none] [] _
  have hC : Chg M M mP no2 := Chg.rf
  refine g_aload_n 0 dMod_getData_0 rfl ?_
  refine g_getr 1 10 4 dMod_getData_1 fs_Mod_22 rfl hR.1.mod hR.1.R_streams ?_
  refine g_iload_n 4 dMod_getData_4 rfl ?_
  refine g_ialdN 5 dMod_getData_5 hR.1.T_streams (by omega) (by decide) ?_
  refine g_top (nI ((2 * k + 1))) (hF.2.1.trans hfs) ?_
  refine g_istore_n 6 dMod_getData_6 (by decide) rfl ?_
  refine g_aload_n 7 dMod_getData_7 rfl ?_
  refine g_getr 8 10 5 dMod_getData_8 fs_Mod_25 rfl hR.1.mod hR.1.R_amounts ?_
  refine g_iload_n 11 dMod_getData_11 rfl ?_
  refine g_ialdN 12 dMod_getData_12 hR.1.T_amounts (by omega) (by decide) ?_
  refine g_top (nI (f.2.2.2.2.2.1.length)) (hF.2.2.1.trans hn) ?_
  refine g_istore 13 dMod_getData_13 (by decide) rfl ?_
  refine g_iload_n 15 dMod_getData_15 rfl ?_
  refine g_callS 16 [_] dMod_getData_16 cs_Mod_246 rfl rfl ⟨(Nat.le_of_ble_eq_true rfl), (Nat.le_of_ble_eq_true rfl)⟩ (Nat.le_of_ble_eq_true rfl) (ct_isStr_y hk) (Nat.le_of_ble_eq_true rfl) (Nat.le_of_ble_eq_true rfl) ?_
  rintro _ M2 ⟨rfl, hM2⟩
  rw [hM2]
  clear hM2 M2
  refine g_if_eq 19 35 dMod_getData_19 rfl (fun h19 => ?_) (fun h19 => ?_)
  · exact absurd h19 (by decide)
  · refine g_aload_n 22 dMod_getData_22 rfl ?_
    refine g_getr 23 10 13 dMod_getData_23 fs_Mod_51 rfl hR.1.mod hR.1.R_opened ?_
    refine g_iload_n 26 dMod_getData_26 rfl ?_
    refine g_iload_n 27 dMod_getData_27 rfl ?_
    refine g_callS 28 [_, _] dMod_getData_28 cs_Mod_190 rfl rfl ⟨(Nat.le_of_ble_eq_true rfl), (Nat.le_of_ble_eq_true rfl)⟩ (Nat.le_of_ble_eq_true rfl) (ct_Mod_at (by omega) (by omega)) (Nat.le_of_ble_eq_true rfl) (Nat.le_of_ble_eq_true rfl) ?_
    rintro _ M2 ⟨rfl, hM2⟩
    rw [hM2]
    clear hM2 M2
    refine g_top (nI (12 * e + k)) (by rw [show (2 * k + 1) / 2 = k by omega]) ?_
    refine g_zaldN 31 dMod_getData_31 hR.1.T_opened (by omega) (by decide) ?_
    refine g_if_ne 32 42 dMod_getData_32 rfl (fun h32 => ?_) (fun h32 => ?_)
    · have hs : ¬ zI A (29 + 80 * e + 5 * k) 1 = 0 := fun q => h32 ((hR.opn he hk).mpr q)
      refine g_iload 42 dMod_getData_42 rfl ?_
      refine g_aload_n 44 dMod_getData_44 rfl ?_
      refine g_iload_n 45 dMod_getData_45 rfl ?_
      refine g_callV 46 [_] dMod_getData_46 cs_Mod_252 rfl (ci := 10) rfl (by decide) hR.1.mod rfl ⟨(Nat.le_of_ble_eq_true rfl), (Nat.le_of_ble_eq_true rfl)⟩ (Nat.le_of_ble_eq_true rfl) (ct_lrM hR he hU) (Nat.le_of_ble_eq_true rfl) (Nat.le_of_ble_eq_true rfl) ?_
      rintro _ M2 ⟨rfl, hM2⟩
      rw [hM2]
      clear hM2 M2
      refine g_icmp_le 49 59 dMod_getData_49 rfl (fun h49 => ?_) (fun h49 => ?_)
      · have h49n := h49
        have hul : (zU A e).length + f.2.2.2.2.2.1.length ≤ 40 := by rw [hU, nI_leI (by omega) (by omega)] at h49n; omega
        rw [← hn] at h49
        have hR1 : RR M (yI A (9 + 80 * e) 5 (zI A (9 + 80 * e) 5 - f.2.2.1)) := hR.i5
        have hC1 := hC
        have hs1 : ¬ zI (yI A (9 + 80 * e) 5 (zI A (9 + 80 * e) 5 - f.2.2.1)) (29 + 80 * e + 5 * k) 1 = 0 := fun q => hs ((up2_a (by omega)).symm.trans q)
        have hp1 : (zP (yI A (9 + 80 * e) 5 (zI A (9 + 80 * e) 5 - f.2.2.1)) (1 - e)).length ≤ 44 := hp
        refine g_iload_n 59 dMod_getData_59 rfl ?_
        refine g_iload_n 60 dMod_getData_60 rfl ?_
        refine g_callS 61 [_, _] dMod_getData_61 cs_Mod_190 rfl rfl ⟨(Nat.le_of_ble_eq_true rfl), (Nat.le_of_ble_eq_true rfl)⟩ (Nat.le_of_ble_eq_true rfl) (ct_Mod_at (by omega) (by omega)) (Nat.le_of_ble_eq_true rfl) (Nat.le_of_ble_eq_true rfl) ?_
        rintro _ M2 ⟨rfl, hM2⟩
        rw [hM2]
        clear hM2 M2
        refine g_top (nI (12 * e + k)) (by rw [show (2 * k + 1) / 2 = k by omega]) ?_
        refine g_istore 64 dMod_getData_64 (by decide) rfl ?_
        refine g_aload_n 66 dMod_getData_66 rfl ?_
        refine g_getr 67 10 14 dMod_getData_67 fs_Mod_54 rfl hR1.1.mod hR1.1.R_cut ?_
        refine g_iload 70 dMod_getData_70 rfl ?_
        refine g_zaldN 72 dMod_getData_72 hR1.1.T_cut (by omega) (by decide) ?_
        refine g_if_eq 73 85 dMod_getData_73 rfl (fun h73 => ?_) (fun h73 => ?_)
        · refine g_aload_n 85 dMod_getData_85 rfl ?_
          refine g_getr 86 10 16 dMod_getData_86 fs_Mod_60 rfl hR1.1.mod hR1.1.R_gotEnd ?_
          refine g_iload 89 dMod_getData_89 rfl ?_
          refine g_zaldN 91 dMod_getData_91 hR1.1.T_gotEnd (by omega) (by decide) ?_
          refine g_if_eq 92 105 dMod_getData_92 rfl (fun h92 => ?_) (fun h92 => ?_)
          · have q12 := stR_n (hR1.stk he hk).1 hs1 h73 h92
            have q4 : ¬ zI (yI A (9 + 80 * e) 5 (zI A (9 + 80 * e) 5 - f.2.2.1)) (29 + 80 * e + 5 * k) 1 = 4 := by rcases q12 with q | q <;> rw [q] <;> decide
            have qm := mg_1 (A := (yI A (9 + 80 * e) 5 (zI A (9 + 80 * e) 5 - f.2.2.1))) q12
            have qac : ¬ zI (yI A (9 + 80 * e) 5 (zI A (9 + 80 * e) 5 - f.2.2.1)) (29 + 80 * e + 5 * k) 1 = 0 := hs1
            refine g_aload_n 105 dMod_getData_105 rfl ?_
            refine g_getr 106 10 17 dMod_getData_106 fs_Mod_63 rfl hR1.1.mod hR1.1.R_came ?_
            refine g_iload 109 dMod_getData_109 rfl ?_
            refine g_zaldN 111 dMod_getData_111 hR1.1.T_came (by omega) (by decide) ?_
            refine g_if_ne 112 125 dMod_getData_112 rfl (fun h112 => ?_) (fun h112 => ?_)
            · have hb : ¬ b = false := fun q => by rw [hzl.2 (fun w => h112 ((hR1.cm he hk).mpr w))] at q; exact absurd q (by decide)
              refine g_iload 125 dMod_getData_125 rfl ?_
              refine g_if_leN 127 151 dMod_getData_127 rfl (by omega) (fun h127 => ?_) (fun h127 => ?_)
              · have hz2 : gDt A b e k f = gDt2 (yI A (9 + 80 * e) 5 (zI A (9 + 80 * e) 5 - f.2.2.1)) e k f := by unfold gDt; rw [if_neg hs, if_pos h49, if_neg q4]; unfold gDt1; rw [if_neg qm, if_neg hb, if_pos (by rw [hn]; exact (nI_leI (by omega) (by decide)).mpr h127)]
                refine g_aload_n 151 dMod_getData_151 rfl ?_
                refine g_getr 152 10 22 dMod_getData_152 fs_Mod_78 rfl hR1.1.mod hR1.1.R_got ?_
                refine g_iload 155 dMod_getData_155 rfl ?_
                refine g_aload_n 157 dMod_getData_157 rfl ?_
                refine g_getr 158 10 22 dMod_getData_158 fs_Mod_78 rfl hR1.1.mod hR1.1.R_got ?_
                refine g_iload 161 dMod_getData_161 rfl ?_
                refine g_ialdN 163 dMod_getData_163 hR1.1.T_got (by omega) (by decide) ?_
                refine g_iload 164 dMod_getData_164 rfl ?_
                refine g_iadd 166 dMod_getData_166 ?_
                refine g_iastN 167 dMod_getData_167 hR1.1.T_got (by omega) (by decide) ?_
                refine g_iconst 168 (nI 0) dMod_getData_168 rfl ?_
                refine g_istore 169 dMod_getData_169 (by decide) rfl ?_
                rw [hz2]
                exact g_dtEnd hR1 hC1 he hk hsl hF hn h0 hz q12 hul
              · have h127n : ¬ f.2.2.1 ≤ 0 := fun q => h127 ((nI_leI (a := f.2.2.2.2.2.1.length) (b := 0) (by omega) (by decide)).mp (by rw [← hn]; exact q))
                refine g_iload 130 dMod_getData_130 rfl ?_
                refine g_aload_n 132 dMod_getData_132 rfl ?_
                refine g_iload 133 dMod_getData_133 rfl ?_
                refine g_callV 135 [_] dMod_getData_135 cs_Mod_259 rfl (ci := 10) rfl (by decide) hR1.1.mod rfl ⟨(Nat.le_of_ble_eq_true rfl), (Nat.le_of_ble_eq_true rfl)⟩ (Nat.le_of_ble_eq_true rfl) (ct_rwM hR1 he hk hs1 q4) (Nat.le_of_ble_eq_true rfl) (Nat.le_of_ble_eq_true rfl) ?_
                rintro _ M2 ⟨rfl, hM2⟩
                rw [hM2]
                clear hM2 M2
                refine g_icmp_le 138 151 dMod_getData_138 rfl (fun h138 => ?_) (fun h138 => ?_)
                · rw [← hn] at h138
                  have hz2 : gDt A b e k f = gDt2 (yI A (9 + 80 * e) 5 (zI A (9 + 80 * e) 5 - f.2.2.1)) e k f := by unfold gDt; rw [if_neg hs, if_pos h49, if_neg q4]; unfold gDt1; rw [if_neg qm, if_neg hb, if_neg h127n, if_pos h138]
                  refine g_aload_n 151 dMod_getData_151 rfl ?_
                  refine g_getr 152 10 22 dMod_getData_152 fs_Mod_78 rfl hR1.1.mod hR1.1.R_got ?_
                  refine g_iload 155 dMod_getData_155 rfl ?_
                  refine g_aload_n 157 dMod_getData_157 rfl ?_
                  refine g_getr 158 10 22 dMod_getData_158 fs_Mod_78 rfl hR1.1.mod hR1.1.R_got ?_
                  refine g_iload 161 dMod_getData_161 rfl ?_
                  refine g_ialdN 163 dMod_getData_163 hR1.1.T_got (by omega) (by decide) ?_
                  refine g_iload 164 dMod_getData_164 rfl ?_
                  refine g_iadd 166 dMod_getData_166 ?_
                  refine g_iastN 167 dMod_getData_167 hR1.1.T_got (by omega) (by decide) ?_
                  refine g_iconst 168 (nI 0) dMod_getData_168 rfl ?_
                  refine g_istore 169 dMod_getData_169 (by decide) rfl ?_
                  rw [hz2]
                  exact g_dtEnd hR1 hC1 he hk hsl hF hn h0 hz q12 hul
                · rw [← hn] at h138
                  refine g_aload_n 141 dMod_getData_141 rfl ?_
                  refine g_iload_n 142 dMod_getData_142 rfl ?_
                  refine g_iload_n 143 dMod_getData_143 rfl ?_
                  refine g_iconst 144 3 dMod_getData_144 rfl ?_
                  refine g_iload 145 dMod_getData_145 rfl ?_
                  refine g_callV 147 [_, _, _, _] dMod_getData_147 cs_Mod_255 rfl (ci := 10) rfl (by decide) hR1.1.mod rfl ⟨(Nat.le_of_ble_eq_true rfl), (Nat.le_of_ble_eq_true rfl)⟩ (Nat.le_of_ble_eq_true rfl) (ct_rstM hR1 he hk hs1 hp1) (Nat.le_of_ble_eq_true rfl) (Nat.le_of_ble_eq_true rfl) ?_
                  rintro _ M2 ⟨rfl, hR2, hc⟩
                  have hC2 := hC1.tr hc
                  exact g_iret 150 dMod_getData_150 rfl (by unfold gDt; rw [if_neg hs, if_pos h49, if_neg q4]; unfold gDt1; rw [if_neg qm, if_neg hb, if_neg h127n, if_neg h138]; exact ⟨rfl, by have w9 := hR2; rw [← hn] at w9; exact w9, hC2⟩)
            · refine g_aload_n 115 dMod_getData_115 rfl ?_
              refine g_iload_n 116 dMod_getData_116 rfl ?_
              refine g_iload_n 117 dMod_getData_117 rfl ?_
              refine g_iconst 118 1 dMod_getData_118 rfl ?_
              refine g_iload 119 dMod_getData_119 rfl ?_
              refine g_callV 121 [_, _, _, _] dMod_getData_121 cs_Mod_255 rfl (ci := 10) rfl (by decide) hR1.1.mod rfl ⟨(Nat.le_of_ble_eq_true rfl), (Nat.le_of_ble_eq_true rfl)⟩ (Nat.le_of_ble_eq_true rfl) (ct_rstM hR1 he hk hs1 hp1) (Nat.le_of_ble_eq_true rfl) (Nat.le_of_ble_eq_true rfl) ?_
              rintro _ M2 ⟨rfl, hR2, hc⟩
              have hC2 := hC1.tr hc
              exact g_iret 124 dMod_getData_124 rfl (by have hb : b = false := hzl.1 ((hR1.cm he hk).mp h112); unfold gDt; rw [if_neg hs, if_pos h49, if_neg q4]; unfold gDt1; rw [if_neg qm, if_pos hb]; exact ⟨rfl, by have w9 := hR2; rw [← hn] at w9; exact w9, hC2⟩)
          · refine g_aload_n 95 dMod_getData_95 rfl ?_
            refine g_iload_n 96 dMod_getData_96 rfl ?_
            refine g_iload_n 97 dMod_getData_97 rfl ?_
            refine g_iconst 98 5 dMod_getData_98 rfl ?_
            refine g_iload 99 dMod_getData_99 rfl ?_
            refine g_callV 101 [_, _, _, _] dMod_getData_101 cs_Mod_255 rfl (ci := 10) rfl (by decide) hR1.1.mod rfl ⟨(Nat.le_of_ble_eq_true rfl), (Nat.le_of_ble_eq_true rfl)⟩ (Nat.le_of_ble_eq_true rfl) (ct_rstM hR1 he hk hs1 hp1) (Nat.le_of_ble_eq_true rfl) (Nat.le_of_ble_eq_true rfl) ?_
            rintro _ M2 ⟨rfl, hR2, hc⟩
            have hC2 := hC1.tr hc
            exact g_iret 104 dMod_getData_104 rfl (by have q34 : zI (yI A (9 + 80 * e) 5 (zI A (9 + 80 * e) 5 - f.2.2.1)) (29 + 80 * e + 5 * k) 1 = 3 ∨ (zI (yI A (9 + 80 * e) 5 (zI A (9 + 80 * e) 5 - f.2.2.1)) (29 + 80 * e + 5 * k) 1 = 4 ∧ zI (yI A (9 + 80 * e) 5 (zI A (9 + 80 * e) 5 - f.2.2.1)) (29 + 80 * e + 5 * k) 2 = 0) := (by by_cases w : RsentEnd M (12 * e + k) = 0; exact Or.inl (stR_g (hR1.stk he hk).1 h73 h92 w); exact Or.inr (stR_gs (hR1.stk he hk).1 h73 h92 w)); unfold gDt; rw [if_neg hs, if_pos h49]; unfold gDt1; rw [if_pos (mg_0 (q34.imp_right fun w => w.1))]; rcases q34 with w | ⟨w, w2⟩; (rw [if_neg (by rw [w]; decide)]; exact ⟨rfl, by have w9 := hR2; rw [← hn] at w9; exact w9, hC2⟩); (rw [if_pos w, if_pos w2]; exact ⟨rfl, by have w9 := hR2; rw [← hn] at w9; exact w9, hC2⟩))
        · refine g_aload_n 76 dMod_getData_76 rfl ?_
          refine g_iload_n 77 dMod_getData_77 rfl ?_
          refine g_iload 78 dMod_getData_78 rfl ?_
          refine g_callV 80 [_, _] dMod_getData_80 cs_Mod_201 rfl (ci := 10) rfl (by decide) hR1.1.mod rfl ⟨(Nat.le_of_ble_eq_true rfl), (Nat.le_of_ble_eq_true rfl)⟩ (Nat.le_of_ble_eq_true rfl) (ct_giveM hR1 he (by omega)) (Nat.le_of_ble_eq_true rfl) (Nat.le_of_ble_eq_true rfl) ?_
          rintro _ M2 ⟨rfl, hR2, hc⟩
          have hC2 := hC1.tr hc
          refine g_iconst 83 0 dMod_getData_83 rfl ?_
          exact g_iret 84 dMod_getData_84 rfl (by obtain ⟨q4, q2⟩ := stR_cut (hR1.stk he hk).1 h73; unfold gDt; rw [if_neg hs, if_pos h49, if_pos q4, if_neg q2]; exact ⟨rfl, by have w9 := hR2; rw [← hn] at w9; exact w9, hC2⟩)
      · rw [← hn] at h49
        refine g_aload_n 52 dMod_getData_52 rfl ?_
        refine g_iload_n 53 dMod_getData_53 rfl ?_
        refine g_iconst 54 3 dMod_getData_54 rfl ?_
        refine g_callV 55 [_, _] dMod_getData_55 cs_Mod_249 rfl (ci := 10) rfl (by decide) hR.1.mod rfl ⟨(Nat.le_of_ble_eq_true rfl), (Nat.le_of_ble_eq_true rfl)⟩ (Nat.le_of_ble_eq_true rfl) (ct_lerrM hR he (show (zP A (1 - e)).length < 47 by omega)) (Nat.le_of_ble_eq_true rfl) (Nat.le_of_ble_eq_true rfl) ?_
        rintro _ M1 ⟨rfl, hR1, hc⟩
        have hC1 := hC.tr hc
        exact g_iret 58 dMod_getData_58 rfl (by unfold gDt; rw [if_neg hs, if_neg h49]; exact ⟨rfl, hR1, hC1⟩)
    · have hs : zI A (29 + 80 * e + 5 * k) 1 = 0 := (hR.opn he hk).mp h32
      refine g_aload_n 35 dMod_getData_35 rfl ?_
      refine g_iload_n 36 dMod_getData_36 rfl ?_
      refine g_iconst 37 1 dMod_getData_37 rfl ?_
      refine g_callV 38 [_, _] dMod_getData_38 cs_Mod_249 rfl (ci := 10) rfl (by decide) hR.1.mod rfl ⟨(Nat.le_of_ble_eq_true rfl), (Nat.le_of_ble_eq_true rfl)⟩ (Nat.le_of_ble_eq_true rfl) (ct_lerrM hR he (show (zP A (1 - e)).length < 47 by omega)) (Nat.le_of_ble_eq_true rfl) (Nat.le_of_ble_eq_true rfl) ?_
      rintro _ M1 ⟨rfl, hR1, hc⟩
      have hC1 := hC.tr hc
      exact g_iret 41 dMod_getData_41 rfl (by unfold gDt; rw [if_pos hs]; exact ⟨rfl, hR1, hC1⟩)

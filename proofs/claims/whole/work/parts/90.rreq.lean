theorem lc_Mod_330 : Cond.constantLong "InterleavedLinkModel" 330 (-2) ∈ gW := gW_in 1227 (by decide +kernel) rfl
theorem fs_Mod_96 : fS "InterleavedLinkModel" 96 10 28 := ⟨"InterleavedLinkModel", T_Mod, 56, cf_Mod, by decide, Or.inl (gW_in 889 (by decide +kernel) rfl)⟩
theorem ps_Mod_312 {nm : String} : pS "InterleavedLinkModel" nm 312 10 35 .int := ⟨"InterleavedLinkModel", T_Mod, 56, cf_Mod, by decide, by decide +kernel, Or.inl ⟨rfl, Or.inl (gW_in 896 (by decide +kernel) rfl)⟩⟩
theorem cs_Mod_318 : cV "InterleavedLinkModel" 318 uMod_sendList 3 := ⟨⟨Or.inl (gW_in 1190 (by decide +kernel) rfl), (gW_in 74 (by decide +kernel) rfl), (gW_in 1193 (by decide +kernel) rfl), ⟨by decide, by decide⟩, by decide +kernel⟩, (gW_in 1192 (by decide +kernel) rfl), (gW_in 57 (by decide +kernel) rfl)⟩
/-! ===== the calls, the reference over the state: read, write, request, respond ===== -/
set_option maxRecDepth 100000 in
set_option maxHeartbeats 4000000 in
theorem cm_readR {X : mX} {l : Launch} {M : mM} {A : zA} {e k : Nat} (hR : RR M A) (he : e < 2) (hk : k < 12) {N : Nat} (h1 : 1 ≤ N) (h7 : N ≤ 7) (hs : ¬ zI A (29 + 80 * e + 5 * k) 1 = 0) (hb : ∀ x, x ∈ unrd (zU A e) k → bW x) (hz0 : zI A (9 + 80 * e) 3 = 0) (hnf : (zP A (1 - e)).length < 30) : Ct X l uMod_read (rk 2 48) [.ref 169, .int (nI e), .int (nI (2 * k + 1)), .int (nI N)] M (fun r M' => r = some (.long (pkB (rdP A e k (nI N)))) ∧ RR M' (rdA A e k (nI N)) ∧ Chg M M' mP no2) := by
  refine Ct.of (by decide) (Nat.le_of_ble_eq_true rfl) ?_
  show G X l uMod_read (rk 2 48) 0 0 M 0 [some (.ref 169), some (.int (nI e)), some (.int (nI (2 * k + 1))), some (.int (nI N)), none, none, none] [] _
  have hC : Chg M M mP no2 := Chg.rf
  have hu : Rdowns M e = 0 := (hR.dn he).trans hz0
  have hun := (hR.un he).2.1
  have hul := unrd_len (zU A e) k
  have hs2 : ¬ zI (give (yU A e (tkU (zU A e) k N)) e (nI (min N (unrd (zU A e) k).length))) (29 + 80 * e + 5 * k) 1 = 0 := by rw [give_I (by omega)]; exact hs
  have hpk : tkP ((unrd (zU A e) k).take N) 0 0 = pkB (rdP A e k (nI N)) := by rw [rd_P h7]; exact tkP_0 (fun x hx => hb x (List.mem_of_mem_take hx)) (by rw [List.length_take]; omega)
  refine g_aload_n 0 dMod_read_0 rfl ?_
  refine g_iload_n 1 dMod_read_1 rfl ?_
  refine g_callV 2 [_] dMod_read_2 cs_Mod_309 rfl (ci := 10) rfl (by decide) hR.1.mod rfl ⟨(Nat.le_of_ble_eq_true rfl), (Nat.le_of_ble_eq_true rfl)⟩ (Nat.le_of_ble_eq_true rfl) (ct_up_y hR.1 he hu) (Nat.le_of_ble_eq_true rfl) (Nat.le_of_ble_eq_true rfl) ?_
  rintro _ M2 ⟨rfl, hM2⟩
  rw [hM2]
  clear hM2 M2
  refine g_if_eq 5 39 dMod_read_5 rfl (fun h5 => ?_) (fun h5 => ?_)
  · exact absurd h5 (by decide)
  · refine g_iload_n 8 dMod_read_8 rfl ?_
    refine g_callS 9 [_] dMod_read_9 cs_Mod_246 rfl rfl ⟨(Nat.le_of_ble_eq_true rfl), (Nat.le_of_ble_eq_true rfl)⟩ (Nat.le_of_ble_eq_true rfl) (ct_isStr_y hk) (Nat.le_of_ble_eq_true rfl) (Nat.le_of_ble_eq_true rfl) ?_
    rintro _ M2 ⟨rfl, hM2⟩
    rw [hM2]
    clear hM2 M2
    refine g_if_eq 12 39 dMod_read_12 rfl (fun h12 => ?_) (fun h12 => ?_)
    · exact absurd h12 (by decide)
    · refine g_iload_n 15 dMod_read_15 rfl ?_
      refine g_iconst 16 (nI 1) dMod_read_16 rfl ?_
      refine g_icmp_ltN 17 39 dMod_read_17 rfl (by omega) (by omega) (fun h17 => ?_) (fun h17 => ?_)
      · exact absurd h17 (by omega)
      · refine g_iload_n 20 dMod_read_20 rfl ?_
        refine g_bipush 21 (nI 7) dMod_read_21 rfl ?_
        refine g_icmp_gtN 23 39 dMod_read_23 rfl (by omega) (by omega) (fun h23 => ?_) (fun h23 => ?_)
        · exact absurd h23 (by omega)
        · refine g_aload_n 26 dMod_read_26 rfl ?_
          refine g_getr 27 10 13 dMod_read_27 fs_Mod_51 rfl hR.1.mod hR.1.R_opened ?_
          refine g_iload_n 30 dMod_read_30 rfl ?_
          refine g_iload_n 31 dMod_read_31 rfl ?_
          refine g_callS 32 [_, _] dMod_read_32 cs_Mod_190 rfl rfl ⟨(Nat.le_of_ble_eq_true rfl), (Nat.le_of_ble_eq_true rfl)⟩ (Nat.le_of_ble_eq_true rfl) (ct_Mod_at (by omega) (by omega)) (Nat.le_of_ble_eq_true rfl) (Nat.le_of_ble_eq_true rfl) ?_
          rintro _ M2 ⟨rfl, hM2⟩
          rw [hM2]
          clear hM2 M2
          refine g_top (nI (12 * e + k)) (by rw [show (2 * k + 1) / 2 = k by omega]) ?_
          refine g_zaldN 35 dMod_read_35 hR.1.T_opened (by omega) (by decide) ?_
          refine g_if_ne 36 43 dMod_read_36 rfl (fun h36 => ?_) (fun h36 => ?_)
          · refine g_aload_n 43 dMod_read_43 rfl ?_
            refine g_iload_n 44 dMod_read_44 rfl ?_
            refine g_callV 45 [_] dMod_read_45 cs_Mod_315 rfl (ci := 10) rfl (by decide) hR.1.mod rfl ⟨(Nat.le_of_ble_eq_true rfl), (Nat.le_of_ble_eq_true rfl)⟩ (Nat.le_of_ble_eq_true rfl) (ct_fullM hR he) (Nat.le_of_ble_eq_true rfl) (Nat.le_of_ble_eq_true rfl) ?_
            rintro _ M2 ⟨rfl, hM2⟩
            rw [hM2]
            clear hM2 M2
            refine g_if_eq 48 55 dMod_read_48 rfl (fun h48 => ?_) (fun h48 => ?_)
            · refine g_iload_n 55 dMod_read_55 rfl ?_
              refine g_iload_n 56 dMod_read_56 rfl ?_
              refine g_callS 57 [_, _] dMod_read_57 cs_Mod_190 rfl rfl ⟨(Nat.le_of_ble_eq_true rfl), (Nat.le_of_ble_eq_true rfl)⟩ (Nat.le_of_ble_eq_true rfl) (ct_Mod_at (by omega) (by omega)) (Nat.le_of_ble_eq_true rfl) (Nat.le_of_ble_eq_true rfl) ?_
              rintro _ M2 ⟨rfl, hM2⟩
              rw [hM2]
              clear hM2 M2
              refine g_top (nI (12 * e + k)) (by rw [show (2 * k + 1) / 2 = k by omega]) ?_
              refine g_istore 60 dMod_read_60 (by decide) rfl ?_
              refine g_aload_n 62 dMod_read_62 rfl ?_
              refine g_iload_n 63 dMod_read_63 rfl ?_
              refine g_iload_n 64 dMod_read_64 rfl ?_
              refine g_iload_n 65 dMod_read_65 rfl ?_
              refine g_callV 66 [_, _, _] dMod_read_66 cs_Mod_194 rfl (ci := 10) rfl (by decide) hR.1.mod rfl ⟨(Nat.le_of_ble_eq_true rfl), (Nat.le_of_ble_eq_true rfl)⟩ (Nat.le_of_ble_eq_true rfl) (ct_dropM hR he hk (N := N) (by omega)) (Nat.le_of_ble_eq_true rfl) (Nat.le_of_ble_eq_true rfl) ?_
              rintro _ M1 ⟨rfl, hR1, hc, ht1⟩
              have hC1 := hC.tr hc
              refine g_istore 69 dMod_read_69 (by decide) rfl ?_
              refine g_aload_n 71 dMod_read_71 rfl ?_
              refine g_iload_n 72 dMod_read_72 rfl ?_
              refine g_iload 73 dMod_read_73 rfl ?_
              refine g_callV 75 [_, _] dMod_read_75 cs_Mod_201 rfl (ci := 10) rfl (by decide) hR1.1.mod rfl ⟨(Nat.le_of_ble_eq_true rfl), (Nat.le_of_ble_eq_true rfl)⟩ (Nat.le_of_ble_eq_true rfl) (ct_giveT hR1 he (show (zP A (1 - e)).length < 47 by omega)) (Nat.le_of_ble_eq_true rfl) (Nat.le_of_ble_eq_true rfl) ?_
              rintro _ M2 ⟨rfl, hR2, hc, ht2⟩
              have hC2 := hC1.tr hc
              refine g_aload_n 78 dMod_read_78 rfl ?_
              refine g_iload 79 dMod_read_79 rfl ?_
              refine g_callV 81 [_] dMod_read_81 cs_Mod_175 rfl (ci := 10) rfl (by decide) hR2.1.mod rfl ⟨(Nat.le_of_ble_eq_true rfl), (Nat.le_of_ble_eq_true rfl)⟩ (Nat.le_of_ble_eq_true rfl) (ct_stM hR2 he hk) (Nat.le_of_ble_eq_true rfl) (Nat.le_of_ble_eq_true rfl) ?_
              rintro _ M2 ⟨rfl, hM2⟩
              rw [hM2]
              clear hM2 M2
              refine g_istore 84 dMod_read_84 (by decide) rfl ?_
              refine g_iload 86 dMod_read_86 rfl ?_
              refine g_if_leN 88 134 dMod_read_88 rfl (by omega) (fun h88 => ?_) (fun h88 => ?_)
              · refine g_aload_n 134 dMod_read_134 rfl ?_
                refine g_getl 135 10 55 dMod_read_135 fs_Mod_186 rfl hR2.1.mod ?_
                exact g_lret 138 dMod_read_138 rfl ⟨congrArg some (congrArg Value.long (by first | exact (ht4.trans (ht3.trans (ht2.trans ht1))).trans hpk | exact (ht2.trans ht1).trans hpk)), by unfold rdA; rw [rd_L h7, rd_1 h7]; first | (rw [if_pos h88]; exact hR2) | (rw [if_neg h88, if_pos (show mgZ (give (yU A e (tkU (zU A e) k N)) e (nI (min N (unrd (zU A e) k).length))) e k = 0 by unfold mgZ; rw [if_neg h94, if_pos h100])]; exact hR2) | (rw [if_neg h88, if_neg (show ¬ mgZ (give (yU A e (tkU (zU A e) k N)) e (nI (min N (unrd (zU A e) k).length))) e k = 0 by unfold mgZ; first | (rw [if_pos h94]; decide) | (rw [if_neg h94, if_neg (by rw [h100]; decide)]; decide))]; exact hR2), hC2⟩
              · refine g_iload 91 dMod_read_91 rfl ?_
                refine g_iconst 93 1 dMod_read_93 rfl ?_
                refine g_icmp_eq 94 103 dMod_read_94 rfl (fun h94 => ?_) (fun h94 => ?_)
                · refine g_aload_n 103 dMod_read_103 rfl ?_
                  refine g_getr 104 10 23 dMod_read_104 fs_Mod_81 rfl hR2.1.mod hR2.1.R_back ?_
                  refine g_iload 107 dMod_read_107 rfl ?_
                  refine g_aload_n 109 dMod_read_109 rfl ?_
                  refine g_getr 110 10 23 dMod_read_110 fs_Mod_81 rfl hR2.1.mod hR2.1.R_back ?_
                  refine g_iload 113 dMod_read_113 rfl ?_
                  refine g_ialdN 115 dMod_read_115 hR2.1.T_back (by omega) (by decide) ?_
                  refine g_iload 116 dMod_read_116 rfl ?_
                  refine g_iadd 118 dMod_read_118 ?_
                  refine g_iastN 119 dMod_read_119 hR2.1.T_back (by omega) (by decide) ?_
                  refine g_memT (N0 := M2) (hR2.backS he hk hs2) (kM hC2 (by decide)) rfl (fun M3 hR3 hC3 ht3 => ?_)
                  refine g_aload_n 120 dMod_read_120 rfl ?_
                  refine g_iconst 121 (nI 1) dMod_read_121 rfl ?_
                  refine g_iload_n 122 dMod_read_122 rfl ?_
                  refine g_isubN 123 dMod_read_123 (by omega) ?_
                  refine g_bipush 124 8 dMod_read_124 rfl ?_
                  refine g_iload_n 126 dMod_read_126 rfl ?_
                  refine g_iload 127 dMod_read_127 rfl ?_
                  refine g_iconst 129 0 dMod_read_129 rfl ?_
                  refine g_callV 130 [_, _, _, _, _] dMod_read_130 cs_Mod_182 rfl (ci := 10) rfl (by decide) hR3.1.mod rfl ⟨(Nat.le_of_ble_eq_true rfl), (Nat.le_of_ble_eq_true rfl)⟩ (Nat.le_of_ble_eq_true rfl) (ct_pushT hR3 (by omega) (Nat.lt_of_le_of_lt give_len (show (zP A (1 - e)).length + 1 < 47 by omega)) (Or.inl rfl) [] (fun q => absurd q (by decide)) (fun q => absurd q (by decide))) (Nat.le_of_ble_eq_true rfl) (Nat.le_of_ble_eq_true rfl) ?_
                  rintro _ M4 ⟨sl, hsl, rfl, hla, hR4, hc, ht4⟩
                  have hC4 := hC3.tr hc
                  refine g_pop 133 dMod_read_133 rfl ?_
                  refine g_aload_n 134 dMod_read_134 rfl ?_
                  refine g_getl 135 10 55 dMod_read_135 fs_Mod_186 rfl hR4.1.mod ?_
                  exact g_lret 138 dMod_read_138 rfl ⟨congrArg some (congrArg Value.long (by first | exact (ht4.trans (ht3.trans (ht2.trans ht1))).trans hpk | exact (ht2.trans ht1).trans hpk)), by unfold rdA; rw [rd_L h7, rd_1 h7]; first | (rw [if_pos h88]; exact hR4) | (rw [if_neg h88, if_pos (show mgZ (give (yU A e (tkU (zU A e) k N)) e (nI (min N (unrd (zU A e) k).length))) e k = 0 by unfold mgZ; rw [if_neg h94, if_pos h100])]; exact hR4) | (rw [if_neg h88, if_neg (show ¬ mgZ (give (yU A e (tkU (zU A e) k N)) e (nI (min N (unrd (zU A e) k).length))) e k = 0 by unfold mgZ; first | (rw [if_pos h94]; decide) | (rw [if_neg h94, if_neg (by rw [h100]; decide)]; decide))]; exact hR4), hC4⟩
                · refine g_iload 97 dMod_read_97 rfl ?_
                  refine g_iconst 99 2 dMod_read_99 rfl ?_
                  refine g_icmp_ne 100 134 dMod_read_100 rfl (fun h100 => ?_) (fun h100 => ?_)
                  · refine g_aload_n 134 dMod_read_134 rfl ?_
                    refine g_getl 135 10 55 dMod_read_135 fs_Mod_186 rfl hR2.1.mod ?_
                    exact g_lret 138 dMod_read_138 rfl ⟨congrArg some (congrArg Value.long (by first | exact (ht4.trans (ht3.trans (ht2.trans ht1))).trans hpk | exact (ht2.trans ht1).trans hpk)), by unfold rdA; rw [rd_L h7, rd_1 h7]; first | (rw [if_pos h88]; exact hR2) | (rw [if_neg h88, if_pos (show mgZ (give (yU A e (tkU (zU A e) k N)) e (nI (min N (unrd (zU A e) k).length))) e k = 0 by unfold mgZ; rw [if_neg h94, if_pos h100])]; exact hR2) | (rw [if_neg h88, if_neg (show ¬ mgZ (give (yU A e (tkU (zU A e) k N)) e (nI (min N (unrd (zU A e) k).length))) e k = 0 by unfold mgZ; first | (rw [if_pos h94]; decide) | (rw [if_neg h94, if_neg (by rw [h100]; decide)]; decide))]; exact hR2), hC2⟩
                  · refine g_aload_n 103 dMod_read_103 rfl ?_
                    refine g_getr 104 10 23 dMod_read_104 fs_Mod_81 rfl hR2.1.mod hR2.1.R_back ?_
                    refine g_iload 107 dMod_read_107 rfl ?_
                    refine g_aload_n 109 dMod_read_109 rfl ?_
                    refine g_getr 110 10 23 dMod_read_110 fs_Mod_81 rfl hR2.1.mod hR2.1.R_back ?_
                    refine g_iload 113 dMod_read_113 rfl ?_
                    refine g_ialdN 115 dMod_read_115 hR2.1.T_back (by omega) (by decide) ?_
                    refine g_iload 116 dMod_read_116 rfl ?_
                    refine g_iadd 118 dMod_read_118 ?_
                    refine g_iastN 119 dMod_read_119 hR2.1.T_back (by omega) (by decide) ?_
                    refine g_memT (N0 := M2) (hR2.backS he hk hs2) (kM hC2 (by decide)) rfl (fun M3 hR3 hC3 ht3 => ?_)
                    refine g_aload_n 120 dMod_read_120 rfl ?_
                    refine g_iconst 121 (nI 1) dMod_read_121 rfl ?_
                    refine g_iload_n 122 dMod_read_122 rfl ?_
                    refine g_isubN 123 dMod_read_123 (by omega) ?_
                    refine g_bipush 124 8 dMod_read_124 rfl ?_
                    refine g_iload_n 126 dMod_read_126 rfl ?_
                    refine g_iload 127 dMod_read_127 rfl ?_
                    refine g_iconst 129 0 dMod_read_129 rfl ?_
                    refine g_callV 130 [_, _, _, _, _] dMod_read_130 cs_Mod_182 rfl (ci := 10) rfl (by decide) hR3.1.mod rfl ⟨(Nat.le_of_ble_eq_true rfl), (Nat.le_of_ble_eq_true rfl)⟩ (Nat.le_of_ble_eq_true rfl) (ct_pushT hR3 (by omega) (Nat.lt_of_le_of_lt give_len (show (zP A (1 - e)).length + 1 < 47 by omega)) (Or.inl rfl) [] (fun q => absurd q (by decide)) (fun q => absurd q (by decide))) (Nat.le_of_ble_eq_true rfl) (Nat.le_of_ble_eq_true rfl) ?_
                    rintro _ M4 ⟨sl, hsl, rfl, hla, hR4, hc, ht4⟩
                    have hC4 := hC3.tr hc
                    refine g_pop 133 dMod_read_133 rfl ?_
                    refine g_aload_n 134 dMod_read_134 rfl ?_
                    refine g_getl 135 10 55 dMod_read_135 fs_Mod_186 rfl hR4.1.mod ?_
                    exact g_lret 138 dMod_read_138 rfl ⟨congrArg some (congrArg Value.long (by first | exact (ht4.trans (ht3.trans (ht2.trans ht1))).trans hpk | exact (ht2.trans ht1).trans hpk)), by unfold rdA; rw [rd_L h7, rd_1 h7]; first | (rw [if_pos h88]; exact hR4) | (rw [if_neg h88, if_pos (show mgZ (give (yU A e (tkU (zU A e) k N)) e (nI (min N (unrd (zU A e) k).length))) e k = 0 by unfold mgZ; rw [if_neg h94, if_pos h100])]; exact hR4) | (rw [if_neg h88, if_neg (show ¬ mgZ (give (yU A e (tkU (zU A e) k N)) e (nI (min N (unrd (zU A e) k).length))) e k = 0 by unfold mgZ; first | (rw [if_pos h94]; decide) | (rw [if_neg h94, if_neg (by rw [h100]; decide)]; decide))]; exact hR4), hC4⟩
            · exact absurd (if_neg (by omega)) h48
          · exact absurd ((hR.opn he hk).mp h36) hs

set_option maxRecDepth 100000 in
set_option maxHeartbeats 4000000 in
theorem cm_read_bad {X : mX} {l : Launch} {M : mM} {A : zA} {e k : Nat} (hR : RR M A) (he : e < 2) (hk : k < 12) {n : Int32} (hh : wi n 1 7 = 0) (hz0 : zI A (9 + 80 * e) 3 = 0) : Ct X l uMod_read (rk 2 48) [.ref 169, .int (nI e), .int (nI (2 * k + 1)), .int n] M (fun r M' => r = some (.long (-1)) ∧ M' = M) := by
  refine Ct.of (by decide) (Nat.le_of_ble_eq_true rfl) ?_
  show G X l uMod_read (rk 2 48) 0 0 M 0 [some (.ref 169), some (.int (nI e)), some (.int (nI (2 * k + 1))), some (.int n), none, none, none] [] _
  have hC : Chg M M mP no2 := Chg.rf
  have hu : Rdowns M e = 0 := (hR.dn he).trans hz0
  refine g_aload_n 0 dMod_read_0 rfl ?_
  refine g_iload_n 1 dMod_read_1 rfl ?_
  refine g_callV 2 [_] dMod_read_2 cs_Mod_309 rfl (ci := 10) rfl (by decide) hR.1.mod rfl ⟨(Nat.le_of_ble_eq_true rfl), (Nat.le_of_ble_eq_true rfl)⟩ (Nat.le_of_ble_eq_true rfl) (ct_up_y hR.1 he hu) (Nat.le_of_ble_eq_true rfl) (Nat.le_of_ble_eq_true rfl) ?_
  rintro _ M2 ⟨rfl, hM2⟩
  rw [hM2]
  clear hM2 M2
  refine g_if_eq 5 39 dMod_read_5 rfl (fun h5 => ?_) (fun h5 => ?_)
  · exact absurd h5 (by decide)
  · refine g_iload_n 8 dMod_read_8 rfl ?_
    refine g_callS 9 [_] dMod_read_9 cs_Mod_246 rfl rfl ⟨(Nat.le_of_ble_eq_true rfl), (Nat.le_of_ble_eq_true rfl)⟩ (Nat.le_of_ble_eq_true rfl) (ct_isStr_y hk) (Nat.le_of_ble_eq_true rfl) (Nat.le_of_ble_eq_true rfl) ?_
    rintro _ M2 ⟨rfl, hM2⟩
    rw [hM2]
    clear hM2 M2
    refine g_if_eq 12 39 dMod_read_12 rfl (fun h12 => ?_) (fun h12 => ?_)
    · exact absurd h12 (by decide)
    · refine g_iload_n 15 dMod_read_15 rfl ?_
      refine g_iconst 16 1 dMod_read_16 rfl ?_
      refine g_icmp_lt 17 39 dMod_read_17 rfl (fun h17 => ?_) (fun h17 => ?_)
      · refine g_ldc2 39 (-1) dMod_read_39 lc_Mod_328 ?_
        exact g_lret 42 dMod_read_42 rfl (by (try rw [if_pos h17]); exact ⟨rfl, rfl⟩)
      · refine g_iload_n 20 dMod_read_20 rfl ?_
        refine g_bipush 21 7 dMod_read_21 rfl ?_
        refine g_icmp_gt 23 39 dMod_read_23 rfl (fun h23 => ?_) (fun h23 => ?_)
        · refine g_ldc2 39 (-1) dMod_read_39 lc_Mod_328 ?_
          exact g_lret 42 dMod_read_42 rfl (by (try rw [if_neg h17]); exact ⟨rfl, rfl⟩)
        · exact absurd (by unfold wi at hh; rw [if_neg h17, if_neg h23] at hh; exact hh) (by decide)

set_option maxRecDepth 100000 in
set_option maxHeartbeats 4000000 in
theorem cm_read_full {X : mX} {l : Launch} {M : mM} {A : zA} {e k : Nat} (hR : RR M A) (he : e < 2) (hk : k < 12) {N : Nat} (h1 : 1 ≤ N) (h7 : N ≤ 7) (hs : ¬ zI A (29 + 80 * e + 5 * k) 1 = 0) (hz0 : zI A (9 + 80 * e) 3 = 0) (hfl : 30 ≤ (zP A (1 - e)).length) : Ct X l uMod_read (rk 2 48) [.ref 169, .int (nI e), .int (nI (2 * k + 1)), .int (nI N)] M (fun r M' => r = some (.long (-2)) ∧ M' = M) := by
  refine Ct.of (by decide) (Nat.le_of_ble_eq_true rfl) ?_
  show G X l uMod_read (rk 2 48) 0 0 M 0 [some (.ref 169), some (.int (nI e)), some (.int (nI (2 * k + 1))), some (.int (nI N)), none, none, none] [] _
  have hC : Chg M M mP no2 := Chg.rf
  have hu : Rdowns M e = 0 := (hR.dn he).trans hz0
  refine g_aload_n 0 dMod_read_0 rfl ?_
  refine g_iload_n 1 dMod_read_1 rfl ?_
  refine g_callV 2 [_] dMod_read_2 cs_Mod_309 rfl (ci := 10) rfl (by decide) hR.1.mod rfl ⟨(Nat.le_of_ble_eq_true rfl), (Nat.le_of_ble_eq_true rfl)⟩ (Nat.le_of_ble_eq_true rfl) (ct_up_y hR.1 he hu) (Nat.le_of_ble_eq_true rfl) (Nat.le_of_ble_eq_true rfl) ?_
  rintro _ M2 ⟨rfl, hM2⟩
  rw [hM2]
  clear hM2 M2
  refine g_if_eq 5 39 dMod_read_5 rfl (fun h5 => ?_) (fun h5 => ?_)
  · exact absurd h5 (by decide)
  · refine g_iload_n 8 dMod_read_8 rfl ?_
    refine g_callS 9 [_] dMod_read_9 cs_Mod_246 rfl rfl ⟨(Nat.le_of_ble_eq_true rfl), (Nat.le_of_ble_eq_true rfl)⟩ (Nat.le_of_ble_eq_true rfl) (ct_isStr_y hk) (Nat.le_of_ble_eq_true rfl) (Nat.le_of_ble_eq_true rfl) ?_
    rintro _ M2 ⟨rfl, hM2⟩
    rw [hM2]
    clear hM2 M2
    refine g_if_eq 12 39 dMod_read_12 rfl (fun h12 => ?_) (fun h12 => ?_)
    · exact absurd h12 (by decide)
    · refine g_iload_n 15 dMod_read_15 rfl ?_
      refine g_iconst 16 (nI 1) dMod_read_16 rfl ?_
      refine g_icmp_ltN 17 39 dMod_read_17 rfl (by omega) (by omega) (fun h17 => ?_) (fun h17 => ?_)
      · exact absurd h17 (by omega)
      · refine g_iload_n 20 dMod_read_20 rfl ?_
        refine g_bipush 21 (nI 7) dMod_read_21 rfl ?_
        refine g_icmp_gtN 23 39 dMod_read_23 rfl (by omega) (by omega) (fun h23 => ?_) (fun h23 => ?_)
        · exact absurd h23 (by omega)
        · refine g_aload_n 26 dMod_read_26 rfl ?_
          refine g_getr 27 10 13 dMod_read_27 fs_Mod_51 rfl hR.1.mod hR.1.R_opened ?_
          refine g_iload_n 30 dMod_read_30 rfl ?_
          refine g_iload_n 31 dMod_read_31 rfl ?_
          refine g_callS 32 [_, _] dMod_read_32 cs_Mod_190 rfl rfl ⟨(Nat.le_of_ble_eq_true rfl), (Nat.le_of_ble_eq_true rfl)⟩ (Nat.le_of_ble_eq_true rfl) (ct_Mod_at (by omega) (by omega)) (Nat.le_of_ble_eq_true rfl) (Nat.le_of_ble_eq_true rfl) ?_
          rintro _ M2 ⟨rfl, hM2⟩
          rw [hM2]
          clear hM2 M2
          refine g_top (nI (12 * e + k)) (by rw [show (2 * k + 1) / 2 = k by omega]) ?_
          refine g_zaldN 35 dMod_read_35 hR.1.T_opened (by omega) (by decide) ?_
          refine g_if_ne 36 43 dMod_read_36 rfl (fun h36 => ?_) (fun h36 => ?_)
          · refine g_aload_n 43 dMod_read_43 rfl ?_
            refine g_iload_n 44 dMod_read_44 rfl ?_
            refine g_callV 45 [_] dMod_read_45 cs_Mod_315 rfl (ci := 10) rfl (by decide) hR.1.mod rfl ⟨(Nat.le_of_ble_eq_true rfl), (Nat.le_of_ble_eq_true rfl)⟩ (Nat.le_of_ble_eq_true rfl) (ct_fullM hR he) (Nat.le_of_ble_eq_true rfl) (Nat.le_of_ble_eq_true rfl) ?_
            rintro _ M2 ⟨rfl, hM2⟩
            rw [hM2]
            clear hM2 M2
            refine g_if_eq 48 55 dMod_read_48 rfl (fun h48 => ?_) (fun h48 => ?_)
            · exact absurd (h48.symm.trans (if_pos hfl)) (by decide)
            · refine g_ldc2 51 (-2) dMod_read_51 lc_Mod_330 ?_
              exact g_lret 54 dMod_read_54 rfl ⟨rfl, rfl⟩
          · exact absurd ((hR.opn he hk).mp h36) hs

def wtP (i : Nat) (a j : Nat) : Prop := (a = 197 ∧ j = i) ∨ (a = 198 ∧ 32 * i ≤ j ∧ j < 32 * i + 32)
def wtI (M M1 : mM) (i n : Nat) (W : List Int32) (b : Int64) : Prop := Chg M M1 (wtP i) no2 ∧ WtR M1 i (W ++ lowB b n)
theorem wtI_st {M M1 : mM} {i n : Nat} {W : List Int32} {b : Int64} (h : wtI M M1 i n W b) (hl : W.length + n < 32) : wtI M (setI (setI M1 198 (32 * i + (W.length + n)) ((shB b n).toInt32 &&& 255)) 197 i (nI (W.length + n + 1))) i (n + 1) W b := by
  obtain ⟨h1, g1, g2, g3⟩ := h
  have hlen : (W ++ lowB b n).length = W.length + n := by rw [List.length_append, lowB_len]
  refine ⟨(h1.setI (Or.inl (Or.inr ⟨rfl, by omega, by omega⟩))).setI (Or.inl (Or.inl ⟨rfl, rfl⟩)), ?_⟩
  rw [lowB, ← List.append_assoc]
  refine ⟨?_, by rw [List.length_append, hlen]; exact hl, fun j y hy => ?_⟩
  · rw [List.length_append, hlen]
    exact sI_s
  · show mI _ 198 _ = _
    rw [sI_a (by decide)]
    by_cases hj : j < W.length + n
    · rw [List.getElem?_append_left (by omega)] at hy
      rw [sI_k (by omega)]
      exact g3 j y hy
    · rw [List.getElem?_append_right (by omega)] at hy
      have h6 := (List.getElem?_eq_some_iff.mp hy).1
      have hj2 : j = W.length + n := by rw [hlen] at h6; simp at h6; omega
      subst hj2
      rw [hlen, Nat.sub_self] at hy
      simp at hy
      rw [sI_s]
      exact hy
set_option maxRecDepth 100000 in
set_option maxHeartbeats 4000000 in
theorem g_wrM {X : mX} {l : Launch} {M : mM} {e k N : Nat} {W : List Int32} {b : Int64} {z st : Int32} {Q : Option Value → mM → Prop} (hSM : Shp M) (he : e < 2) (hk : k < 12) (hN : N ≤ 8) (hl : W.length + N ≤ 32) (hq : ∀ M', wtI M M' (12 * e + k) N W b → G X l uMod_write (rk 2 41) 0 0 M' 160 [some (.ref 169), some (.int (nI e)), some (.int (nI (2 * k + 1))), some (.long b), none, some (.int (nI N)), some (.int z), some (.int (nI (12 * e + k))), some (.int st), some (.int (nI N))] [] Q) : ∀ (j n : Nat), n + j = N → ∀ M1, wtI M M1 (12 * e + k) n W b → G X l uMod_write (rk 2 41) 0 0 M1 101 [some (.ref 169), some (.int (nI e)), some (.int (nI (2 * k + 1))), some (.long b), none, some (.int (nI N)), some (.int z), some (.int (nI (12 * e + k))), some (.int st), some (.int (nI n))] [] Q
  | 0, n, hn, M1, hI => by
    have hn : n = N := by omega
    subst hn
    refine g_iload 101 dMod_write_101 rfl ?_
    refine g_iload 103 dMod_write_103 rfl ?_
    refine g_icmp_geN 105 160 dMod_write_105 rfl (by omega) (by omega) (fun h105 => ?_) (fun h105 => ?_)
    · exact hq M1 hI
    · exact absurd (Nat.le_refl _) h105
  | j + 1, n, hn, M1, hI => by
    have hS := hSM.mv hI.1 (fun _ _ q => q.elim)
    have ih := g_wrM (X := X) (l := l) (z := z) (st := st) hSM he hk hN hl hq j (n + 1) (by omega)
    refine g_iload 101 dMod_write_101 rfl ?_
    refine g_iload 103 dMod_write_103 rfl ?_
    refine g_icmp_geN 105 160 dMod_write_105 rfl (by omega) (by omega) (fun h105 => ?_) (fun h105 => ?_)
    · exact absurd h105 (by omega)
    · refine g_aload_n 108 dMod_write_108 rfl ?_
      refine g_getr 109 10 28 dMod_write_109 fs_Mod_96 rfl hS.mod hS.R_wait ?_
      refine g_bipush 112 (nI 32) dMod_write_112 rfl ?_
      refine g_iload 114 dMod_write_114 rfl ?_
      refine g_imulN 116 dMod_write_116 ?_
      refine g_aload_n 117 dMod_write_117 rfl ?_
      refine g_getr 118 10 27 dMod_write_118 fs_Mod_93 rfl hS.mod hS.R_waits ?_
      refine g_iload 121 dMod_write_121 rfl ?_
      refine g_ialdN 123 dMod_write_123 hS.T_waits (by omega) (by decide) ?_
      refine g_top (nI ((W.length + n))) (hI.2.1.trans (by rw [List.length_append, lowB_len])) ?_
      refine g_iaddN 124 dMod_write_124 ?_
      refine g_lload_n 125 dMod_write_125 rfl ?_
      refine g_bipush 126 (nI 8) dMod_write_126 rfl ?_
      refine g_iload 128 dMod_write_128 rfl ?_
      refine g_imulN 130 dMod_write_130 ?_
      refine g_lushr 131 dMod_write_131 ?_
      refine g_l2i 132 dMod_write_132 ?_
      refine g_sipush 133 255 dMod_write_133 rfl ?_
      refine g_iand 136 dMod_write_136 ?_
      refine g_top ((shB b n).toInt32 &&& 255) (by rw [sh8 b n (by omega)]; rfl) ?_
      refine g_iastN 137 dMod_write_137 hS.T_wait (by omega) (by decide) ?_
      refine g_aload_n 138 dMod_write_138 rfl ?_
      refine g_getr 139 10 27 dMod_write_139 fs_Mod_93 rfl hS.mod hS.R_waits ?_
      refine g_iload 142 dMod_write_142 rfl ?_
      refine g_aload_n 144 dMod_write_144 rfl ?_
      refine g_getr 145 10 27 dMod_write_145 fs_Mod_93 rfl hS.mod hS.R_waits ?_
      refine g_iload 148 dMod_write_148 rfl ?_
      refine g_ialdN 150 dMod_write_150 hS.T_waits (by omega) (by decide) ?_
      refine g_top (nI ((W.length + n))) ((sI_a (by decide)).trans (hI.2.1.trans (by rw [List.length_append, lowB_len]))) ?_
      refine g_iconst 151 (nI 1) dMod_write_151 rfl ?_
      refine g_iaddN 152 dMod_write_152 ?_
      refine g_iastN 153 dMod_write_153 hS.T_waits (by omega) (by decide) ?_
      refine g_iincN 154 dMod_write_154 rfl (by decide) rfl ?_
      refine g_goto 157 101 dMod_write_157 rfl ?_
      exact ih _ (wtI_st hI (by omega))
set_option maxRecDepth 100000 in
set_option maxHeartbeats 4000000 in
theorem g_wrE {X : mX} {l : Launch} {M0 M : mM} {A : zA} {e k N n : Nat} {b : Int64} {z st : Int32} (hR : RR M A) (hC : Chg M0 M mP no2) (he : e < 2) (hk : k < 12) (hz : z = 0 ∨ z = 1) : G X l uMod_write (rk 2 41) 0 0 M 160 [some (.ref 169), some (.int (nI e)), some (.int (nI (2 * k + 1))), some (.long b), none, some (.int (nI N)), some (.int z), some (.int (nI (12 * e + k))), some (.int st), some (.int (nI n))] [] (fun r M' => r = some (.int (nI (zW A e k).length)) ∧ RR M' (yI A (29 + 80 * e + 5 * k) 6 z) ∧ Chg M0 M' mP no2) := by
  refine g_aload_n 160 dMod_write_160 rfl ?_
  refine g_getr 161 10 19 dMod_write_161 fs_Mod_69 rfl hR.1.mod hR.1.R_lastSaid ?_
  refine g_iload 164 dMod_write_164 rfl ?_
  refine g_iload 166 dMod_write_166 rfl ?_
  refine g_zastN 168 dMod_write_168 hR.1.T_lastSaid (by omega) (by decide) hz ?_
  refine g_memM (hR.lsS he hk) (kM hC (by decide)) (fun M1 hR1 hC1 => ?_)
  refine g_aload_n 169 dMod_write_169 rfl ?_
  refine g_getr 170 10 27 dMod_write_170 fs_Mod_93 rfl hR1.1.mod hR1.1.R_waits ?_
  refine g_iload 173 dMod_write_173 rfl ?_
  refine g_ialdN 175 dMod_write_175 hR1.1.T_waits (by omega) (by decide) ?_
  refine g_top (nI (zW A e k).length) ((hR1.wt he hk).1) ?_
  exact g_iret 176 dMod_write_176 rfl ⟨rfl, hR1, hC1⟩
set_option maxRecDepth 100000 in
set_option maxHeartbeats 4000000 in
theorem cm_writeR {X : mX} {l : Launch} {M : mM} {A : zA} {e k : Nat} (hR : RR M A) (he : e < 2) (hk : k < 12) {z : Int32} {b : Int64} {N : Nat} (hz : z = 0 ∨ z = 1) (h8 : N ≤ 8) (hst : zI A (29 + 80 * e + 5 * k) 1 = 1 ∨ zI A (29 + 80 * e + 5 * k) 1 = 3) (hq5 : e = 1 → ¬ zI A (29 + 80 * e + 5 * k) 5 = 0) (hq6 : zI A (29 + 80 * e + 5 * k) 6 = 0) (hh : (zW A e k).length + N ≤ 32) (hz0 : zI A (9 + 80 * e) 3 = 0) : Ct X l uMod_write (rk 2 41) [.ref 169, .int (nI e), .int (nI (2 * k + 1)), .long b, .int (nI N), .int z] M (fun r M' => r = some (.int (nI ((zW A e k).length + N))) ∧ RR M' (wrA A e k b N z) ∧ Chg M M' mP no2) := by
  refine Ct.of (by decide) (Nat.le_of_ble_eq_true rfl) ?_
  show G X l uMod_write (rk 2 41) 0 0 M 0 [some (.ref 169), some (.int (nI e)), some (.int (nI (2 * k + 1))), some (.long b), none, some (.int (nI N)), some (.int z), none, none, none] [] _
  have hC : Chg M M mP no2 := Chg.rf
  have hu : Rdowns M e = 0 := (hR.dn he).trans hz0
  have hw := (hR.wt he hk).2.1
  refine g_aload_n 0 dMod_write_0 rfl ?_
  refine g_iload_n 1 dMod_write_1 rfl ?_
  refine g_callV 2 [_] dMod_write_2 cs_Mod_309 rfl (ci := 10) rfl (by decide) hR.1.mod rfl ⟨(Nat.le_of_ble_eq_true rfl), (Nat.le_of_ble_eq_true rfl)⟩ (Nat.le_of_ble_eq_true rfl) (ct_up_y hR.1 he hu) (Nat.le_of_ble_eq_true rfl) (Nat.le_of_ble_eq_true rfl) ?_
  rintro _ M2 ⟨rfl, hM2⟩
  rw [hM2]
  clear hM2 M2
  refine g_if_eq 5 27 dMod_write_5 rfl (fun h5 => ?_) (fun h5 => ?_)
  · exact absurd h5 (by decide)
  · refine g_iload_n 8 dMod_write_8 rfl ?_
    refine g_callS 9 [_] dMod_write_9 cs_Mod_246 rfl rfl ⟨(Nat.le_of_ble_eq_true rfl), (Nat.le_of_ble_eq_true rfl)⟩ (Nat.le_of_ble_eq_true rfl) (ct_isStr_y hk) (Nat.le_of_ble_eq_true rfl) (Nat.le_of_ble_eq_true rfl) ?_
    rintro _ M2 ⟨rfl, hM2⟩
    rw [hM2]
    clear hM2 M2
    refine g_if_eq 12 27 dMod_write_12 rfl (fun h12 => ?_) (fun h12 => ?_)
    · exact absurd h12 (by decide)
    · refine g_iload 15 dMod_write_15 rfl ?_
      refine g_if_ltN 17 27 dMod_write_17 rfl (by omega) (fun h17 => ?_) (fun h17 => ?_)
      · exact absurd h17 (Nat.not_lt_zero _)
      · refine g_iload 20 dMod_write_20 rfl ?_
        refine g_bipush 22 (nI 8) dMod_write_22 rfl ?_
        refine g_icmp_leN 24 29 dMod_write_24 rfl (by omega) (by omega) (fun h24 => ?_) (fun h24 => ?_)
        · refine g_iload_n 29 dMod_write_29 rfl ?_
          refine g_iload_n 30 dMod_write_30 rfl ?_
          refine g_callS 31 [_, _] dMod_write_31 cs_Mod_190 rfl rfl ⟨(Nat.le_of_ble_eq_true rfl), (Nat.le_of_ble_eq_true rfl)⟩ (Nat.le_of_ble_eq_true rfl) (ct_Mod_at (by omega) (by omega)) (Nat.le_of_ble_eq_true rfl) (Nat.le_of_ble_eq_true rfl) ?_
          rintro _ M2 ⟨rfl, hM2⟩
          rw [hM2]
          clear hM2 M2
          refine g_top (nI (12 * e + k)) (by rw [show (2 * k + 1) / 2 = k by omega]) ?_
          refine g_istore 34 dMod_write_34 (by decide) rfl ?_
          refine g_aload_n 36 dMod_write_36 rfl ?_
          refine g_iload 37 dMod_write_37 rfl ?_
          refine g_callV 39 [_] dMod_write_39 cs_Mod_175 rfl (ci := 10) rfl (by decide) hR.1.mod rfl ⟨(Nat.le_of_ble_eq_true rfl), (Nat.le_of_ble_eq_true rfl)⟩ (Nat.le_of_ble_eq_true rfl) (ct_stM hR he hk) (Nat.le_of_ble_eq_true rfl) (Nat.le_of_ble_eq_true rfl) ?_
          rintro _ M2 ⟨rfl, hM2⟩
          rw [hM2]
          clear hM2 M2
          refine g_istore 42 dMod_write_42 (by decide) rfl ?_
          refine g_iload 44 dMod_write_44 rfl ?_
          refine g_iconst 46 1 dMod_write_46 rfl ?_
          refine g_icmp_eq 47 56 dMod_write_47 rfl (fun h47 => ?_) (fun h47 => ?_)
          · refine g_iload_n 56 dMod_write_56 rfl ?_
            refine g_iconst 57 (nI 1) dMod_write_57 rfl ?_
            refine g_icmp_neN 58 71 dMod_write_58 rfl (by omega) (by omega) (fun h58 => ?_) (fun h58 => ?_)
            · refine g_aload_n 71 dMod_write_71 rfl ?_
              refine g_getr 72 10 27 dMod_write_72 fs_Mod_93 rfl hR.1.mod hR.1.R_waits ?_
              refine g_iload 75 dMod_write_75 rfl ?_
              refine g_ialdN 77 dMod_write_77 hR.1.T_waits (by omega) (by decide) ?_
              refine g_top (nI ((zW A e k).length)) ((hR.wt he hk).1) ?_
              refine g_iload 78 dMod_write_78 rfl ?_
              refine g_iaddN 80 dMod_write_80 ?_
              refine g_bipush 81 (nI 32) dMod_write_81 rfl ?_
              refine g_icmp_gtN 83 96 dMod_write_83 rfl (by omega) (by omega) (fun h83 => ?_) (fun h83 => ?_)
              · exact absurd h83 (by omega)
              · refine g_aload_n 86 dMod_write_86 rfl ?_
                refine g_getr 87 10 19 dMod_write_87 fs_Mod_69 rfl hR.1.mod hR.1.R_lastSaid ?_
                refine g_iload 90 dMod_write_90 rfl ?_
                refine g_zaldN 92 dMod_write_92 hR.1.T_lastSaid (by omega) (by decide) ?_
                refine g_top (zI A (29 + 80 * e + 5 * k) 6) ((hR.stk he hk).2.2.2.2) ?_
                refine g_if_eq 93 98 dMod_write_93 rfl (fun h93 => ?_) (fun h93 => ?_)
                · refine g_iconst 98 (nI 0) dMod_write_98 rfl ?_
                  refine g_istore 99 dMod_write_99 (by decide) rfl ?_
                  refine g_wrM (W := zW A e k) (b := b) hR.1 he hk h8 hh (fun M1 hI => ?_) N 0 (Nat.zero_add _) M ⟨Chg.rf, by show WtR M (12 * e + k) (zW A e k ++ []); rw [List.append_nil]; exact hR.wt he hk⟩
                  have hR1 := hR.yW he hk hI.2 hI.1
                  have hC1 : Chg M M1 mP no2 := mp hI.1 fun a j q => by unfold wtP at q; omega
                  have hq := g_wrE (X := X) (l := l) (N := N) (n := N) (b := b) (z := z) (st := zI A (29 + 80 * e + 5 * k) 1) hR1 hC1 he hk hz
                  have hlen : (zW (yW A e k (zW A e k ++ lowB b N)) e k).length = (zW A e k).length + N := by rw [show zW (yW A e k (zW A e k ++ lowB b N)) e k = zW A e k ++ lowB b N from up2_same, List.length_append, lowB_len]
                  rw [hlen] at hq
                  exact hq
                · exact absurd hq6 h93
            · refine g_aload_n 61 dMod_write_61 rfl ?_
              refine g_getr 62 10 18 dMod_write_62 fs_Mod_66 rfl hR.1.mod hR.1.R_responded ?_
              refine g_iload 65 dMod_write_65 rfl ?_
              refine g_zaldN 67 dMod_write_67 hR.1.T_responded (by omega) (by decide) ?_
              refine g_top (zI A (29 + 80 * e + 5 * k) 5) ((hR.stk he hk).2.2.2.1 (by omega)) ?_
              refine g_if_eq 68 96 dMod_write_68 rfl (fun h68 => ?_) (fun h68 => ?_)
              · exact absurd h68 (hq5 (by omega))
              · refine g_aload_n 71 dMod_write_71 rfl ?_
                refine g_getr 72 10 27 dMod_write_72 fs_Mod_93 rfl hR.1.mod hR.1.R_waits ?_
                refine g_iload 75 dMod_write_75 rfl ?_
                refine g_ialdN 77 dMod_write_77 hR.1.T_waits (by omega) (by decide) ?_
                refine g_top (nI ((zW A e k).length)) ((hR.wt he hk).1) ?_
                refine g_iload 78 dMod_write_78 rfl ?_
                refine g_iaddN 80 dMod_write_80 ?_
                refine g_bipush 81 (nI 32) dMod_write_81 rfl ?_
                refine g_icmp_gtN 83 96 dMod_write_83 rfl (by omega) (by omega) (fun h83 => ?_) (fun h83 => ?_)
                · exact absurd h83 (by omega)
                · refine g_aload_n 86 dMod_write_86 rfl ?_
                  refine g_getr 87 10 19 dMod_write_87 fs_Mod_69 rfl hR.1.mod hR.1.R_lastSaid ?_
                  refine g_iload 90 dMod_write_90 rfl ?_
                  refine g_zaldN 92 dMod_write_92 hR.1.T_lastSaid (by omega) (by decide) ?_
                  refine g_top (zI A (29 + 80 * e + 5 * k) 6) ((hR.stk he hk).2.2.2.2) ?_
                  refine g_if_eq 93 98 dMod_write_93 rfl (fun h93 => ?_) (fun h93 => ?_)
                  · refine g_iconst 98 (nI 0) dMod_write_98 rfl ?_
                    refine g_istore 99 dMod_write_99 (by decide) rfl ?_
                    refine g_wrM (W := zW A e k) (b := b) hR.1 he hk h8 hh (fun M1 hI => ?_) N 0 (Nat.zero_add _) M ⟨Chg.rf, by show WtR M (12 * e + k) (zW A e k ++ []); rw [List.append_nil]; exact hR.wt he hk⟩
                    have hR1 := hR.yW he hk hI.2 hI.1
                    have hC1 : Chg M M1 mP no2 := mp hI.1 fun a j q => by unfold wtP at q; omega
                    have hq := g_wrE (X := X) (l := l) (N := N) (n := N) (b := b) (z := z) (st := zI A (29 + 80 * e + 5 * k) 1) hR1 hC1 he hk hz
                    have hlen : (zW (yW A e k (zW A e k ++ lowB b N)) e k).length = (zW A e k).length + N := by rw [show zW (yW A e k (zW A e k ++ lowB b N)) e k = zW A e k ++ lowB b N from up2_same, List.length_append, lowB_len]
                    rw [hlen] at hq
                    exact hq
                  · exact absurd hq6 h93
          · refine g_iload 50 dMod_write_50 rfl ?_
            refine g_iconst 52 3 dMod_write_52 rfl ?_
            refine g_icmp_ne 53 96 dMod_write_53 rfl (fun h53 => ?_) (fun h53 => ?_)
            · exact absurd (hst.resolve_left h47) h53
            · refine g_iload_n 56 dMod_write_56 rfl ?_
              refine g_iconst 57 (nI 1) dMod_write_57 rfl ?_
              refine g_icmp_neN 58 71 dMod_write_58 rfl (by omega) (by omega) (fun h58 => ?_) (fun h58 => ?_)
              · refine g_aload_n 71 dMod_write_71 rfl ?_
                refine g_getr 72 10 27 dMod_write_72 fs_Mod_93 rfl hR.1.mod hR.1.R_waits ?_
                refine g_iload 75 dMod_write_75 rfl ?_
                refine g_ialdN 77 dMod_write_77 hR.1.T_waits (by omega) (by decide) ?_
                refine g_top (nI ((zW A e k).length)) ((hR.wt he hk).1) ?_
                refine g_iload 78 dMod_write_78 rfl ?_
                refine g_iaddN 80 dMod_write_80 ?_
                refine g_bipush 81 (nI 32) dMod_write_81 rfl ?_
                refine g_icmp_gtN 83 96 dMod_write_83 rfl (by omega) (by omega) (fun h83 => ?_) (fun h83 => ?_)
                · exact absurd h83 (by omega)
                · refine g_aload_n 86 dMod_write_86 rfl ?_
                  refine g_getr 87 10 19 dMod_write_87 fs_Mod_69 rfl hR.1.mod hR.1.R_lastSaid ?_
                  refine g_iload 90 dMod_write_90 rfl ?_
                  refine g_zaldN 92 dMod_write_92 hR.1.T_lastSaid (by omega) (by decide) ?_
                  refine g_top (zI A (29 + 80 * e + 5 * k) 6) ((hR.stk he hk).2.2.2.2) ?_
                  refine g_if_eq 93 98 dMod_write_93 rfl (fun h93 => ?_) (fun h93 => ?_)
                  · refine g_iconst 98 (nI 0) dMod_write_98 rfl ?_
                    refine g_istore 99 dMod_write_99 (by decide) rfl ?_
                    refine g_wrM (W := zW A e k) (b := b) hR.1 he hk h8 hh (fun M1 hI => ?_) N 0 (Nat.zero_add _) M ⟨Chg.rf, by show WtR M (12 * e + k) (zW A e k ++ []); rw [List.append_nil]; exact hR.wt he hk⟩
                    have hR1 := hR.yW he hk hI.2 hI.1
                    have hC1 : Chg M M1 mP no2 := mp hI.1 fun a j q => by unfold wtP at q; omega
                    have hq := g_wrE (X := X) (l := l) (N := N) (n := N) (b := b) (z := z) (st := zI A (29 + 80 * e + 5 * k) 1) hR1 hC1 he hk hz
                    have hlen : (zW (yW A e k (zW A e k ++ lowB b N)) e k).length = (zW A e k).length + N := by rw [show zW (yW A e k (zW A e k ++ lowB b N)) e k = zW A e k ++ lowB b N from up2_same, List.length_append, lowB_len]
                    rw [hlen] at hq
                    exact hq
                  · exact absurd hq6 h93
              · refine g_aload_n 61 dMod_write_61 rfl ?_
                refine g_getr 62 10 18 dMod_write_62 fs_Mod_66 rfl hR.1.mod hR.1.R_responded ?_
                refine g_iload 65 dMod_write_65 rfl ?_
                refine g_zaldN 67 dMod_write_67 hR.1.T_responded (by omega) (by decide) ?_
                refine g_top (zI A (29 + 80 * e + 5 * k) 5) ((hR.stk he hk).2.2.2.1 (by omega)) ?_
                refine g_if_eq 68 96 dMod_write_68 rfl (fun h68 => ?_) (fun h68 => ?_)
                · exact absurd h68 (hq5 (by omega))
                · refine g_aload_n 71 dMod_write_71 rfl ?_
                  refine g_getr 72 10 27 dMod_write_72 fs_Mod_93 rfl hR.1.mod hR.1.R_waits ?_
                  refine g_iload 75 dMod_write_75 rfl ?_
                  refine g_ialdN 77 dMod_write_77 hR.1.T_waits (by omega) (by decide) ?_
                  refine g_top (nI ((zW A e k).length)) ((hR.wt he hk).1) ?_
                  refine g_iload 78 dMod_write_78 rfl ?_
                  refine g_iaddN 80 dMod_write_80 ?_
                  refine g_bipush 81 (nI 32) dMod_write_81 rfl ?_
                  refine g_icmp_gtN 83 96 dMod_write_83 rfl (by omega) (by omega) (fun h83 => ?_) (fun h83 => ?_)
                  · exact absurd h83 (by omega)
                  · refine g_aload_n 86 dMod_write_86 rfl ?_
                    refine g_getr 87 10 19 dMod_write_87 fs_Mod_69 rfl hR.1.mod hR.1.R_lastSaid ?_
                    refine g_iload 90 dMod_write_90 rfl ?_
                    refine g_zaldN 92 dMod_write_92 hR.1.T_lastSaid (by omega) (by decide) ?_
                    refine g_top (zI A (29 + 80 * e + 5 * k) 6) ((hR.stk he hk).2.2.2.2) ?_
                    refine g_if_eq 93 98 dMod_write_93 rfl (fun h93 => ?_) (fun h93 => ?_)
                    · refine g_iconst 98 (nI 0) dMod_write_98 rfl ?_
                      refine g_istore 99 dMod_write_99 (by decide) rfl ?_
                      refine g_wrM (W := zW A e k) (b := b) hR.1 he hk h8 hh (fun M1 hI => ?_) N 0 (Nat.zero_add _) M ⟨Chg.rf, by show WtR M (12 * e + k) (zW A e k ++ []); rw [List.append_nil]; exact hR.wt he hk⟩
                      have hR1 := hR.yW he hk hI.2 hI.1
                      have hC1 : Chg M M1 mP no2 := mp hI.1 fun a j q => by unfold wtP at q; omega
                      have hq := g_wrE (X := X) (l := l) (N := N) (n := N) (b := b) (z := z) (st := zI A (29 + 80 * e + 5 * k) 1) hR1 hC1 he hk hz
                      have hlen : (zW (yW A e k (zW A e k ++ lowB b N)) e k).length = (zW A e k).length + N := by rw [show zW (yW A e k (zW A e k ++ lowB b N)) e k = zW A e k ++ lowB b N from up2_same, List.length_append, lowB_len]
                      rw [hlen] at hq
                      exact hq
                    · exact absurd hq6 h93
        · exact absurd h8 h24

set_option maxRecDepth 100000 in
set_option maxHeartbeats 4000000 in
theorem cm_write_bad {X : mX} {l : Launch} {M : mM} {A : zA} {e k : Nat} (hR : RR M A) (he : e < 2) (hk : k < 12) {z : Int32} {b : Int64} {n : Int32} (hh : wi n 0 8 = 0) (hz0 : zI A (9 + 80 * e) 3 = 0) : Ct X l uMod_write (rk 2 41) [.ref 169, .int (nI e), .int (nI (2 * k + 1)), .long b, .int n, .int z] M (fun r M' => r = some (.int (-1)) ∧ M' = M) := by
  refine Ct.of (by decide) (Nat.le_of_ble_eq_true rfl) ?_
  show G X l uMod_write (rk 2 41) 0 0 M 0 [some (.ref 169), some (.int (nI e)), some (.int (nI (2 * k + 1))), some (.long b), none, some (.int n), some (.int z), none, none, none] [] _
  have hC : Chg M M mP no2 := Chg.rf
  have hu : Rdowns M e = 0 := (hR.dn he).trans hz0
  refine g_aload_n 0 dMod_write_0 rfl ?_
  refine g_iload_n 1 dMod_write_1 rfl ?_
  refine g_callV 2 [_] dMod_write_2 cs_Mod_309 rfl (ci := 10) rfl (by decide) hR.1.mod rfl ⟨(Nat.le_of_ble_eq_true rfl), (Nat.le_of_ble_eq_true rfl)⟩ (Nat.le_of_ble_eq_true rfl) (ct_up_y hR.1 he hu) (Nat.le_of_ble_eq_true rfl) (Nat.le_of_ble_eq_true rfl) ?_
  rintro _ M2 ⟨rfl, hM2⟩
  rw [hM2]
  clear hM2 M2
  refine g_if_eq 5 27 dMod_write_5 rfl (fun h5 => ?_) (fun h5 => ?_)
  · exact absurd h5 (by decide)
  · refine g_iload_n 8 dMod_write_8 rfl ?_
    refine g_callS 9 [_] dMod_write_9 cs_Mod_246 rfl rfl ⟨(Nat.le_of_ble_eq_true rfl), (Nat.le_of_ble_eq_true rfl)⟩ (Nat.le_of_ble_eq_true rfl) (ct_isStr_y hk) (Nat.le_of_ble_eq_true rfl) (Nat.le_of_ble_eq_true rfl) ?_
    rintro _ M2 ⟨rfl, hM2⟩
    rw [hM2]
    clear hM2 M2
    refine g_if_eq 12 27 dMod_write_12 rfl (fun h12 => ?_) (fun h12 => ?_)
    · exact absurd h12 (by decide)
    · refine g_iload 15 dMod_write_15 rfl ?_
      refine g_if_lt 17 27 dMod_write_17 rfl (fun h17 => ?_) (fun h17 => ?_)
      · refine g_iconst 27 (-1) dMod_write_27 rfl ?_
        exact g_iret 28 dMod_write_28 rfl (by (try rw [if_pos h17]); exact ⟨rfl, rfl⟩)
      · refine g_iload 20 dMod_write_20 rfl ?_
        refine g_bipush 22 8 dMod_write_22 rfl ?_
        refine g_icmp_le 24 29 dMod_write_24 rfl (fun h24 => ?_) (fun h24 => ?_)
        · exact absurd (by unfold wi at hh; rw [if_neg h17, if_neg (Int32.not_lt.mpr h24)] at hh; exact hh) (by decide)
        · refine g_iconst 27 (-1) dMod_write_27 rfl ?_
          exact g_iret 28 dMod_write_28 rfl (by (try rw [if_neg h17]); exact ⟨rfl, rfl⟩)

set_option maxRecDepth 100000 in
set_option maxHeartbeats 4000000 in
theorem cm_write_hs {X : mX} {l : Launch} {M : mM} {A : zA} {e k : Nat} (hR : RR M A) (he : e < 2) (hk : k < 12) {z : Int32} {b : Int64} {n : Int32} (e1 : e = 1) (hh : zI A (29 + 80 * e + 5 * k) 5 = 0) (hz0 : zI A (9 + 80 * e) 3 = 0) : Ct X l uMod_write (rk 2 41) [.ref 169, .int (nI e), .int (nI (2 * k + 1)), .long b, .int n, .int z] M (fun r M' => r = some (.int (-1)) ∧ M' = M) := by
  refine Ct.of (by decide) (Nat.le_of_ble_eq_true rfl) ?_
  show G X l uMod_write (rk 2 41) 0 0 M 0 [some (.ref 169), some (.int (nI e)), some (.int (nI (2 * k + 1))), some (.long b), none, some (.int n), some (.int z), none, none, none] [] _
  have hC : Chg M M mP no2 := Chg.rf
  have hu : Rdowns M e = 0 := (hR.dn he).trans hz0
  refine g_aload_n 0 dMod_write_0 rfl ?_
  refine g_iload_n 1 dMod_write_1 rfl ?_
  refine g_callV 2 [_] dMod_write_2 cs_Mod_309 rfl (ci := 10) rfl (by decide) hR.1.mod rfl ⟨(Nat.le_of_ble_eq_true rfl), (Nat.le_of_ble_eq_true rfl)⟩ (Nat.le_of_ble_eq_true rfl) (ct_up_y hR.1 he hu) (Nat.le_of_ble_eq_true rfl) (Nat.le_of_ble_eq_true rfl) ?_
  rintro _ M2 ⟨rfl, hM2⟩
  rw [hM2]
  clear hM2 M2
  refine g_if_eq 5 27 dMod_write_5 rfl (fun h5 => ?_) (fun h5 => ?_)
  · exact absurd h5 (by decide)
  · refine g_iload_n 8 dMod_write_8 rfl ?_
    refine g_callS 9 [_] dMod_write_9 cs_Mod_246 rfl rfl ⟨(Nat.le_of_ble_eq_true rfl), (Nat.le_of_ble_eq_true rfl)⟩ (Nat.le_of_ble_eq_true rfl) (ct_isStr_y hk) (Nat.le_of_ble_eq_true rfl) (Nat.le_of_ble_eq_true rfl) ?_
    rintro _ M2 ⟨rfl, hM2⟩
    rw [hM2]
    clear hM2 M2
    refine g_if_eq 12 27 dMod_write_12 rfl (fun h12 => ?_) (fun h12 => ?_)
    · exact absurd h12 (by decide)
    · refine g_iload 15 dMod_write_15 rfl ?_
      refine g_if_lt 17 27 dMod_write_17 rfl (fun h17 => ?_) (fun h17 => ?_)
      · refine g_iconst 27 (-1) dMod_write_27 rfl ?_
        exact g_iret 28 dMod_write_28 rfl (by (try rw [if_pos h17]); exact ⟨rfl, rfl⟩)
      · refine g_iload 20 dMod_write_20 rfl ?_
        refine g_bipush 22 8 dMod_write_22 rfl ?_
        refine g_icmp_le 24 29 dMod_write_24 rfl (fun h24 => ?_) (fun h24 => ?_)
        · refine g_iload_n 29 dMod_write_29 rfl ?_
          refine g_iload_n 30 dMod_write_30 rfl ?_
          refine g_callS 31 [_, _] dMod_write_31 cs_Mod_190 rfl rfl ⟨(Nat.le_of_ble_eq_true rfl), (Nat.le_of_ble_eq_true rfl)⟩ (Nat.le_of_ble_eq_true rfl) (ct_Mod_at (by omega) (by omega)) (Nat.le_of_ble_eq_true rfl) (Nat.le_of_ble_eq_true rfl) ?_
          rintro _ M2 ⟨rfl, hM2⟩
          rw [hM2]
          clear hM2 M2
          refine g_top (nI (12 * e + k)) (by rw [show (2 * k + 1) / 2 = k by omega]) ?_
          refine g_istore 34 dMod_write_34 (by decide) rfl ?_
          refine g_aload_n 36 dMod_write_36 rfl ?_
          refine g_iload 37 dMod_write_37 rfl ?_
          refine g_callV 39 [_] dMod_write_39 cs_Mod_175 rfl (ci := 10) rfl (by decide) hR.1.mod rfl ⟨(Nat.le_of_ble_eq_true rfl), (Nat.le_of_ble_eq_true rfl)⟩ (Nat.le_of_ble_eq_true rfl) (ct_stM hR he hk) (Nat.le_of_ble_eq_true rfl) (Nat.le_of_ble_eq_true rfl) ?_
          rintro _ M2 ⟨rfl, hM2⟩
          rw [hM2]
          clear hM2 M2
          refine g_istore 42 dMod_write_42 (by decide) rfl ?_
          refine g_iload 44 dMod_write_44 rfl ?_
          refine g_iconst 46 1 dMod_write_46 rfl ?_
          refine g_icmp_eq 47 56 dMod_write_47 rfl (fun h47 => ?_) (fun h47 => ?_)
          · refine g_iload_n 56 dMod_write_56 rfl ?_
            refine g_iconst 57 (nI 1) dMod_write_57 rfl ?_
            refine g_icmp_neN 58 71 dMod_write_58 rfl (by omega) (by omega) (fun h58 => ?_) (fun h58 => ?_)
            · exact absurd e1 h58
            · refine g_aload_n 61 dMod_write_61 rfl ?_
              refine g_getr 62 10 18 dMod_write_62 fs_Mod_66 rfl hR.1.mod hR.1.R_responded ?_
              refine g_iload 65 dMod_write_65 rfl ?_
              refine g_zaldN 67 dMod_write_67 hR.1.T_responded (by omega) (by decide) ?_
              refine g_top (zI A (29 + 80 * e + 5 * k) 5) ((hR.stk he hk).2.2.2.1 (by omega)) ?_
              refine g_if_eq 68 96 dMod_write_68 rfl (fun h68 => ?_) (fun h68 => ?_)
              · refine g_iconst 96 (-1) dMod_write_96 rfl ?_
                exact g_iret 97 dMod_write_97 rfl (by (try rw [if_neg h17]); (try rw [if_pos h24]); (try rw [if_pos h47]); exact ⟨rfl, rfl⟩)
              · exact absurd hh h68
          · refine g_iload 50 dMod_write_50 rfl ?_
            refine g_iconst 52 3 dMod_write_52 rfl ?_
            refine g_icmp_ne 53 96 dMod_write_53 rfl (fun h53 => ?_) (fun h53 => ?_)
            · refine g_iconst 96 (-1) dMod_write_96 rfl ?_
              exact g_iret 97 dMod_write_97 rfl (by (try rw [if_neg h17]); (try rw [if_pos h24]); (try rw [if_neg h47]); (try rw [if_neg h53]); exact ⟨rfl, rfl⟩)
            · refine g_iload_n 56 dMod_write_56 rfl ?_
              refine g_iconst 57 (nI 1) dMod_write_57 rfl ?_
              refine g_icmp_neN 58 71 dMod_write_58 rfl (by omega) (by omega) (fun h58 => ?_) (fun h58 => ?_)
              · exact absurd e1 h58
              · refine g_aload_n 61 dMod_write_61 rfl ?_
                refine g_getr 62 10 18 dMod_write_62 fs_Mod_66 rfl hR.1.mod hR.1.R_responded ?_
                refine g_iload 65 dMod_write_65 rfl ?_
                refine g_zaldN 67 dMod_write_67 hR.1.T_responded (by omega) (by decide) ?_
                refine g_top (zI A (29 + 80 * e + 5 * k) 5) ((hR.stk he hk).2.2.2.1 (by omega)) ?_
                refine g_if_eq 68 96 dMod_write_68 rfl (fun h68 => ?_) (fun h68 => ?_)
                · refine g_iconst 96 (-1) dMod_write_96 rfl ?_
                  exact g_iret 97 dMod_write_97 rfl (by (try rw [if_neg h17]); (try rw [if_pos h24]); (try rw [if_neg h47]); (try rw [if_pos h53]); exact ⟨rfl, rfl⟩)
                · exact absurd hh h68
        · refine g_iconst 27 (-1) dMod_write_27 rfl ?_
          exact g_iret 28 dMod_write_28 rfl (by (try rw [if_neg h17]); (try rw [if_neg h24]); exact ⟨rfl, rfl⟩)

set_option maxRecDepth 100000 in
set_option maxHeartbeats 4000000 in
theorem cm_write_ls {X : mX} {l : Launch} {M : mM} {A : zA} {e k : Nat} (hR : RR M A) (he : e < 2) (hk : k < 12) {z : Int32} {b : Int64} {n : Int32} (hh : ¬ zI A (29 + 80 * e + 5 * k) 6 = 0) (hz0 : zI A (9 + 80 * e) 3 = 0) : Ct X l uMod_write (rk 2 41) [.ref 169, .int (nI e), .int (nI (2 * k + 1)), .long b, .int n, .int z] M (fun r M' => r = some (.int (-1)) ∧ M' = M) := by
  refine Ct.of (by decide) (Nat.le_of_ble_eq_true rfl) ?_
  show G X l uMod_write (rk 2 41) 0 0 M 0 [some (.ref 169), some (.int (nI e)), some (.int (nI (2 * k + 1))), some (.long b), none, some (.int n), some (.int z), none, none, none] [] _
  have hC : Chg M M mP no2 := Chg.rf
  have hu : Rdowns M e = 0 := (hR.dn he).trans hz0
  refine g_aload_n 0 dMod_write_0 rfl ?_
  refine g_iload_n 1 dMod_write_1 rfl ?_
  refine g_callV 2 [_] dMod_write_2 cs_Mod_309 rfl (ci := 10) rfl (by decide) hR.1.mod rfl ⟨(Nat.le_of_ble_eq_true rfl), (Nat.le_of_ble_eq_true rfl)⟩ (Nat.le_of_ble_eq_true rfl) (ct_up_y hR.1 he hu) (Nat.le_of_ble_eq_true rfl) (Nat.le_of_ble_eq_true rfl) ?_
  rintro _ M2 ⟨rfl, hM2⟩
  rw [hM2]
  clear hM2 M2
  refine g_if_eq 5 27 dMod_write_5 rfl (fun h5 => ?_) (fun h5 => ?_)
  · exact absurd h5 (by decide)
  · refine g_iload_n 8 dMod_write_8 rfl ?_
    refine g_callS 9 [_] dMod_write_9 cs_Mod_246 rfl rfl ⟨(Nat.le_of_ble_eq_true rfl), (Nat.le_of_ble_eq_true rfl)⟩ (Nat.le_of_ble_eq_true rfl) (ct_isStr_y hk) (Nat.le_of_ble_eq_true rfl) (Nat.le_of_ble_eq_true rfl) ?_
    rintro _ M2 ⟨rfl, hM2⟩
    rw [hM2]
    clear hM2 M2
    refine g_if_eq 12 27 dMod_write_12 rfl (fun h12 => ?_) (fun h12 => ?_)
    · exact absurd h12 (by decide)
    · refine g_iload 15 dMod_write_15 rfl ?_
      refine g_if_lt 17 27 dMod_write_17 rfl (fun h17 => ?_) (fun h17 => ?_)
      · refine g_iconst 27 (-1) dMod_write_27 rfl ?_
        exact g_iret 28 dMod_write_28 rfl (by (try rw [if_pos h17]); exact ⟨rfl, rfl⟩)
      · refine g_iload 20 dMod_write_20 rfl ?_
        refine g_bipush 22 8 dMod_write_22 rfl ?_
        refine g_icmp_le 24 29 dMod_write_24 rfl (fun h24 => ?_) (fun h24 => ?_)
        · refine g_iload_n 29 dMod_write_29 rfl ?_
          refine g_iload_n 30 dMod_write_30 rfl ?_
          refine g_callS 31 [_, _] dMod_write_31 cs_Mod_190 rfl rfl ⟨(Nat.le_of_ble_eq_true rfl), (Nat.le_of_ble_eq_true rfl)⟩ (Nat.le_of_ble_eq_true rfl) (ct_Mod_at (by omega) (by omega)) (Nat.le_of_ble_eq_true rfl) (Nat.le_of_ble_eq_true rfl) ?_
          rintro _ M2 ⟨rfl, hM2⟩
          rw [hM2]
          clear hM2 M2
          refine g_top (nI (12 * e + k)) (by rw [show (2 * k + 1) / 2 = k by omega]) ?_
          refine g_istore 34 dMod_write_34 (by decide) rfl ?_
          refine g_aload_n 36 dMod_write_36 rfl ?_
          refine g_iload 37 dMod_write_37 rfl ?_
          refine g_callV 39 [_] dMod_write_39 cs_Mod_175 rfl (ci := 10) rfl (by decide) hR.1.mod rfl ⟨(Nat.le_of_ble_eq_true rfl), (Nat.le_of_ble_eq_true rfl)⟩ (Nat.le_of_ble_eq_true rfl) (ct_stM hR he hk) (Nat.le_of_ble_eq_true rfl) (Nat.le_of_ble_eq_true rfl) ?_
          rintro _ M2 ⟨rfl, hM2⟩
          rw [hM2]
          clear hM2 M2
          refine g_istore 42 dMod_write_42 (by decide) rfl ?_
          refine g_iload 44 dMod_write_44 rfl ?_
          refine g_iconst 46 1 dMod_write_46 rfl ?_
          refine g_icmp_eq 47 56 dMod_write_47 rfl (fun h47 => ?_) (fun h47 => ?_)
          · refine g_iload_n 56 dMod_write_56 rfl ?_
            refine g_iconst 57 (nI 1) dMod_write_57 rfl ?_
            refine g_icmp_neN 58 71 dMod_write_58 rfl (by omega) (by omega) (fun h58 => ?_) (fun h58 => ?_)
            · refine g_aload_n 71 dMod_write_71 rfl ?_
              refine g_getr 72 10 27 dMod_write_72 fs_Mod_93 rfl hR.1.mod hR.1.R_waits ?_
              refine g_iload 75 dMod_write_75 rfl ?_
              refine g_ialdN 77 dMod_write_77 hR.1.T_waits (by omega) (by decide) ?_
              refine g_iload 78 dMod_write_78 rfl ?_
              refine g_iadd 80 dMod_write_80 ?_
              refine g_bipush 81 32 dMod_write_81 rfl ?_
              refine g_icmp_gt 83 96 dMod_write_83 rfl (fun h83 => ?_) (fun h83 => ?_)
              · refine g_iconst 96 (-1) dMod_write_96 rfl ?_
                exact g_iret 97 dMod_write_97 rfl (by (try rw [if_neg h17]); (try rw [if_pos h24]); (try rw [if_pos h47]); (try rw [if_neg h58]); (try rw [if_pos h83]); exact ⟨rfl, rfl⟩)
              · refine g_aload_n 86 dMod_write_86 rfl ?_
                refine g_getr 87 10 19 dMod_write_87 fs_Mod_69 rfl hR.1.mod hR.1.R_lastSaid ?_
                refine g_iload 90 dMod_write_90 rfl ?_
                refine g_zaldN 92 dMod_write_92 hR.1.T_lastSaid (by omega) (by decide) ?_
                refine g_top (zI A (29 + 80 * e + 5 * k) 6) ((hR.stk he hk).2.2.2.2) ?_
                refine g_if_eq 93 98 dMod_write_93 rfl (fun h93 => ?_) (fun h93 => ?_)
                · exact absurd h93 hh
                · refine g_iconst 96 (-1) dMod_write_96 rfl ?_
                  exact g_iret 97 dMod_write_97 rfl (by (try rw [if_neg h17]); (try rw [if_pos h24]); (try rw [if_pos h47]); (try rw [if_neg h58]); (try rw [if_neg h83]); exact ⟨rfl, rfl⟩)
            · refine g_aload_n 61 dMod_write_61 rfl ?_
              refine g_getr 62 10 18 dMod_write_62 fs_Mod_66 rfl hR.1.mod hR.1.R_responded ?_
              refine g_iload 65 dMod_write_65 rfl ?_
              refine g_zaldN 67 dMod_write_67 hR.1.T_responded (by omega) (by decide) ?_
              refine g_if_eq 68 96 dMod_write_68 rfl (fun h68 => ?_) (fun h68 => ?_)
              · refine g_iconst 96 (-1) dMod_write_96 rfl ?_
                exact g_iret 97 dMod_write_97 rfl (by (try rw [if_neg h17]); (try rw [if_pos h24]); (try rw [if_pos h47]); (try rw [if_pos h58]); (try rw [if_pos h68]); exact ⟨rfl, rfl⟩)
              · refine g_aload_n 71 dMod_write_71 rfl ?_
                refine g_getr 72 10 27 dMod_write_72 fs_Mod_93 rfl hR.1.mod hR.1.R_waits ?_
                refine g_iload 75 dMod_write_75 rfl ?_
                refine g_ialdN 77 dMod_write_77 hR.1.T_waits (by omega) (by decide) ?_
                refine g_iload 78 dMod_write_78 rfl ?_
                refine g_iadd 80 dMod_write_80 ?_
                refine g_bipush 81 32 dMod_write_81 rfl ?_
                refine g_icmp_gt 83 96 dMod_write_83 rfl (fun h83 => ?_) (fun h83 => ?_)
                · refine g_iconst 96 (-1) dMod_write_96 rfl ?_
                  exact g_iret 97 dMod_write_97 rfl (by (try rw [if_neg h17]); (try rw [if_pos h24]); (try rw [if_pos h47]); (try rw [if_pos h58]); (try rw [if_neg h68]); (try rw [if_pos h83]); exact ⟨rfl, rfl⟩)
                · refine g_aload_n 86 dMod_write_86 rfl ?_
                  refine g_getr 87 10 19 dMod_write_87 fs_Mod_69 rfl hR.1.mod hR.1.R_lastSaid ?_
                  refine g_iload 90 dMod_write_90 rfl ?_
                  refine g_zaldN 92 dMod_write_92 hR.1.T_lastSaid (by omega) (by decide) ?_
                  refine g_top (zI A (29 + 80 * e + 5 * k) 6) ((hR.stk he hk).2.2.2.2) ?_
                  refine g_if_eq 93 98 dMod_write_93 rfl (fun h93 => ?_) (fun h93 => ?_)
                  · exact absurd h93 hh
                  · refine g_iconst 96 (-1) dMod_write_96 rfl ?_
                    exact g_iret 97 dMod_write_97 rfl (by (try rw [if_neg h17]); (try rw [if_pos h24]); (try rw [if_pos h47]); (try rw [if_pos h58]); (try rw [if_neg h68]); (try rw [if_neg h83]); exact ⟨rfl, rfl⟩)
          · refine g_iload 50 dMod_write_50 rfl ?_
            refine g_iconst 52 3 dMod_write_52 rfl ?_
            refine g_icmp_ne 53 96 dMod_write_53 rfl (fun h53 => ?_) (fun h53 => ?_)
            · refine g_iconst 96 (-1) dMod_write_96 rfl ?_
              exact g_iret 97 dMod_write_97 rfl (by (try rw [if_neg h17]); (try rw [if_pos h24]); (try rw [if_neg h47]); (try rw [if_neg h53]); exact ⟨rfl, rfl⟩)
            · refine g_iload_n 56 dMod_write_56 rfl ?_
              refine g_iconst 57 (nI 1) dMod_write_57 rfl ?_
              refine g_icmp_neN 58 71 dMod_write_58 rfl (by omega) (by omega) (fun h58 => ?_) (fun h58 => ?_)
              · refine g_aload_n 71 dMod_write_71 rfl ?_
                refine g_getr 72 10 27 dMod_write_72 fs_Mod_93 rfl hR.1.mod hR.1.R_waits ?_
                refine g_iload 75 dMod_write_75 rfl ?_
                refine g_ialdN 77 dMod_write_77 hR.1.T_waits (by omega) (by decide) ?_
                refine g_iload 78 dMod_write_78 rfl ?_
                refine g_iadd 80 dMod_write_80 ?_
                refine g_bipush 81 32 dMod_write_81 rfl ?_
                refine g_icmp_gt 83 96 dMod_write_83 rfl (fun h83 => ?_) (fun h83 => ?_)
                · refine g_iconst 96 (-1) dMod_write_96 rfl ?_
                  exact g_iret 97 dMod_write_97 rfl (by (try rw [if_neg h17]); (try rw [if_pos h24]); (try rw [if_neg h47]); (try rw [if_pos h53]); (try rw [if_neg h58]); (try rw [if_pos h83]); exact ⟨rfl, rfl⟩)
                · refine g_aload_n 86 dMod_write_86 rfl ?_
                  refine g_getr 87 10 19 dMod_write_87 fs_Mod_69 rfl hR.1.mod hR.1.R_lastSaid ?_
                  refine g_iload 90 dMod_write_90 rfl ?_
                  refine g_zaldN 92 dMod_write_92 hR.1.T_lastSaid (by omega) (by decide) ?_
                  refine g_top (zI A (29 + 80 * e + 5 * k) 6) ((hR.stk he hk).2.2.2.2) ?_
                  refine g_if_eq 93 98 dMod_write_93 rfl (fun h93 => ?_) (fun h93 => ?_)
                  · exact absurd h93 hh
                  · refine g_iconst 96 (-1) dMod_write_96 rfl ?_
                    exact g_iret 97 dMod_write_97 rfl (by (try rw [if_neg h17]); (try rw [if_pos h24]); (try rw [if_neg h47]); (try rw [if_pos h53]); (try rw [if_neg h58]); (try rw [if_neg h83]); exact ⟨rfl, rfl⟩)
              · refine g_aload_n 61 dMod_write_61 rfl ?_
                refine g_getr 62 10 18 dMod_write_62 fs_Mod_66 rfl hR.1.mod hR.1.R_responded ?_
                refine g_iload 65 dMod_write_65 rfl ?_
                refine g_zaldN 67 dMod_write_67 hR.1.T_responded (by omega) (by decide) ?_
                refine g_if_eq 68 96 dMod_write_68 rfl (fun h68 => ?_) (fun h68 => ?_)
                · refine g_iconst 96 (-1) dMod_write_96 rfl ?_
                  exact g_iret 97 dMod_write_97 rfl (by (try rw [if_neg h17]); (try rw [if_pos h24]); (try rw [if_neg h47]); (try rw [if_pos h53]); (try rw [if_pos h58]); (try rw [if_pos h68]); exact ⟨rfl, rfl⟩)
                · refine g_aload_n 71 dMod_write_71 rfl ?_
                  refine g_getr 72 10 27 dMod_write_72 fs_Mod_93 rfl hR.1.mod hR.1.R_waits ?_
                  refine g_iload 75 dMod_write_75 rfl ?_
                  refine g_ialdN 77 dMod_write_77 hR.1.T_waits (by omega) (by decide) ?_
                  refine g_iload 78 dMod_write_78 rfl ?_
                  refine g_iadd 80 dMod_write_80 ?_
                  refine g_bipush 81 32 dMod_write_81 rfl ?_
                  refine g_icmp_gt 83 96 dMod_write_83 rfl (fun h83 => ?_) (fun h83 => ?_)
                  · refine g_iconst 96 (-1) dMod_write_96 rfl ?_
                    exact g_iret 97 dMod_write_97 rfl (by (try rw [if_neg h17]); (try rw [if_pos h24]); (try rw [if_neg h47]); (try rw [if_pos h53]); (try rw [if_pos h58]); (try rw [if_neg h68]); (try rw [if_pos h83]); exact ⟨rfl, rfl⟩)
                  · refine g_aload_n 86 dMod_write_86 rfl ?_
                    refine g_getr 87 10 19 dMod_write_87 fs_Mod_69 rfl hR.1.mod hR.1.R_lastSaid ?_
                    refine g_iload 90 dMod_write_90 rfl ?_
                    refine g_zaldN 92 dMod_write_92 hR.1.T_lastSaid (by omega) (by decide) ?_
                    refine g_top (zI A (29 + 80 * e + 5 * k) 6) ((hR.stk he hk).2.2.2.2) ?_
                    refine g_if_eq 93 98 dMod_write_93 rfl (fun h93 => ?_) (fun h93 => ?_)
                    · exact absurd h93 hh
                    · refine g_iconst 96 (-1) dMod_write_96 rfl ?_
                      exact g_iret 97 dMod_write_97 rfl (by (try rw [if_neg h17]); (try rw [if_pos h24]); (try rw [if_neg h47]); (try rw [if_pos h53]); (try rw [if_pos h58]); (try rw [if_neg h68]); (try rw [if_neg h83]); exact ⟨rfl, rfl⟩)
        · refine g_iconst 27 (-1) dMod_write_27 rfl ?_
          exact g_iret 28 dMod_write_28 rfl (by (try rw [if_neg h17]); (try rw [if_neg h24]); exact ⟨rfl, rfl⟩)

set_option maxRecDepth 100000 in
set_option maxHeartbeats 4000000 in
theorem cm_write_big {X : mX} {l : Launch} {M : mM} {A : zA} {e k : Nat} (hR : RR M A) (he : e < 2) (hk : k < 12) {z : Int32} {b : Int64} {N : Nat} (h8 : N ≤ 8) (hh : ¬ (zW A e k).length + N ≤ 32) (hz0 : zI A (9 + 80 * e) 3 = 0) : Ct X l uMod_write (rk 2 41) [.ref 169, .int (nI e), .int (nI (2 * k + 1)), .long b, .int (nI N), .int z] M (fun r M' => r = some (.int (-1)) ∧ M' = M) := by
  refine Ct.of (by decide) (Nat.le_of_ble_eq_true rfl) ?_
  show G X l uMod_write (rk 2 41) 0 0 M 0 [some (.ref 169), some (.int (nI e)), some (.int (nI (2 * k + 1))), some (.long b), none, some (.int (nI N)), some (.int z), none, none, none] [] _
  have hC : Chg M M mP no2 := Chg.rf
  have hu : Rdowns M e = 0 := (hR.dn he).trans hz0
  have hw := (hR.wt he hk).2.1
  refine g_aload_n 0 dMod_write_0 rfl ?_
  refine g_iload_n 1 dMod_write_1 rfl ?_
  refine g_callV 2 [_] dMod_write_2 cs_Mod_309 rfl (ci := 10) rfl (by decide) hR.1.mod rfl ⟨(Nat.le_of_ble_eq_true rfl), (Nat.le_of_ble_eq_true rfl)⟩ (Nat.le_of_ble_eq_true rfl) (ct_up_y hR.1 he hu) (Nat.le_of_ble_eq_true rfl) (Nat.le_of_ble_eq_true rfl) ?_
  rintro _ M2 ⟨rfl, hM2⟩
  rw [hM2]
  clear hM2 M2
  refine g_if_eq 5 27 dMod_write_5 rfl (fun h5 => ?_) (fun h5 => ?_)
  · exact absurd h5 (by decide)
  · refine g_iload_n 8 dMod_write_8 rfl ?_
    refine g_callS 9 [_] dMod_write_9 cs_Mod_246 rfl rfl ⟨(Nat.le_of_ble_eq_true rfl), (Nat.le_of_ble_eq_true rfl)⟩ (Nat.le_of_ble_eq_true rfl) (ct_isStr_y hk) (Nat.le_of_ble_eq_true rfl) (Nat.le_of_ble_eq_true rfl) ?_
    rintro _ M2 ⟨rfl, hM2⟩
    rw [hM2]
    clear hM2 M2
    refine g_if_eq 12 27 dMod_write_12 rfl (fun h12 => ?_) (fun h12 => ?_)
    · exact absurd h12 (by decide)
    · refine g_iload 15 dMod_write_15 rfl ?_
      refine g_if_ltN 17 27 dMod_write_17 rfl (by omega) (fun h17 => ?_) (fun h17 => ?_)
      · refine g_iconst 27 (-1) dMod_write_27 rfl ?_
        exact g_iret 28 dMod_write_28 rfl (by (try rw [if_pos h17]); exact ⟨rfl, rfl⟩)
      · refine g_iload 20 dMod_write_20 rfl ?_
        refine g_bipush 22 (nI 8) dMod_write_22 rfl ?_
        refine g_icmp_leN 24 29 dMod_write_24 rfl (by omega) (by omega) (fun h24 => ?_) (fun h24 => ?_)
        · refine g_iload_n 29 dMod_write_29 rfl ?_
          refine g_iload_n 30 dMod_write_30 rfl ?_
          refine g_callS 31 [_, _] dMod_write_31 cs_Mod_190 rfl rfl ⟨(Nat.le_of_ble_eq_true rfl), (Nat.le_of_ble_eq_true rfl)⟩ (Nat.le_of_ble_eq_true rfl) (ct_Mod_at (by omega) (by omega)) (Nat.le_of_ble_eq_true rfl) (Nat.le_of_ble_eq_true rfl) ?_
          rintro _ M2 ⟨rfl, hM2⟩
          rw [hM2]
          clear hM2 M2
          refine g_top (nI (12 * e + k)) (by rw [show (2 * k + 1) / 2 = k by omega]) ?_
          refine g_istore 34 dMod_write_34 (by decide) rfl ?_
          refine g_aload_n 36 dMod_write_36 rfl ?_
          refine g_iload 37 dMod_write_37 rfl ?_
          refine g_callV 39 [_] dMod_write_39 cs_Mod_175 rfl (ci := 10) rfl (by decide) hR.1.mod rfl ⟨(Nat.le_of_ble_eq_true rfl), (Nat.le_of_ble_eq_true rfl)⟩ (Nat.le_of_ble_eq_true rfl) (ct_stM hR he hk) (Nat.le_of_ble_eq_true rfl) (Nat.le_of_ble_eq_true rfl) ?_
          rintro _ M2 ⟨rfl, hM2⟩
          rw [hM2]
          clear hM2 M2
          refine g_istore 42 dMod_write_42 (by decide) rfl ?_
          refine g_iload 44 dMod_write_44 rfl ?_
          refine g_iconst 46 1 dMod_write_46 rfl ?_
          refine g_icmp_eq 47 56 dMod_write_47 rfl (fun h47 => ?_) (fun h47 => ?_)
          · refine g_iload_n 56 dMod_write_56 rfl ?_
            refine g_iconst 57 (nI 1) dMod_write_57 rfl ?_
            refine g_icmp_neN 58 71 dMod_write_58 rfl (by omega) (by omega) (fun h58 => ?_) (fun h58 => ?_)
            · refine g_aload_n 71 dMod_write_71 rfl ?_
              refine g_getr 72 10 27 dMod_write_72 fs_Mod_93 rfl hR.1.mod hR.1.R_waits ?_
              refine g_iload 75 dMod_write_75 rfl ?_
              refine g_ialdN 77 dMod_write_77 hR.1.T_waits (by omega) (by decide) ?_
              refine g_top (nI ((zW A e k).length)) ((hR.wt he hk).1) ?_
              refine g_iload 78 dMod_write_78 rfl ?_
              refine g_iaddN 80 dMod_write_80 ?_
              refine g_bipush 81 (nI 32) dMod_write_81 rfl ?_
              refine g_icmp_gtN 83 96 dMod_write_83 rfl (by omega) (by omega) (fun h83 => ?_) (fun h83 => ?_)
              · refine g_iconst 96 (-1) dMod_write_96 rfl ?_
                exact g_iret 97 dMod_write_97 rfl (by (try rw [if_neg h17]); (try rw [if_pos h24]); (try rw [if_pos h47]); (try rw [if_neg h58]); exact ⟨rfl, rfl⟩)
              · exact absurd (by omega) hh
            · refine g_aload_n 61 dMod_write_61 rfl ?_
              refine g_getr 62 10 18 dMod_write_62 fs_Mod_66 rfl hR.1.mod hR.1.R_responded ?_
              refine g_iload 65 dMod_write_65 rfl ?_
              refine g_zaldN 67 dMod_write_67 hR.1.T_responded (by omega) (by decide) ?_
              refine g_if_eq 68 96 dMod_write_68 rfl (fun h68 => ?_) (fun h68 => ?_)
              · refine g_iconst 96 (-1) dMod_write_96 rfl ?_
                exact g_iret 97 dMod_write_97 rfl (by (try rw [if_neg h17]); (try rw [if_pos h24]); (try rw [if_pos h47]); (try rw [if_pos h58]); (try rw [if_pos h68]); exact ⟨rfl, rfl⟩)
              · refine g_aload_n 71 dMod_write_71 rfl ?_
                refine g_getr 72 10 27 dMod_write_72 fs_Mod_93 rfl hR.1.mod hR.1.R_waits ?_
                refine g_iload 75 dMod_write_75 rfl ?_
                refine g_ialdN 77 dMod_write_77 hR.1.T_waits (by omega) (by decide) ?_
                refine g_top (nI ((zW A e k).length)) ((hR.wt he hk).1) ?_
                refine g_iload 78 dMod_write_78 rfl ?_
                refine g_iaddN 80 dMod_write_80 ?_
                refine g_bipush 81 (nI 32) dMod_write_81 rfl ?_
                refine g_icmp_gtN 83 96 dMod_write_83 rfl (by omega) (by omega) (fun h83 => ?_) (fun h83 => ?_)
                · refine g_iconst 96 (-1) dMod_write_96 rfl ?_
                  exact g_iret 97 dMod_write_97 rfl (by (try rw [if_neg h17]); (try rw [if_pos h24]); (try rw [if_pos h47]); (try rw [if_pos h58]); (try rw [if_neg h68]); exact ⟨rfl, rfl⟩)
                · exact absurd (by omega) hh
          · refine g_iload 50 dMod_write_50 rfl ?_
            refine g_iconst 52 3 dMod_write_52 rfl ?_
            refine g_icmp_ne 53 96 dMod_write_53 rfl (fun h53 => ?_) (fun h53 => ?_)
            · refine g_iconst 96 (-1) dMod_write_96 rfl ?_
              exact g_iret 97 dMod_write_97 rfl (by (try rw [if_neg h17]); (try rw [if_pos h24]); (try rw [if_neg h47]); (try rw [if_neg h53]); exact ⟨rfl, rfl⟩)
            · refine g_iload_n 56 dMod_write_56 rfl ?_
              refine g_iconst 57 (nI 1) dMod_write_57 rfl ?_
              refine g_icmp_neN 58 71 dMod_write_58 rfl (by omega) (by omega) (fun h58 => ?_) (fun h58 => ?_)
              · refine g_aload_n 71 dMod_write_71 rfl ?_
                refine g_getr 72 10 27 dMod_write_72 fs_Mod_93 rfl hR.1.mod hR.1.R_waits ?_
                refine g_iload 75 dMod_write_75 rfl ?_
                refine g_ialdN 77 dMod_write_77 hR.1.T_waits (by omega) (by decide) ?_
                refine g_top (nI ((zW A e k).length)) ((hR.wt he hk).1) ?_
                refine g_iload 78 dMod_write_78 rfl ?_
                refine g_iaddN 80 dMod_write_80 ?_
                refine g_bipush 81 (nI 32) dMod_write_81 rfl ?_
                refine g_icmp_gtN 83 96 dMod_write_83 rfl (by omega) (by omega) (fun h83 => ?_) (fun h83 => ?_)
                · refine g_iconst 96 (-1) dMod_write_96 rfl ?_
                  exact g_iret 97 dMod_write_97 rfl (by (try rw [if_neg h17]); (try rw [if_pos h24]); (try rw [if_neg h47]); (try rw [if_pos h53]); (try rw [if_neg h58]); exact ⟨rfl, rfl⟩)
                · exact absurd (by omega) hh
              · refine g_aload_n 61 dMod_write_61 rfl ?_
                refine g_getr 62 10 18 dMod_write_62 fs_Mod_66 rfl hR.1.mod hR.1.R_responded ?_
                refine g_iload 65 dMod_write_65 rfl ?_
                refine g_zaldN 67 dMod_write_67 hR.1.T_responded (by omega) (by decide) ?_
                refine g_if_eq 68 96 dMod_write_68 rfl (fun h68 => ?_) (fun h68 => ?_)
                · refine g_iconst 96 (-1) dMod_write_96 rfl ?_
                  exact g_iret 97 dMod_write_97 rfl (by (try rw [if_neg h17]); (try rw [if_pos h24]); (try rw [if_neg h47]); (try rw [if_pos h53]); (try rw [if_pos h58]); (try rw [if_pos h68]); exact ⟨rfl, rfl⟩)
                · refine g_aload_n 71 dMod_write_71 rfl ?_
                  refine g_getr 72 10 27 dMod_write_72 fs_Mod_93 rfl hR.1.mod hR.1.R_waits ?_
                  refine g_iload 75 dMod_write_75 rfl ?_
                  refine g_ialdN 77 dMod_write_77 hR.1.T_waits (by omega) (by decide) ?_
                  refine g_top (nI ((zW A e k).length)) ((hR.wt he hk).1) ?_
                  refine g_iload 78 dMod_write_78 rfl ?_
                  refine g_iaddN 80 dMod_write_80 ?_
                  refine g_bipush 81 (nI 32) dMod_write_81 rfl ?_
                  refine g_icmp_gtN 83 96 dMod_write_83 rfl (by omega) (by omega) (fun h83 => ?_) (fun h83 => ?_)
                  · refine g_iconst 96 (-1) dMod_write_96 rfl ?_
                    exact g_iret 97 dMod_write_97 rfl (by (try rw [if_neg h17]); (try rw [if_pos h24]); (try rw [if_neg h47]); (try rw [if_pos h53]); (try rw [if_pos h58]); (try rw [if_neg h68]); exact ⟨rfl, rfl⟩)
                  · exact absurd (by omega) hh
        · refine g_iconst 27 (-1) dMod_write_27 rfl ?_
          exact g_iret 28 dMod_write_28 rfl (by (try rw [if_neg h17]); (try rw [if_neg h24]); exact ⟨rfl, rfl⟩)

set_option maxRecDepth 100000 in
set_option maxHeartbeats 4000000 in
theorem cm_requestR {X : mX} {l : Launch} {M : mM} {A : zA} {e k : Nat} (hR : RR M A) (he : e < 2) (hk : k < 12) (e0 : e = 0) {z : Int32} (hz : z = 0 ∨ z = 1) (hno : zI A (9 + 80 * e) 15 = nI (2 * k + 1)) (hm : ¬ moZ A e = 0) (hid : zI A (29 + 80 * e + 5 * k) 1 = 0) (hl6 : zI A (29 + 80 * e + 5 * k) 6 = 0) (hN : ¬ zI A (14 + 80 * e) 1 = 0 → (0 ≤ zI A (14 + 80 * e) 2 ∧ ∃ mt : Nat, mt ≤ 200 ∧ zI A (14 + 80 * e) 3 = nI mt)) {mm : Nat} (hmb : (zB A e 0).2 = nI mm) (hmm : mm ≤ 200) (hz0 : zI A (9 + 80 * e) 3 = 0) (hnf : (zP A (1 - e)).length < 30) : Ct X l uMod_request (rk 4 98) [.ref 169, .int z] M (fun r M' => r = some (.int (nI (2 * k + 1))) ∧ RR M' (opS A e k z) ∧ Chg M M' mP no2) := by
  refine Ct.of (by decide) (Nat.le_of_ble_eq_true rfl) ?_
  show G X l uMod_request (rk 4 98) 0 0 M 0 [some (.ref 169), some (.int z), none] [] _
  have hC : Chg M M mP no2 := Chg.rf
  have hu : Rdowns M e = 0 := (hR.dn he).trans hz0
  subst e0
  obtain ⟨r0, hr1, hr2, hr3⟩ := hR.2.2.2.1
  have hrk : k = r0 := by have := (nI_eq (a := 2 * r0 + 1) (b := 2 * k + 1) (by omega) (by omega)).mp (hr3.symm.trans hno); omega
  subst hrk
  have hrq : Rrequests M = nI k := hr2
  have hk6 := (hR.mk he).2.1
  have hid1 : zI (op1 A 0) (29 + 80 * 0 + 5 * k) 1 = 0 := (zI_a (by omega)).trans hid
  have hB : ∀ a j, a ≠ 29 + 80 * 0 + 5 * k → a ≠ 9 + 80 * 0 → zI (yI (yI (opnA (op1 A 0) 0 k (zI (op1 A 0) (25 + 80 * 0) 2) (zI (op1 A 0) (26 + 80 * 0) 2)) (29 + 80 * 0 + 5 * k) 5 1) (29 + 80 * 0 + 5 * k) 6 z) a j = zI A a j := fun a j q q2 => (zI_a q).trans ((zI_a q).trans ((zI_a q).trans ((zI_a q).trans ((zI_a q).trans (zI_a q2)))))
  have hN1 : ¬ zI (yI (yI (opnA (op1 A 0) 0 k (zI (op1 A 0) (25 + 80 * 0) 2) (zI (op1 A 0) (26 + 80 * 0) 2)) (29 + 80 * 0 + 5 * k) 5 1) (29 + 80 * 0 + 5 * k) 6 z) (14 + 80 * 0) 1 = 0 → (0 ≤ zI (yI (yI (opnA (op1 A 0) 0 k (zI (op1 A 0) (25 + 80 * 0) 2) (zI (op1 A 0) (26 + 80 * 0) 2)) (29 + 80 * 0 + 5 * k) 5 1) (29 + 80 * 0 + 5 * k) 6 z) (14 + 80 * 0) 2 ∧ ∃ mt : Nat, mt ≤ 200 ∧ zI (yI (yI (opnA (op1 A 0) 0 k (zI (op1 A 0) (25 + 80 * 0) 2) (zI (op1 A 0) (26 + 80 * 0) 2)) (29 + 80 * 0 + 5 * k) 5 1) (29 + 80 * 0 + 5 * k) 6 z) (14 + 80 * 0) 3 = nI mt) := by
    rw [hB _ 1 (by omega) (by omega), hB _ 2 (by omega) (by omega), hB _ 3 (by omega) (by omega)]
    exact hN
  have hg1 : zI (yI (yI (opnA (op1 A 0) 0 k (zI (op1 A 0) (25 + 80 * 0) 2) (zI (op1 A 0) (26 + 80 * 0) 2)) (29 + 80 * 0 + 5 * k) 5 1) (29 + 80 * 0 + 5 * k) 6 z) (29 + 80 * 0 + 5 * k) 1 = 1 ∨ zI (yI (yI (opnA (op1 A 0) 0 k (zI (op1 A 0) (25 + 80 * 0) 2) (zI (op1 A 0) (26 + 80 * 0) 2)) (29 + 80 * 0 + 5 * k) 5 1) (29 + 80 * 0 + 5 * k) 6 z) (29 + 80 * 0 + 5 * k) 1 = 3 := Or.inl ((zI_k (by decide)).trans ((zI_k (by decide)).trans ((zI_k (by decide)).trans ((zI_k (by decide)).trans zI_s))))
  have hp1 : (zP (yI (yI (opnA (op1 A 0) 0 k (zI (op1 A 0) (25 + 80 * 0) 2) (zI (op1 A 0) (26 + 80 * 0) 2)) (29 + 80 * 0 + 5 * k) 5 1) (29 + 80 * 0 + 5 * k) 6 z) (1 - 0)).length ≤ 44 := (show (zP A (1 - 0)).length ≤ 44 by omega)
  have h61 : zI (opnA (op1 A 0) 0 k (zI (op1 A 0) (25 + 80 * 0) 2) (zI (op1 A 0) (26 + 80 * 0) 2)) (29 + 80 * 0 + 5 * k) 6 = 0 := ((zI_k (by decide)).trans ((zI_k (by decide)).trans ((zI_k (by decide)).trans (zI_a (by omega))))).trans hl6
  refine g_aload_n 0 dMod_request_0 rfl ?_
  refine g_iconst 1 (nI 0) dMod_request_1 rfl ?_
  refine g_callV 2 [_] dMod_request_2 cs_Mod_309 rfl (ci := 10) rfl (by decide) hR.1.mod rfl ⟨(Nat.le_of_ble_eq_true rfl), (Nat.le_of_ble_eq_true rfl)⟩ (Nat.le_of_ble_eq_true rfl) (ct_up_y hR.1 he hu) (Nat.le_of_ble_eq_true rfl) (Nat.le_of_ble_eq_true rfl) ?_
  rintro _ M2 ⟨rfl, hM2⟩
  rw [hM2]
  clear hM2 M2
  refine g_if_eq 5 40 dMod_request_5 rfl (fun h5 => ?_) (fun h5 => ?_)
  · exact absurd h5 (by decide)
  · refine g_aload_n 8 dMod_request_8 rfl ?_
    refine g_geti 9 10 35 dMod_request_9 fs_Mod_312 rfl hR.1.mod ?_
    refine g_top (nI (k)) (hrq) ?_
    refine g_bipush 12 (nI 12) dMod_request_12 rfl ?_
    refine g_icmp_geN 14 40 dMod_request_14 rfl (by omega) (by omega) (fun h14 => ?_) (fun h14 => ?_)
    · exact absurd h14 (by omega)
    · refine g_aload_n 17 dMod_request_17 rfl ?_
      refine g_getr 18 10 48 dMod_request_18 fs_Mod_153 rfl hR.1.mod hR.1.R_making ?_
      refine g_iconst 21 (nI 0) dMod_request_21 rfl ?_
      refine g_ialdN 22 dMod_request_22 hR.1.T_making (by omega) (by decide) ?_
      refine g_top (nI ((zK A 0).length)) ((hR.mk he).1) ?_
      refine g_if_eqN 23 40 dMod_request_23 rfl (by omega) (fun h23 => ?_) (fun h23 => ?_)
      · exact absurd (by unfold moZ; split; rfl; rw [if_pos (by rw [h23]; decide)]) hm
      · refine g_aload_n 26 dMod_request_26 rfl ?_
        refine g_iconst 27 (nI 0) dMod_request_27 rfl ?_
        refine g_callV 28 [_] dMod_request_28 cs_Mod_273 rfl (ci := 10) rfl (by decide) hR.1.mod rfl ⟨(Nat.le_of_ble_eq_true rfl), (Nat.le_of_ble_eq_true rfl)⟩ (Nat.le_of_ble_eq_true rfl) (ct_cntM hR he) (Nat.le_of_ble_eq_true rfl) (Nat.le_of_ble_eq_true rfl) ?_
        rintro _ M2 ⟨rfl, hM2⟩
        rw [hM2]
        clear hM2 M2
        refine g_aload_n 31 dMod_request_31 rfl ?_
        refine g_getr 32 10 37 dMod_request_32 fs_Mod_120 rfl hR.1.mod hR.1.R_told ?_
        refine g_iconst 35 (nI 1) dMod_request_35 rfl ?_
        refine g_ialdN 36 dMod_request_36 hR.1.T_told (by omega) (by decide) ?_
        refine g_top (zI A (25 + 80 * 0) 1) ((hR.se he).2.1.1) ?_
        refine g_icmp_lt 37 42 dMod_request_37 rfl (fun h37 => ?_) (fun h37 => ?_)
        · refine g_aload_n 42 dMod_request_42 rfl ?_
          refine g_iconst 43 (nI 0) dMod_request_43 rfl ?_
          refine g_callV 44 [_] dMod_request_44 cs_Mod_315 rfl (ci := 10) rfl (by decide) hR.1.mod rfl ⟨(Nat.le_of_ble_eq_true rfl), (Nat.le_of_ble_eq_true rfl)⟩ (Nat.le_of_ble_eq_true rfl) (ct_fullM hR he) (Nat.le_of_ble_eq_true rfl) (Nat.le_of_ble_eq_true rfl) ?_
          rintro _ M2 ⟨rfl, hM2⟩
          rw [hM2]
          clear hM2 M2
          refine g_if_eq 47 53 dMod_request_47 rfl (fun h47 => ?_) (fun h47 => ?_)
          · refine g_iconst 53 (nI 2) dMod_request_53 rfl ?_
            refine g_aload_n 54 dMod_request_54 rfl ?_
            refine g_geti 55 10 35 dMod_request_55 fs_Mod_312 rfl hR.1.mod ?_
            refine g_top (nI (k)) (hrq) ?_
            refine g_imulN 58 dMod_request_58 ?_
            refine g_iconst 59 (nI 1) dMod_request_59 rfl ?_
            refine g_iaddN 60 dMod_request_60 ?_
            refine g_istore_n 61 dMod_request_61 (by decide) rfl ?_
            refine g_aload_n 62 dMod_request_62 rfl ?_
            refine g_aload_n 63 dMod_request_63 rfl ?_
            refine g_geti 64 10 35 dMod_request_64 fs_Mod_312 rfl hR.1.mod ?_
            refine g_top (nI (k)) (hrq) ?_
            refine g_iconst 67 (nI 1) dMod_request_67 rfl ?_
            refine g_iaddN 68 dMod_request_68 ?_
            refine g_puti 69 10 35 dMod_request_69 ps_Mod_312 rfl hR.1.mod ?_
            refine g_memM (hR.rq hk hno) (kM hC (by decide)) (fun M1 hR1 hC1 => ?_)
            refine g_aload_n 72 dMod_request_72 rfl ?_
            refine g_getr 73 10 13 dMod_request_73 fs_Mod_51 rfl hR1.1.mod hR1.1.R_opened ?_
            refine g_iconst 76 (nI 0) dMod_request_76 rfl ?_
            refine g_iload_n 77 dMod_request_77 rfl ?_
            refine g_callS 78 [_, _] dMod_request_78 cs_Mod_190 rfl rfl ⟨(Nat.le_of_ble_eq_true rfl), (Nat.le_of_ble_eq_true rfl)⟩ (Nat.le_of_ble_eq_true rfl) (ct_Mod_at (by omega) (by omega)) (Nat.le_of_ble_eq_true rfl) (Nat.le_of_ble_eq_true rfl) ?_
            rintro _ M2 ⟨rfl, hM2⟩
            rw [hM2]
            clear hM2 M2
            refine g_top (nI (12 * 0 + k)) (by rw [show (2 * k + 1) / 2 = k by omega]) ?_
            refine g_iconst 81 1 dMod_request_81 rfl ?_
            refine g_zastN 82 dMod_request_82 hR1.1.T_opened (by omega) (by decide) (by decide) ?_
            refine g_memM (hR1.opnS he hk hid1) (kM hC1 (by decide)) (fun M2 hR2 hC2 => ?_)
            refine g_aload_n 83 dMod_request_83 rfl ?_
            refine g_getr 84 10 19 dMod_request_84 fs_Mod_69 rfl hR2.1.mod hR2.1.R_lastSaid ?_
            refine g_iconst 87 (nI 0) dMod_request_87 rfl ?_
            refine g_iload_n 88 dMod_request_88 rfl ?_
            refine g_callS 89 [_, _] dMod_request_89 cs_Mod_190 rfl rfl ⟨(Nat.le_of_ble_eq_true rfl), (Nat.le_of_ble_eq_true rfl)⟩ (Nat.le_of_ble_eq_true rfl) (ct_Mod_at (by omega) (by omega)) (Nat.le_of_ble_eq_true rfl) (Nat.le_of_ble_eq_true rfl) ?_
            rintro _ M2 ⟨rfl, hM2⟩
            rw [hM2]
            clear hM2 M2
            refine g_top (nI (12 * 0 + k)) (by rw [show (2 * k + 1) / 2 = k by omega]) ?_
            refine g_iload_n 92 dMod_request_92 rfl ?_
            refine g_zastN 93 dMod_request_93 hR2.1.T_lastSaid (by omega) (by decide) hz ?_
            refine g_memM ((hR2.hs0 (z := 1) he hk rfl).lsS he hk) (kM hC2 (by decide)) (fun M3 hR3 hC3 => ?_)
            refine g_aload_n 94 dMod_request_94 rfl ?_
            refine g_iconst 95 (nI 0) dMod_request_95 rfl ?_
            refine g_iload_n 96 dMod_request_96 rfl ?_
            refine g_iload_n 97 dMod_request_97 rfl ?_
            refine g_callV 98 [_, _, _] dMod_request_98 cs_Mod_318 rfl (ci := 10) rfl (by decide) hR3.1.mod rfl ⟨(Nat.le_of_ble_eq_true rfl), (Nat.le_of_ble_eq_true rfl)⟩ (Nat.le_of_ble_eq_true rfl) (ct_slM hR3 he hk hz hN1 hmb hmm hg1 hp1) (Nat.le_of_ble_eq_true rfl) (Nat.le_of_ble_eq_true rfl) ?_
            rintro _ M4 ⟨rfl, hR4, hc⟩
            have hC4 := hC3.tr hc
            refine g_iload_n 101 dMod_request_101 rfl ?_
            exact g_iret 102 dMod_request_102 rfl ⟨rfl, by unfold opS; rw [← sHd_eq hz (fun _ => h61)]; exact hR4, hC4⟩
          · exact absurd (if_neg (by omega)) h47
        · exact absurd (by unfold moZ; split; rfl; split; rfl; rw [if_pos (Int32.not_lt.mp h37)]) hm

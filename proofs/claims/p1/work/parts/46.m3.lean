theorem dMod_known_0 : decode uMod_known.2.1 0 = .ok (.iload_n 0, 1) := by decide +kernel
theorem dMod_known_1 : decode uMod_known.2.1 1 = .ok (.iconst 1, 1) := by decide +kernel
theorem dMod_known_2 : decode uMod_known.2.1 2 = .ok (.if_icmp .eq 13, 3) := by decide +kernel
theorem dMod_known_5 : decode uMod_known.2.1 5 = .ok (.iload_n 0, 1) := by decide +kernel
theorem dMod_known_6 : decode uMod_known.2.1 6 = .ok (.iconst 3, 1) := by decide +kernel
theorem dMod_known_7 : decode uMod_known.2.1 7 = .ok (.if_icmp .eq 8, 3) := by decide +kernel
theorem dMod_known_10 : decode uMod_known.2.1 10 = .ok (.iload_n 0, 1) := by decide +kernel
theorem dMod_known_11 : decode uMod_known.2.1 11 = .ok (.iconst 4, 1) := by decide +kernel
theorem dMod_known_12 : decode uMod_known.2.1 12 = .ok (.if_icmp .ne 7, 3) := by decide +kernel
theorem dMod_known_15 : decode uMod_known.2.1 15 = .ok (.iconst 1, 1) := by decide +kernel
theorem dMod_known_16 : decode uMod_known.2.1 16 = .ok (.goto 4, 3) := by decide +kernel
theorem dMod_known_19 : decode uMod_known.2.1 19 = .ok (.iconst 0, 1) := by decide +kernel
theorem dMod_known_20 : decode uMod_known.2.1 20 = .ok (.ireturn, 1) := by decide +kernel
theorem dMod_highest_0 : decode uMod_highest.2.1 0 = .ok (.iload_n 0, 1) := by decide +kernel
theorem dMod_highest_1 : decode uMod_highest.2.1 1 = .ok (.iconst 1, 1) := by decide +kernel
theorem dMod_highest_2 : decode uMod_highest.2.1 2 = .ok (.if_icmp .ne 9, 3) := by decide +kernel
theorem dMod_highest_5 : decode uMod_highest.2.1 5 = .ok (.sipush 200, 3) := by decide +kernel
theorem dMod_highest_8 : decode uMod_highest.2.1 8 = .ok (.goto 15, 3) := by decide +kernel
theorem dMod_highest_11 : decode uMod_highest.2.1 11 = .ok (.iload_n 0, 1) := by decide +kernel
theorem dMod_highest_12 : decode uMod_highest.2.1 12 = .ok (.iconst 3, 1) := by decide +kernel
theorem dMod_highest_13 : decode uMod_highest.2.1 13 = .ok (.if_icmp .ne 8, 3) := by decide +kernel
theorem dMod_highest_16 : decode uMod_highest.2.1 16 = .ok (.bipush 12, 2) := by decide +kernel
theorem dMod_highest_18 : decode uMod_highest.2.1 18 = .ok (.goto 5, 3) := by decide +kernel
theorem dMod_highest_21 : decode uMod_highest.2.1 21 = .ok (.bipush 64, 2) := by decide +kernel
theorem dMod_highest_23 : decode uMod_highest.2.1 23 = .ok (.ireturn, 1) := by decide +kernel
theorem dMod_place_0 : decode uMod_place.2.1 0 = .ok (.iload_n 0, 1) := by decide +kernel
theorem dMod_place_1 : decode uMod_place.2.1 1 = .ok (.iconst 1, 1) := by decide +kernel
theorem dMod_place_2 : decode uMod_place.2.1 2 = .ok (.if_icmp .ne 7, 3) := by decide +kernel
theorem dMod_place_5 : decode uMod_place.2.1 5 = .ok (.iconst 0, 1) := by decide +kernel
theorem dMod_place_6 : decode uMod_place.2.1 6 = .ok (.goto 13, 3) := by decide +kernel
theorem dMod_place_9 : decode uMod_place.2.1 9 = .ok (.iload_n 0, 1) := by decide +kernel
theorem dMod_place_10 : decode uMod_place.2.1 10 = .ok (.iconst 3, 1) := by decide +kernel
theorem dMod_place_11 : decode uMod_place.2.1 11 = .ok (.if_icmp .ne 7, 3) := by decide +kernel
theorem dMod_place_14 : decode uMod_place.2.1 14 = .ok (.iconst 1, 1) := by decide +kernel
theorem dMod_place_15 : decode uMod_place.2.1 15 = .ok (.goto 4, 3) := by decide +kernel
theorem dMod_place_18 : decode uMod_place.2.1 18 = .ok (.iconst 2, 1) := by decide +kernel
theorem dMod_place_19 : decode uMod_place.2.1 19 = .ok (.ireturn, 1) := by decide +kernel
theorem dMod_can_0 : decode uMod_can.2.1 0 = .ok (.aload_n 0, 1) := by decide +kernel
theorem dMod_can_1 : decode uMod_can.2.1 1 = .ok (.iload_n 2, 1) := by decide +kernel
theorem dMod_can_2 : decode uMod_can.2.1 2 = .ok (.invokevirtual 175, 3) := by decide +kernel
theorem dMod_can_5 : decode uMod_can.2.1 5 = .ok (.istore_n 3, 1) := by decide +kernel
theorem dMod_can_6 : decode uMod_can.2.1 6 = .ok (.iload_n 3, 1) := by decide +kernel
theorem dMod_can_7 : decode uMod_can.2.1 7 = .ok (.iconst 1, 1) := by decide +kernel
theorem dMod_can_8 : decode uMod_can.2.1 8 = .ok (.if_icmp .eq 10, 3) := by decide +kernel
theorem dMod_can_11 : decode uMod_can.2.1 11 = .ok (.iload_n 3, 1) := by decide +kernel
theorem dMod_can_12 : decode uMod_can.2.1 12 = .ok (.iconst 3, 1) := by decide +kernel
theorem dMod_can_13 : decode uMod_can.2.1 13 = .ok (.if_icmp .eq 5, 3) := by decide +kernel
theorem dMod_can_16 : decode uMod_can.2.1 16 = .ok (.iconst 0, 1) := by decide +kernel
theorem dMod_can_17 : decode uMod_can.2.1 17 = .ok (.ireturn, 1) := by decide +kernel
theorem dMod_can_18 : decode uMod_can.2.1 18 = .ok (.aload_n 0, 1) := by decide +kernel
theorem dMod_can_19 : decode uMod_can.2.1 19 = .ok (.getfield 93, 3) := by decide +kernel
theorem dMod_can_22 : decode uMod_can.2.1 22 = .ok (.iload_n 2, 1) := by decide +kernel
theorem dMod_can_23 : decode uMod_can.2.1 23 = .ok (.iaload, 1) := by decide +kernel
theorem dMod_can_24 : decode uMod_can.2.1 24 = .ok (.ifCond .le 27, 3) := by decide +kernel
theorem dMod_can_27 : decode uMod_can.2.1 27 = .ok (.aload_n 0, 1) := by decide +kernel
theorem dMod_can_28 : decode uMod_can.2.1 28 = .ok (.iload_n 2, 1) := by decide +kernel
theorem dMod_can_29 : decode uMod_can.2.1 29 = .ok (.invokevirtual 288, 3) := by decide +kernel
theorem dMod_can_32 : decode uMod_can.2.1 32 = .ok (.ifCond .le 15, 3) := by decide +kernel
theorem dMod_can_35 : decode uMod_can.2.1 35 = .ok (.aload_n 0, 1) := by decide +kernel
theorem dMod_can_36 : decode uMod_can.2.1 36 = .ok (.iload_n 1, 1) := by decide +kernel
theorem dMod_can_37 : decode uMod_can.2.1 37 = .ok (.invokevirtual 285, 3) := by decide +kernel
theorem dMod_can_40 : decode uMod_can.2.1 40 = .ok (.ifCond .le 7, 3) := by decide +kernel
theorem dMod_can_43 : decode uMod_can.2.1 43 = .ok (.iconst 1, 1) := by decide +kernel
theorem dMod_can_44 : decode uMod_can.2.1 44 = .ok (.goto 13, 3) := by decide +kernel
theorem dMod_can_47 : decode uMod_can.2.1 47 = .ok (.iconst 0, 1) := by decide +kernel
theorem dMod_can_48 : decode uMod_can.2.1 48 = .ok (.goto 9, 3) := by decide +kernel
theorem dMod_can_51 : decode uMod_can.2.1 51 = .ok (.aload_n 0, 1) := by decide +kernel
theorem dMod_can_52 : decode uMod_can.2.1 52 = .ok (.getfield 69, 3) := by decide +kernel
theorem dMod_can_55 : decode uMod_can.2.1 55 = .ok (.iload_n 2, 1) := by decide +kernel
theorem dMod_can_56 : decode uMod_can.2.1 56 = .ok (.baload, 1) := by decide +kernel
theorem dMod_can_57 : decode uMod_can.2.1 57 = .ok (.ireturn, 1) := by decide +kernel
theorem fs_Mod_156 : fS "InterleavedLinkModel" 156 10 49 := ⟨"InterleavedLinkModel", T_Mod, 56, cf_Mod, by decide, Or.inl (gW_in 910 (by decide +kernel) rfl)⟩
theorem fs_Mod_159 : fS "InterleavedLinkModel" 159 10 50 := ⟨"InterleavedLinkModel", T_Mod, 56, cf_Mod, by decide, Or.inl (gW_in 911 (by decide +kernel) rfl)⟩
theorem fs_Mod_162 : fS "InterleavedLinkModel" 162 10 51 := ⟨"InterleavedLinkModel", T_Mod, 56, cf_Mod, by decide, Or.inl (gW_in 912 (by decide +kernel) rfl)⟩
theorem fs_Mod_312 : fS "InterleavedLinkModel" 312 10 35 := ⟨"InterleavedLinkModel", T_Mod, 56, cf_Mod, by decide, Or.inl (gW_in 896 (by decide +kernel) rfl)⟩
theorem cs_Mod_273 : cV "InterleavedLinkModel" 273 uMod_activeAt 1 := ⟨⟨Or.inl (gW_in 1125 (by decide +kernel) rfl), (gW_in 74 (by decide +kernel) rfl), (gW_in 1128 (by decide +kernel) rfl), ⟨by decide, by decide⟩, by decide +kernel⟩, (gW_in 1127 (by decide +kernel) rfl), (gW_in 45 (by decide +kernel) rfl)⟩
theorem fs_Mod_66 : fS "InterleavedLinkModel" 66 10 18 := ⟨"InterleavedLinkModel", T_Mod, 56, cf_Mod, by decide, Or.inl (gW_in 879 (by decide +kernel) rfl)⟩
theorem cs_Mod_315 : cV "InterleavedLinkModel" 315 uMod_full 1 := ⟨⟨Or.inl (gW_in 1186 (by decide +kernel) rfl), (gW_in 74 (by decide +kernel) rfl), (gW_in 1189 (by decide +kernel) rfl), ⟨by decide, by decide⟩, by decide +kernel⟩, (gW_in 1188 (by decide +kernel) rfl), (gW_in 56 (by decide +kernel) rfl)⟩
theorem fs_Mod_69 : fS "InterleavedLinkModel" 69 10 19 := ⟨"InterleavedLinkModel", T_Mod, 56, cf_Mod, by decide, Or.inl (gW_in 880 (by decide +kernel) rfl)⟩
theorem cs_Mod_322 : cV "InterleavedLinkModel" 322 uMod_can 2 := ⟨⟨Or.inl (gW_in 1214 (by decide +kernel) rfl), (gW_in 74 (by decide +kernel) rfl), (gW_in 1217 (by decide +kernel) rfl), ⟨by decide, by decide⟩, by decide +kernel⟩, (gW_in 1216 (by decide +kernel) rfl), (gW_in 60 (by decide +kernel) rfl)⟩
/-! ===== the reference: header, who may send, tables, refusals ===== -/
set_option maxRecDepth 100000 in
set_option maxHeartbeats 4000000 in
theorem cm_header {X : mX} {l : Launch} {M : mM} {e : Nat} (hS : Shp M) (he : e < 2) (hu : Rdowns M e = 0) {a b z : Int32} {c : Nat} (ha : ¬ wi a 0 15 = 0) (hc : Rmaking M e = nI c) (hc6 : c < 6) (hz : z = 0 ∨ z = 1) : Ct X l uMod_header (rk 2 41) [.ref 169, .int (nI e), .int a, .int b, .int z] M (fun r M' => r = some (.int (nI (c + 1))) ∧ M' = setI (setI (setI (setI M 218 (6 * e + c) a) 219 (6 * e + c) b) 220 (6 * e + c) z) 217 e (nI (c + 1))) := by
  refine Ct.of (by decide) (Nat.le_of_ble_eq_true rfl) ?_
  show G X l uMod_header (rk 2 41) 0 0 M 0 [some (.ref 169), some (.int (nI e)), some (.int a), some (.int b), some (.int z), none] [] _
  refine g_aload_n 0 dMod_header_0 rfl ?_
  refine g_iload_n 1 dMod_header_1 rfl ?_
  refine g_callV 2 [_] dMod_header_2 cs_Mod_309 rfl (ci := 10) rfl (by decide) hS.mod rfl ⟨(Nat.le_of_ble_eq_true rfl), (Nat.le_of_ble_eq_true rfl)⟩ (Nat.le_of_ble_eq_true rfl) (ct_up_y hS he hu) (Nat.le_of_ble_eq_true rfl) (Nat.le_of_ble_eq_true rfl) ?_
  rintro _ M2 ⟨rfl, hM2⟩
  rw [hM2]
  clear hM2 M2
  refine g_if_eq 5 29 dMod_header_5 rfl (fun h5 => ?_) (fun h5 => ?_)
  · exact absurd h5 (by decide)
  · refine g_iload_n 8 dMod_header_8 rfl ?_
    refine g_if_lt 9 29 dMod_header_9 rfl (fun h9 => ?_) (fun h9 => ?_)
    · exact absurd (by simp [wi, h9]) ha
    · refine g_iload_n 12 dMod_header_12 rfl ?_
      refine g_bipush 13 15 dMod_header_13 rfl ?_
      refine g_icmp_gt 15 29 dMod_header_15 rfl (fun h15 => ?_) (fun h15 => ?_)
      · exact absurd (by simp [wi, h15]) ha
      · refine g_aload_n 18 dMod_header_18 rfl ?_
        refine g_getr 19 10 48 dMod_header_19 fs_Mod_153 rfl hS.mod hS.R_making ?_
        refine g_iload_n 22 dMod_header_22 rfl ?_
        refine g_ialdN 23 dMod_header_23 hS.T_making (by omega) (by decide) ?_
        refine g_top (nI (c)) (hc) ?_
        refine g_bipush 24 (nI 6) dMod_header_24 rfl ?_
        refine g_icmp_ltN 26 31 dMod_header_26 rfl (by omega) (by omega) (fun h26 => ?_) (fun h26 => ?_)
        · refine g_bipush 31 (nI 6) dMod_header_31 rfl ?_
          refine g_iload_n 33 dMod_header_33 rfl ?_
          refine g_imulN 34 dMod_header_34 ?_
          refine g_aload_n 35 dMod_header_35 rfl ?_
          refine g_getr 36 10 48 dMod_header_36 fs_Mod_153 rfl hS.mod hS.R_making ?_
          refine g_iload_n 39 dMod_header_39 rfl ?_
          refine g_ialdN 40 dMod_header_40 hS.T_making (by omega) (by decide) ?_
          refine g_top (nI (c)) (hc) ?_
          refine g_iaddN 41 dMod_header_41 ?_
          refine g_istore 42 dMod_header_42 (by decide) rfl ?_
          refine g_aload_n 44 dMod_header_44 rfl ?_
          refine g_getr 45 10 49 dMod_header_45 fs_Mod_156 rfl hS.mod hS.R_makingName ?_
          refine g_iload 48 dMod_header_48 rfl ?_
          refine g_iload_n 50 dMod_header_50 rfl ?_
          refine g_iastN 51 dMod_header_51 hS.T_makingName (by omega) (by decide) ?_
          refine g_aload_n 52 dMod_header_52 rfl ?_
          refine g_getr 53 10 50 dMod_header_53 fs_Mod_159 rfl hS.mod hS.R_makingValue ?_
          refine g_iload 56 dMod_header_56 rfl ?_
          refine g_iload_n 58 dMod_header_58 rfl ?_
          refine g_iastN 59 dMod_header_59 hS.T_makingValue (by omega) (by decide) ?_
          refine g_aload_n 60 dMod_header_60 rfl ?_
          refine g_getr 61 10 51 dMod_header_61 fs_Mod_162 rfl hS.mod hS.R_makingSecret ?_
          refine g_iload 64 dMod_header_64 rfl ?_
          refine g_iload 66 dMod_header_66 rfl ?_
          refine g_zastN 68 dMod_header_68 hS.T_makingSecret (by omega) (by decide) hz ?_
          refine g_aload_n 69 dMod_header_69 rfl ?_
          refine g_getr 70 10 48 dMod_header_70 fs_Mod_153 rfl hS.mod hS.R_making ?_
          refine g_iload_n 73 dMod_header_73 rfl ?_
          refine g_aload_n 74 dMod_header_74 rfl ?_
          refine g_getr 75 10 48 dMod_header_75 fs_Mod_153 rfl hS.mod hS.R_making ?_
          refine g_iload_n 78 dMod_header_78 rfl ?_
          refine g_ialdN 79 dMod_header_79 hS.T_making (by omega) (by decide) ?_
          refine g_top (nI (c)) (by simp [mI_setI, mI_setL, mI_setR, up2, hc]) ?_
          refine g_iconst 80 (nI 1) dMod_header_80 rfl ?_
          refine g_iaddN 81 dMod_header_81 ?_
          refine g_iastN 82 dMod_header_82 hS.T_making (by omega) (by decide) ?_
          refine g_aload_n 83 dMod_header_83 rfl ?_
          refine g_getr 84 10 48 dMod_header_84 fs_Mod_153 rfl hS.mod hS.R_making ?_
          refine g_iload_n 87 dMod_header_87 rfl ?_
          refine g_ialdN 88 dMod_header_88 hS.T_making (by omega) (by decide) ?_
          refine g_top (nI (c + 1)) (by rw [mI_setI, up2_same]) ?_
          exact g_iret 89 dMod_header_89 rfl ⟨rfl, rfl⟩
        · exact absurd hc6 h26

set_option maxRecDepth 100000 in
set_option maxHeartbeats 4000000 in
theorem cm_request_0 {X : mX} {l : Launch} {M : mM} (hS : Shp M) (hu : Rdowns M 0 = 0) {z : Int32} (hm : ¬ Rrequests M < 12 ∨ Rmaking M 0 = 0 ∨ ¬ nI (cntA M 0 12) < Rtold M 1) : Ct X l uMod_request (rk 4 98) [.ref 169, .int z] M (fun r M' => r = some (.int (-1)) ∧ M' = M) := by
  refine Ct.of (by decide) (Nat.le_of_ble_eq_true rfl) ?_
  show G X l uMod_request (rk 4 98) 0 0 M 0 [some (.ref 169), some (.int z), none] [] _
  refine g_aload_n 0 dMod_request_0 rfl ?_
  refine g_iconst 1 (nI 0) dMod_request_1 rfl ?_
  refine g_callV 2 [_] dMod_request_2 cs_Mod_309 rfl (ci := 10) rfl (by decide) hS.mod rfl ⟨(Nat.le_of_ble_eq_true rfl), (Nat.le_of_ble_eq_true rfl)⟩ (Nat.le_of_ble_eq_true rfl) (ct_up_y hS (e := 0) (by decide) hu) (Nat.le_of_ble_eq_true rfl) (Nat.le_of_ble_eq_true rfl) ?_
  rintro _ M2 ⟨rfl, hM2⟩
  rw [hM2]
  clear hM2 M2
  refine g_if_eq 5 40 dMod_request_5 rfl (fun h5 => ?_) (fun h5 => ?_)
  · exact absurd h5 (by decide)
  · refine g_aload_n 8 dMod_request_8 rfl ?_
    refine g_geti 9 10 35 dMod_request_9 fs_Mod_312 rfl hS.mod ?_
    refine g_bipush 12 12 dMod_request_12 rfl ?_
    refine g_icmp_ge 14 40 dMod_request_14 rfl (fun h14 => ?_) (fun h14 => ?_)
    · refine g_iconst 40 (-1) dMod_request_40 rfl ?_
      exact g_iret 41 dMod_request_41 rfl ⟨rfl, rfl⟩
    · refine g_aload_n 17 dMod_request_17 rfl ?_
      refine g_getr 18 10 48 dMod_request_18 fs_Mod_153 rfl hS.mod hS.R_making ?_
      refine g_iconst 21 (nI 0) dMod_request_21 rfl ?_
      refine g_ialdN 22 dMod_request_22 hS.T_making (by omega) (by decide) ?_
      refine g_if_eq 23 40 dMod_request_23 rfl (fun h23 => ?_) (fun h23 => ?_)
      · refine g_iconst 40 (-1) dMod_request_40 rfl ?_
        exact g_iret 41 dMod_request_41 rfl ⟨rfl, rfl⟩
      · refine g_aload_n 26 dMod_request_26 rfl ?_
        refine g_iconst 27 (nI 0) dMod_request_27 rfl ?_
        refine g_callV 28 [_] dMod_request_28 cs_Mod_273 rfl (ci := 10) rfl (by decide) hS.mod rfl ⟨(Nat.le_of_ble_eq_true rfl), (Nat.le_of_ble_eq_true rfl)⟩ (Nat.le_of_ble_eq_true rfl) (ct_Mod_activeAt hS (e := 0) (by decide)) (Nat.le_of_ble_eq_true rfl) (Nat.le_of_ble_eq_true rfl) ?_
        rintro _ M2 ⟨rfl, hM2⟩
        rw [hM2]
        clear hM2 M2
        refine g_aload_n 31 dMod_request_31 rfl ?_
        refine g_getr 32 10 37 dMod_request_32 fs_Mod_120 rfl hS.mod hS.R_told ?_
        refine g_iconst 35 (nI 1) dMod_request_35 rfl ?_
        refine g_ialdN 36 dMod_request_36 hS.T_told (by omega) (by decide) ?_
        refine g_icmp_lt 37 42 dMod_request_37 rfl (fun h37 => ?_) (fun h37 => ?_)
        · exact absurd h37 ((hm.resolve_left (fun q => q (Int32.not_le.mp h14))).resolve_left h23)
        · refine g_iconst 40 (-1) dMod_request_40 rfl ?_
          exact g_iret 41 dMod_request_41 rfl ⟨rfl, rfl⟩

set_option maxRecDepth 100000 in
set_option maxHeartbeats 4000000 in
theorem cm_respond_0 {X : mX} {l : Launch} {M : mM} {k : Nat} (hS : Shp M) (hu : Rdowns M 1 = 0) (hk : k < 12) {z : Int32} (hm : Rmaking M 1 = 0 ∨ (¬ stA M (12 + k) = 1 ∧ ¬ stA M (12 + k) = 3) ∨ ¬ Rresponded M (12 + k) = 0) : Ct X l uMod_respond (rk 4 98) [.ref 169, .int (nI (2 * k + 1)), .int z] M (fun r M' => r = some (.int (-1)) ∧ M' = M) := by
  refine Ct.of (by decide) (Nat.le_of_ble_eq_true rfl) ?_
  show G X l uMod_respond (rk 4 98) 0 0 M 0 [some (.ref 169), some (.int (nI (2 * k + 1))), some (.int z), none, none, none] [] _
  refine g_aload_n 0 dMod_respond_0 rfl ?_
  refine g_iconst 1 (nI 1) dMod_respond_1 rfl ?_
  refine g_callV 2 [_] dMod_respond_2 cs_Mod_309 rfl (ci := 10) rfl (by decide) hS.mod rfl ⟨(Nat.le_of_ble_eq_true rfl), (Nat.le_of_ble_eq_true rfl)⟩ (Nat.le_of_ble_eq_true rfl) (ct_up_y hS (e := 1) (by decide) hu) (Nat.le_of_ble_eq_true rfl) (Nat.le_of_ble_eq_true rfl) ?_
  rintro _ M2 ⟨rfl, hM2⟩
  rw [hM2]
  clear hM2 M2
  refine g_if_eq 5 24 dMod_respond_5 rfl (fun h5 => ?_) (fun h5 => ?_)
  · exact absurd h5 (by decide)
  · refine g_iload_n 8 dMod_respond_8 rfl ?_
    refine g_callS 9 [_] dMod_respond_9 cs_Mod_246 rfl rfl ⟨(Nat.le_of_ble_eq_true rfl), (Nat.le_of_ble_eq_true rfl)⟩ (Nat.le_of_ble_eq_true rfl) (ct_isStr_y hk) (Nat.le_of_ble_eq_true rfl) (Nat.le_of_ble_eq_true rfl) ?_
    rintro _ M2 ⟨rfl, hM2⟩
    rw [hM2]
    clear hM2 M2
    refine g_if_eq 12 24 dMod_respond_12 rfl (fun h12 => ?_) (fun h12 => ?_)
    · exact absurd h12 (by decide)
    · refine g_aload_n 15 dMod_respond_15 rfl ?_
      refine g_getr 16 10 48 dMod_respond_16 fs_Mod_153 rfl hS.mod hS.R_making ?_
      refine g_iconst 19 (nI 1) dMod_respond_19 rfl ?_
      refine g_ialdN 20 dMod_respond_20 hS.T_making (by omega) (by decide) ?_
      refine g_if_ne 21 26 dMod_respond_21 rfl (fun h21 => ?_) (fun h21 => ?_)
      · have hm := hm.resolve_left h21
        refine g_iconst 26 (nI 1) dMod_respond_26 rfl ?_
        refine g_iload_n 27 dMod_respond_27 rfl ?_
        refine g_callS 28 [_, _] dMod_respond_28 cs_Mod_190 rfl rfl ⟨(Nat.le_of_ble_eq_true rfl), (Nat.le_of_ble_eq_true rfl)⟩ (Nat.le_of_ble_eq_true rfl) (ct_Mod_at (e := 1) (by decide) (by omega)) (Nat.le_of_ble_eq_true rfl) (Nat.le_of_ble_eq_true rfl) ?_
        rintro _ M2 ⟨rfl, hM2⟩
        rw [hM2]
        clear hM2 M2
        refine g_top (nI (12 + k)) (by rw [show 12 * 1 + (2 * k + 1) / 2 = 12 + k by omega]) ?_
        refine g_istore_n 31 dMod_respond_31 (by decide) rfl ?_
        refine g_aload_n 32 dMod_respond_32 rfl ?_
        refine g_iload_n 33 dMod_respond_33 rfl ?_
        refine g_callV 34 [_] dMod_respond_34 cs_Mod_175 rfl (ci := 10) rfl (by decide) hS.mod rfl ⟨(Nat.le_of_ble_eq_true rfl), (Nat.le_of_ble_eq_true rfl)⟩ (Nat.le_of_ble_eq_true rfl) (ct_Mod_stateAt hS (by omega)) (Nat.le_of_ble_eq_true rfl) (Nat.le_of_ble_eq_true rfl) ?_
        rintro _ M2 ⟨rfl, hM2⟩
        rw [hM2]
        clear hM2 M2
        refine g_istore 37 dMod_respond_37 (by decide) rfl ?_
        refine g_iload 39 dMod_respond_39 rfl ?_
        refine g_iconst 41 1 dMod_respond_41 rfl ?_
        refine g_icmp_eq 42 51 dMod_respond_42 rfl (fun h42 => ?_) (fun h42 => ?_)
        · have hm := hm.resolve_left (fun q => q.1 h42)
          refine g_aload_n 51 dMod_respond_51 rfl ?_
          refine g_getr 52 10 18 dMod_respond_52 fs_Mod_66 rfl hS.mod hS.R_responded ?_
          refine g_iload_n 55 dMod_respond_55 rfl ?_
          refine g_zaldN 56 dMod_respond_56 hS.T_responded (by omega) (by decide) ?_
          refine g_if_eq 57 62 dMod_respond_57 rfl (fun h57 => ?_) (fun h57 => ?_)
          · exact absurd h57 hm
          · refine g_iconst 60 (-1) dMod_respond_60 rfl ?_
            exact g_iret 61 dMod_respond_61 rfl ⟨rfl, rfl⟩
        · refine g_iload 45 dMod_respond_45 rfl ?_
          refine g_iconst 47 3 dMod_respond_47 rfl ?_
          refine g_icmp_ne 48 60 dMod_respond_48 rfl (fun h48 => ?_) (fun h48 => ?_)
          · refine g_iconst 60 (-1) dMod_respond_60 rfl ?_
            exact g_iret 61 dMod_respond_61 rfl ⟨rfl, rfl⟩
          · have hm := hm.resolve_left (fun q => q.2 h48)
            refine g_aload_n 51 dMod_respond_51 rfl ?_
            refine g_getr 52 10 18 dMod_respond_52 fs_Mod_66 rfl hS.mod hS.R_responded ?_
            refine g_iload_n 55 dMod_respond_55 rfl ?_
            refine g_zaldN 56 dMod_respond_56 hS.T_responded (by omega) (by decide) ?_
            refine g_if_eq 57 62 dMod_respond_57 rfl (fun h57 => ?_) (fun h57 => ?_)
            · exact absurd h57 hm
            · refine g_iconst 60 (-1) dMod_respond_60 rfl ?_
              exact g_iret 61 dMod_respond_61 rfl ⟨rfl, rfl⟩
      · refine g_iconst 24 (-1) dMod_respond_24 rfl ?_
        exact g_iret 25 dMod_respond_25 rfl ⟨rfl, rfl⟩

set_option maxRecDepth 100000 in
set_option maxHeartbeats 4000000 in
theorem cm_write_st {X : mX} {l : Launch} {M : mM} {e k : Nat} (hS : Shp M) (he : e < 2) (hk : k < 12) (hu : Rdowns M e = 0) {n z : Int32} {b : Int64} (hm : ¬ stA M (12 * e + k) = 1 ∧ ¬ stA M (12 * e + k) = 3) : Ct X l uMod_write (rk 2 41) [.ref 169, .int (nI e), .int (nI (2 * k + 1)), .long b, .int n, .int z] M (fun r M' => r = some (.int (-1)) ∧ M' = M) := by
  refine Ct.of (by decide) (Nat.le_of_ble_eq_true rfl) ?_
  show G X l uMod_write (rk 2 41) 0 0 M 0 [some (.ref 169), some (.int (nI e)), some (.int (nI (2 * k + 1))), some (.long b), none, some (.int n), some (.int z), none, none, none] [] _
  refine g_aload_n 0 dMod_write_0 rfl ?_
  refine g_iload_n 1 dMod_write_1 rfl ?_
  refine g_callV 2 [_] dMod_write_2 cs_Mod_309 rfl (ci := 10) rfl (by decide) hS.mod rfl ⟨(Nat.le_of_ble_eq_true rfl), (Nat.le_of_ble_eq_true rfl)⟩ (Nat.le_of_ble_eq_true rfl) (ct_up_y hS he hu) (Nat.le_of_ble_eq_true rfl) (Nat.le_of_ble_eq_true rfl) ?_
  rintro _ M2 ⟨rfl, hM2⟩
  rw [hM2]
  clear hM2 M2
  refine g_if_eq 5 27 dMod_write_5 rfl (fun h5 => ?_) (fun h5 => ?_)
  · exact absurd h5 (by decide)
  · refine g_iload_n 8 dMod_write_8 rfl ?_
    refine g_callS 9 [_] dMod_write_9 cs_Mod_246 rfl rfl ⟨(Nat.le_of_ble_eq_true rfl), (Nat.le_of_ble_eq_true rfl)⟩ (Nat.le_of_ble_eq_true rfl) (ct_isStr_y hk) (Nat.le_of_ble_eq_true rfl) (Nat.le_of_ble_eq_true rfl) ?_
    rintro _ M2 ⟨rfl, hM2⟩
    rw [hM2]
    clear hM2 M2
    refine g_if_eq 12 27 dMod_write_12 rfl (fun h12 => ?_) (fun h12 => ?_)
    · exact absurd h12 (by decide)
    · refine g_iload 15 dMod_write_15 rfl ?_
      refine g_if_lt 17 27 dMod_write_17 rfl (fun h17 => ?_) (fun h17 => ?_)
      · refine g_iconst 27 (-1) dMod_write_27 rfl ?_
        exact g_iret 28 dMod_write_28 rfl ⟨rfl, rfl⟩
      · refine g_iload 20 dMod_write_20 rfl ?_
        refine g_bipush 22 8 dMod_write_22 rfl ?_
        refine g_icmp_le 24 29 dMod_write_24 rfl (fun h24 => ?_) (fun h24 => ?_)
        · refine g_iload_n 29 dMod_write_29 rfl ?_
          refine g_iload_n 30 dMod_write_30 rfl ?_
          refine g_callS 31 [_, _] dMod_write_31 cs_Mod_190 rfl rfl ⟨(Nat.le_of_ble_eq_true rfl), (Nat.le_of_ble_eq_true rfl)⟩ (Nat.le_of_ble_eq_true rfl) (ct_Mod_at (by omega) (by omega)) (Nat.le_of_ble_eq_true rfl) (Nat.le_of_ble_eq_true rfl) ?_
          rintro _ M2 ⟨rfl, hM2⟩
          rw [hM2]
          clear hM2 M2
          refine g_top (nI (12 * e + k)) (by rw [show (2 * k + 1) / 2 = k by omega]) ?_
          refine g_istore 34 dMod_write_34 (by decide) rfl ?_
          refine g_aload_n 36 dMod_write_36 rfl ?_
          refine g_iload 37 dMod_write_37 rfl ?_
          refine g_callV 39 [_] dMod_write_39 cs_Mod_175 rfl (ci := 10) rfl (by decide) hS.mod rfl ⟨(Nat.le_of_ble_eq_true rfl), (Nat.le_of_ble_eq_true rfl)⟩ (Nat.le_of_ble_eq_true rfl) (ct_Mod_stateAt hS (by omega)) (Nat.le_of_ble_eq_true rfl) (Nat.le_of_ble_eq_true rfl) ?_
          rintro _ M2 ⟨rfl, hM2⟩
          rw [hM2]
          clear hM2 M2
          refine g_istore 42 dMod_write_42 (by decide) rfl ?_
          refine g_iload 44 dMod_write_44 rfl ?_
          refine g_iconst 46 1 dMod_write_46 rfl ?_
          refine g_icmp_eq 47 56 dMod_write_47 rfl (fun h47 => ?_) (fun h47 => ?_)
          · exact absurd h47 hm.1
          · refine g_iload 50 dMod_write_50 rfl ?_
            refine g_iconst 52 3 dMod_write_52 rfl ?_
            refine g_icmp_ne 53 96 dMod_write_53 rfl (fun h53 => ?_) (fun h53 => ?_)
            · refine g_iconst 96 (-1) dMod_write_96 rfl ?_
              exact g_iret 97 dMod_write_97 rfl ⟨rfl, rfl⟩
            · exact absurd h53 hm.2
        · refine g_iconst 27 (-1) dMod_write_27 rfl ?_
          exact g_iret 28 dMod_write_28 rfl ⟨rfl, rfl⟩

set_option maxRecDepth 100000 in
set_option maxHeartbeats 4000000 in
theorem cm_reset_st {X : mX} {l : Launch} {M : mM} {e k : Nat} (hS : Shp M) (he : e < 2) (hk : k < 12) (hu : Rdowns M e = 0) {n : Int32} (hm : acA M (12 * e + k) = 0) : Ct X l uMod_reset (rk 3 74) [.ref 169, .int (nI e), .int (nI (2 * k + 1)), .int n] M (fun r M' => r = some (.int 0) ∧ M' = M) := by
  refine Ct.of (by decide) (Nat.le_of_ble_eq_true rfl) ?_
  show G X l uMod_reset (rk 3 74) 0 0 M 0 [some (.ref 169), some (.int (nI e)), some (.int (nI (2 * k + 1))), some (.int n)] [] _
  refine g_aload_n 0 dMod_reset_0 rfl ?_
  refine g_iload_n 1 dMod_reset_1 rfl ?_
  refine g_callV 2 [_] dMod_reset_2 cs_Mod_309 rfl (ci := 10) rfl (by decide) hS.mod rfl ⟨(Nat.le_of_ble_eq_true rfl), (Nat.le_of_ble_eq_true rfl)⟩ (Nat.le_of_ble_eq_true rfl) (ct_up_y hS he hu) (Nat.le_of_ble_eq_true rfl) (Nat.le_of_ble_eq_true rfl) ?_
  rintro _ M2 ⟨rfl, hM2⟩
  rw [hM2]
  clear hM2 M2
  refine g_if_eq 5 33 dMod_reset_5 rfl (fun h5 => ?_) (fun h5 => ?_)
  · exact absurd h5 (by decide)
  · refine g_iload_n 8 dMod_reset_8 rfl ?_
    refine g_callS 9 [_] dMod_reset_9 cs_Mod_246 rfl rfl ⟨(Nat.le_of_ble_eq_true rfl), (Nat.le_of_ble_eq_true rfl)⟩ (Nat.le_of_ble_eq_true rfl) (ct_isStr_y hk) (Nat.le_of_ble_eq_true rfl) (Nat.le_of_ble_eq_true rfl) ?_
    rintro _ M2 ⟨rfl, hM2⟩
    rw [hM2]
    clear hM2 M2
    refine g_if_eq 12 33 dMod_reset_12 rfl (fun h12 => ?_) (fun h12 => ?_)
    · exact absurd h12 (by decide)
    · refine g_iload_n 15 dMod_reset_15 rfl ?_
      refine g_if_lt 16 33 dMod_reset_16 rfl (fun h16 => ?_) (fun h16 => ?_)
      · refine g_iconst 33 0 dMod_reset_33 rfl ?_
        exact g_zret 34 dMod_reset_34 rfl (by decide) ⟨rfl, rfl⟩
      · refine g_iload_n 19 dMod_reset_19 rfl ?_
        refine g_bipush 20 15 dMod_reset_20 rfl ?_
        refine g_icmp_gt 22 33 dMod_reset_22 rfl (fun h22 => ?_) (fun h22 => ?_)
        · refine g_iconst 33 0 dMod_reset_33 rfl ?_
          exact g_zret 34 dMod_reset_34 rfl (by decide) ⟨rfl, rfl⟩
        · refine g_aload_n 25 dMod_reset_25 rfl ?_
          refine g_iload_n 26 dMod_reset_26 rfl ?_
          refine g_callV 27 [_] dMod_reset_27 cs_Mod_315 rfl (ci := 10) rfl (by decide) hS.mod rfl ⟨(Nat.le_of_ble_eq_true rfl), (Nat.le_of_ble_eq_true rfl)⟩ (Nat.le_of_ble_eq_true rfl) (ct_Mod_full hS he) (Nat.le_of_ble_eq_true rfl) (Nat.le_of_ble_eq_true rfl) ?_
          rintro _ M2 ⟨rfl, hM2⟩
          rw [hM2]
          clear hM2 M2
          refine g_if_eq 30 35 dMod_reset_30 rfl (fun h30 => ?_) (fun h30 => ?_)
          · refine g_aload_n 35 dMod_reset_35 rfl ?_
            refine g_iload_n 36 dMod_reset_36 rfl ?_
            refine g_iload_n 37 dMod_reset_37 rfl ?_
            refine g_callS 38 [_, _] dMod_reset_38 cs_Mod_190 rfl rfl ⟨(Nat.le_of_ble_eq_true rfl), (Nat.le_of_ble_eq_true rfl)⟩ (Nat.le_of_ble_eq_true rfl) (ct_Mod_at (by omega) (by omega)) (Nat.le_of_ble_eq_true rfl) (Nat.le_of_ble_eq_true rfl) ?_
            rintro _ M2 ⟨rfl, hM2⟩
            rw [hM2]
            clear hM2 M2
            refine g_top (nI (12 * e + k)) (by rw [show (2 * k + 1) / 2 = k by omega]) ?_
            refine g_callV 41 [_] dMod_reset_41 cs_Mod_179 rfl (ci := 10) rfl (by decide) hS.mod rfl ⟨(Nat.le_of_ble_eq_true rfl), (Nat.le_of_ble_eq_true rfl)⟩ (Nat.le_of_ble_eq_true rfl) (ct_Mod_active hS (by omega)) (Nat.le_of_ble_eq_true rfl) (Nat.le_of_ble_eq_true rfl) ?_
            rintro _ M2 ⟨rfl, hM2⟩
            rw [hM2]
            clear hM2 M2
            refine g_if_ne 44 49 dMod_reset_44 rfl (fun h44 => ?_) (fun h44 => ?_)
            · exact absurd hm h44
            · refine g_iconst 47 0 dMod_reset_47 rfl ?_
              exact g_zret 48 dMod_reset_48 rfl (by decide) ⟨rfl, rfl⟩
          · refine g_iconst 33 0 dMod_reset_33 rfl ?_
            exact g_zret 34 dMod_reset_34 rfl (by decide) ⟨rfl, rfl⟩

def knA (x : Int32) : Int32 := if x = 1 then 1 else if x = 3 then 1 else if ¬ x = 4 then 0 else 1
def hiA (x : Int32) : Int32 := if ¬ x = 1 then (if ¬ x = 3 then 64 else 12) else 200
def plA (x : Int32) : Nat := if ¬ x = 1 then (if ¬ x = 3 then 2 else 1) else 0
def caA (M : mM) (e i : Nat) : Int32 := if ¬ stA M i = 1 ∧ ¬ stA M i = 3 then 0 else if Rwaits M i ≤ 0 then RlastSaid M i else if Rtold M (3 * (i / 12) + 2) + Rcredit M i - Rsent M i ≤ 0 then 0 else if 40 + RlinkCredit M e - RlinkSent M e ≤ 0 then 0 else 1
set_option maxRecDepth 100000 in
set_option maxHeartbeats 4000000 in
theorem cm_known {X : mX} {l : Launch} {M : mM} {x : Int32} : Ct X l uMod_known (rk 0 0) [.int x] M (fun r M' => r = some (.int (knA x)) ∧ M' = M) := by
  refine Ct.of (by decide) (Nat.le_of_ble_eq_true rfl) ?_
  show G X l uMod_known (rk 0 0) 0 0 M 0 [some (.int x)] [] _
  refine g_iload_n 0 dMod_known_0 rfl ?_
  refine g_iconst 1 1 dMod_known_1 rfl ?_
  refine g_icmp_eq 2 15 dMod_known_2 rfl (fun h2 => ?_) (fun h2 => ?_)
  · refine g_iconst 15 1 dMod_known_15 rfl ?_
    refine g_goto 16 20 dMod_known_16 rfl ?_
    exact g_zret 20 dMod_known_20 rfl (by decide) ⟨by first | (simp only [knA, *, if_true, if_false, not_true_eq_false, not_false_eq_true, and_true, true_and, and_false, false_and, and_self, reduceIte]; done) | (simp_all [knA]; done), rfl⟩
  · refine g_iload_n 5 dMod_known_5 rfl ?_
    refine g_iconst 6 3 dMod_known_6 rfl ?_
    refine g_icmp_eq 7 15 dMod_known_7 rfl (fun h7 => ?_) (fun h7 => ?_)
    · refine g_iconst 15 1 dMod_known_15 rfl ?_
      refine g_goto 16 20 dMod_known_16 rfl ?_
      exact g_zret 20 dMod_known_20 rfl (by decide) ⟨by first | (simp only [knA, *, if_true, if_false, not_true_eq_false, not_false_eq_true, and_true, true_and, and_false, false_and, and_self, reduceIte]; done) | (simp_all [knA]; done), rfl⟩
    · refine g_iload_n 10 dMod_known_10 rfl ?_
      refine g_iconst 11 4 dMod_known_11 rfl ?_
      refine g_icmp_ne 12 19 dMod_known_12 rfl (fun h12 => ?_) (fun h12 => ?_)
      · refine g_iconst 19 0 dMod_known_19 rfl ?_
        exact g_zret 20 dMod_known_20 rfl (by decide) ⟨by first | (simp only [knA, *, if_true, if_false, not_true_eq_false, not_false_eq_true, and_true, true_and, and_false, false_and, and_self, reduceIte]; done) | (simp_all [knA]; done), rfl⟩
      · refine g_iconst 15 1 dMod_known_15 rfl ?_
        refine g_goto 16 20 dMod_known_16 rfl ?_
        exact g_zret 20 dMod_known_20 rfl (by decide) ⟨by first | (simp only [knA, *, if_true, if_false, not_true_eq_false, not_false_eq_true, and_true, true_and, and_false, false_and, and_self, reduceIte]; done) | (simp_all [knA]; done), rfl⟩

set_option maxRecDepth 100000 in
set_option maxHeartbeats 4000000 in
theorem cm_highest {X : mX} {l : Launch} {M : mM} {x : Int32} : Ct X l uMod_highest (rk 0 0) [.int x] M (fun r M' => r = some (.int (hiA x)) ∧ M' = M) := by
  refine Ct.of (by decide) (Nat.le_of_ble_eq_true rfl) ?_
  show G X l uMod_highest (rk 0 0) 0 0 M 0 [some (.int x)] [] _
  refine g_iload_n 0 dMod_highest_0 rfl ?_
  refine g_iconst 1 1 dMod_highest_1 rfl ?_
  refine g_icmp_ne 2 11 dMod_highest_2 rfl (fun h2 => ?_) (fun h2 => ?_)
  · refine g_iload_n 11 dMod_highest_11 rfl ?_
    refine g_iconst 12 3 dMod_highest_12 rfl ?_
    refine g_icmp_ne 13 21 dMod_highest_13 rfl (fun h13 => ?_) (fun h13 => ?_)
    · refine g_bipush 21 64 dMod_highest_21 rfl ?_
      exact g_iret 23 dMod_highest_23 rfl ⟨by first | (simp only [hiA, *, if_true, if_false, not_true_eq_false, not_false_eq_true, and_true, true_and, and_false, false_and, and_self, reduceIte]; done) | (simp_all [hiA]; done), rfl⟩
    · refine g_bipush 16 12 dMod_highest_16 rfl ?_
      refine g_goto 18 23 dMod_highest_18 rfl ?_
      exact g_iret 23 dMod_highest_23 rfl ⟨by first | (simp only [hiA, *, if_true, if_false, not_true_eq_false, not_false_eq_true, and_true, true_and, and_false, false_and, and_self, reduceIte]; done) | (simp_all [hiA]; done), rfl⟩
  · refine g_sipush 5 200 dMod_highest_5 rfl ?_
    refine g_goto 8 23 dMod_highest_8 rfl ?_
    exact g_iret 23 dMod_highest_23 rfl ⟨by first | (simp only [hiA, *, if_true, if_false, not_true_eq_false, not_false_eq_true, and_true, true_and, and_false, false_and, and_self, reduceIte]; done) | (simp_all [hiA]; done), rfl⟩

set_option maxRecDepth 100000 in
set_option maxHeartbeats 4000000 in
theorem cm_place {X : mX} {l : Launch} {M : mM} {x : Int32} : Ct X l uMod_place (rk 0 0) [.int x] M (fun r M' => r = some (.int (nI (plA x))) ∧ M' = M) := by
  refine Ct.of (by decide) (Nat.le_of_ble_eq_true rfl) ?_
  show G X l uMod_place (rk 0 0) 0 0 M 0 [some (.int x)] [] _
  refine g_iload_n 0 dMod_place_0 rfl ?_
  refine g_iconst 1 1 dMod_place_1 rfl ?_
  refine g_icmp_ne 2 9 dMod_place_2 rfl (fun h2 => ?_) (fun h2 => ?_)
  · refine g_iload_n 9 dMod_place_9 rfl ?_
    refine g_iconst 10 3 dMod_place_10 rfl ?_
    refine g_icmp_ne 11 18 dMod_place_11 rfl (fun h11 => ?_) (fun h11 => ?_)
    · refine g_iconst 18 2 dMod_place_18 rfl ?_
      exact g_iret 19 dMod_place_19 rfl ⟨by simp_all [plA] <;> rfl, rfl⟩
    · refine g_iconst 14 1 dMod_place_14 rfl ?_
      refine g_goto 15 19 dMod_place_15 rfl ?_
      exact g_iret 19 dMod_place_19 rfl ⟨by simp_all [plA] <;> rfl, rfl⟩
  · refine g_iconst 5 0 dMod_place_5 rfl ?_
    refine g_goto 6 19 dMod_place_6 rfl ?_
    exact g_iret 19 dMod_place_19 rfl ⟨by simp_all [plA] <;> rfl, rfl⟩

set_option maxRecDepth 100000 in
set_option maxHeartbeats 4000000 in
theorem cm_can {X : mX} {l : Launch} {M : mM} {e i : Nat} (hS : Shp M) (he : e < 2) (hi : i < 24) (hb : RlastSaid M i = 0 ∨ RlastSaid M i = 1) : Ct X l uMod_can (rk 1 21) [.ref 169, .int (nI e), .int (nI i)] M (fun r M' => r = some (.int (caA M e i)) ∧ M' = M) := by
  refine Ct.of (by decide) (Nat.le_of_ble_eq_true rfl) ?_
  show G X l uMod_can (rk 1 21) 0 0 M 0 [some (.ref 169), some (.int (nI e)), some (.int (nI i)), none] [] _
  refine g_aload_n 0 dMod_can_0 rfl ?_
  refine g_iload_n 1 dMod_can_1 rfl ?_
  refine g_callV 2 [_] dMod_can_2 cs_Mod_175 rfl (ci := 10) rfl (by decide) hS.mod rfl ⟨(Nat.le_of_ble_eq_true rfl), (Nat.le_of_ble_eq_true rfl)⟩ (Nat.le_of_ble_eq_true rfl) (ct_Mod_stateAt hS (by omega)) (Nat.le_of_ble_eq_true rfl) (Nat.le_of_ble_eq_true rfl) ?_
  rintro _ M2 ⟨rfl, hM2⟩
  rw [hM2]
  clear hM2 M2
  refine g_istore_n 5 dMod_can_5 (by decide) rfl ?_
  refine g_iload_n 6 dMod_can_6 rfl ?_
  refine g_iconst 7 1 dMod_can_7 rfl ?_
  refine g_icmp_eq 8 18 dMod_can_8 rfl (fun h8 => ?_) (fun h8 => ?_)
  · refine g_aload_n 18 dMod_can_18 rfl ?_
    refine g_getr 19 10 27 dMod_can_19 fs_Mod_93 rfl hS.mod hS.R_waits ?_
    refine g_iload_n 22 dMod_can_22 rfl ?_
    refine g_ialdN 23 dMod_can_23 hS.T_waits (by omega) (by decide) ?_
    refine g_if_le 24 51 dMod_can_24 rfl (fun h24 => ?_) (fun h24 => ?_)
    · refine g_aload_n 51 dMod_can_51 rfl ?_
      refine g_getr 52 10 19 dMod_can_52 fs_Mod_69 rfl hS.mod hS.R_lastSaid ?_
      refine g_iload_n 55 dMod_can_55 rfl ?_
      refine g_zaldN 56 dMod_can_56 hS.T_lastSaid (by omega) (by decide) ?_
      exact g_zret 57 dMod_can_57 rfl (by first | decide | exact hb) ⟨by first | (simp only [caA, *, if_true, if_false, not_true_eq_false, not_false_eq_true, and_true, true_and, and_false, false_and, and_self, reduceIte]; done) | (simp_all [caA]; done), rfl⟩
    · refine g_aload_n 27 dMod_can_27 rfl ?_
      refine g_iload_n 28 dMod_can_28 rfl ?_
      refine g_callV 29 [_] dMod_can_29 cs_Mod_288 rfl (ci := 10) rfl (by decide) hS.mod rfl ⟨(Nat.le_of_ble_eq_true rfl), (Nat.le_of_ble_eq_true rfl)⟩ (Nat.le_of_ble_eq_true rfl) (ct_Mod_sendWindow hS (by omega)) (Nat.le_of_ble_eq_true rfl) (Nat.le_of_ble_eq_true rfl) ?_
      rintro _ M2 ⟨rfl, hM2⟩
      rw [hM2]
      clear hM2 M2
      refine g_if_le 32 47 dMod_can_32 rfl (fun h32 => ?_) (fun h32 => ?_)
      · refine g_iconst 47 0 dMod_can_47 rfl ?_
        refine g_goto 48 57 dMod_can_48 rfl ?_
        exact g_zret 57 dMod_can_57 rfl (by first | decide | exact hb) ⟨by first | (simp only [caA, *, if_true, if_false, not_true_eq_false, not_false_eq_true, and_true, true_and, and_false, false_and, and_self, reduceIte]; done) | (simp_all [caA]; done), rfl⟩
      · refine g_aload_n 35 dMod_can_35 rfl ?_
        refine g_iload_n 36 dMod_can_36 rfl ?_
        refine g_callV 37 [_] dMod_can_37 cs_Mod_285 rfl (ci := 10) rfl (by decide) hS.mod rfl ⟨(Nat.le_of_ble_eq_true rfl), (Nat.le_of_ble_eq_true rfl)⟩ (Nat.le_of_ble_eq_true rfl) (ct_Mod_linkSend hS (by omega)) (Nat.le_of_ble_eq_true rfl) (Nat.le_of_ble_eq_true rfl) ?_
        rintro _ M2 ⟨rfl, hM2⟩
        rw [hM2]
        clear hM2 M2
        refine g_if_le 40 47 dMod_can_40 rfl (fun h40 => ?_) (fun h40 => ?_)
        · refine g_iconst 47 0 dMod_can_47 rfl ?_
          refine g_goto 48 57 dMod_can_48 rfl ?_
          exact g_zret 57 dMod_can_57 rfl (by first | decide | exact hb) ⟨by first | (simp only [caA, *, if_true, if_false, not_true_eq_false, not_false_eq_true, and_true, true_and, and_false, false_and, and_self, reduceIte]; done) | (simp_all [caA]; done), rfl⟩
        · refine g_iconst 43 1 dMod_can_43 rfl ?_
          refine g_goto 44 57 dMod_can_44 rfl ?_
          exact g_zret 57 dMod_can_57 rfl (by first | decide | exact hb) ⟨by first | (simp only [caA, *, if_true, if_false, not_true_eq_false, not_false_eq_true, and_true, true_and, and_false, false_and, and_self, reduceIte]; done) | (simp_all [caA]; done), rfl⟩
  · refine g_iload_n 11 dMod_can_11 rfl ?_
    refine g_iconst 12 3 dMod_can_12 rfl ?_
    refine g_icmp_eq 13 18 dMod_can_13 rfl (fun h13 => ?_) (fun h13 => ?_)
    · refine g_aload_n 18 dMod_can_18 rfl ?_
      refine g_getr 19 10 27 dMod_can_19 fs_Mod_93 rfl hS.mod hS.R_waits ?_
      refine g_iload_n 22 dMod_can_22 rfl ?_
      refine g_ialdN 23 dMod_can_23 hS.T_waits (by omega) (by decide) ?_
      refine g_if_le 24 51 dMod_can_24 rfl (fun h24 => ?_) (fun h24 => ?_)
      · refine g_aload_n 51 dMod_can_51 rfl ?_
        refine g_getr 52 10 19 dMod_can_52 fs_Mod_69 rfl hS.mod hS.R_lastSaid ?_
        refine g_iload_n 55 dMod_can_55 rfl ?_
        refine g_zaldN 56 dMod_can_56 hS.T_lastSaid (by omega) (by decide) ?_
        exact g_zret 57 dMod_can_57 rfl (by first | decide | exact hb) ⟨by first | (simp only [caA, *, if_true, if_false, not_true_eq_false, not_false_eq_true, and_true, true_and, and_false, false_and, and_self, reduceIte]; done) | (simp_all [caA]; done), rfl⟩
      · refine g_aload_n 27 dMod_can_27 rfl ?_
        refine g_iload_n 28 dMod_can_28 rfl ?_
        refine g_callV 29 [_] dMod_can_29 cs_Mod_288 rfl (ci := 10) rfl (by decide) hS.mod rfl ⟨(Nat.le_of_ble_eq_true rfl), (Nat.le_of_ble_eq_true rfl)⟩ (Nat.le_of_ble_eq_true rfl) (ct_Mod_sendWindow hS (by omega)) (Nat.le_of_ble_eq_true rfl) (Nat.le_of_ble_eq_true rfl) ?_
        rintro _ M2 ⟨rfl, hM2⟩
        rw [hM2]
        clear hM2 M2
        refine g_if_le 32 47 dMod_can_32 rfl (fun h32 => ?_) (fun h32 => ?_)
        · refine g_iconst 47 0 dMod_can_47 rfl ?_
          refine g_goto 48 57 dMod_can_48 rfl ?_
          exact g_zret 57 dMod_can_57 rfl (by first | decide | exact hb) ⟨by first | (simp only [caA, *, if_true, if_false, not_true_eq_false, not_false_eq_true, and_true, true_and, and_false, false_and, and_self, reduceIte]; done) | (simp_all [caA]; done), rfl⟩
        · refine g_aload_n 35 dMod_can_35 rfl ?_
          refine g_iload_n 36 dMod_can_36 rfl ?_
          refine g_callV 37 [_] dMod_can_37 cs_Mod_285 rfl (ci := 10) rfl (by decide) hS.mod rfl ⟨(Nat.le_of_ble_eq_true rfl), (Nat.le_of_ble_eq_true rfl)⟩ (Nat.le_of_ble_eq_true rfl) (ct_Mod_linkSend hS (by omega)) (Nat.le_of_ble_eq_true rfl) (Nat.le_of_ble_eq_true rfl) ?_
          rintro _ M2 ⟨rfl, hM2⟩
          rw [hM2]
          clear hM2 M2
          refine g_if_le 40 47 dMod_can_40 rfl (fun h40 => ?_) (fun h40 => ?_)
          · refine g_iconst 47 0 dMod_can_47 rfl ?_
            refine g_goto 48 57 dMod_can_48 rfl ?_
            exact g_zret 57 dMod_can_57 rfl (by first | decide | exact hb) ⟨by first | (simp only [caA, *, if_true, if_false, not_true_eq_false, not_false_eq_true, and_true, true_and, and_false, false_and, and_self, reduceIte]; done) | (simp_all [caA]; done), rfl⟩
          · refine g_iconst 43 1 dMod_can_43 rfl ?_
            refine g_goto 44 57 dMod_can_44 rfl ?_
            exact g_zret 57 dMod_can_57 rfl (by first | decide | exact hb) ⟨by first | (simp only [caA, *, if_true, if_false, not_true_eq_false, not_false_eq_true, and_true, true_and, and_false, false_and, and_self, reduceIte]; done) | (simp_all [caA]; done), rfl⟩
    · refine g_iconst 16 0 dMod_can_16 rfl ?_
      exact g_zret 17 dMod_can_17 rfl (by decide) ⟨by first | (simp only [caA, *, if_true, if_false, not_true_eq_false, not_false_eq_true, and_true, true_and, and_false, false_and, and_self, reduceIte]; done) | (simp_all [caA]; done), rfl⟩

theorem nx_none {c : Nat → Int32} {q : Nat} : ∀ j n, nxF c q (j + 1) n = none → c ((q + n - 1) % 12) = 0 ∧ nxF c q j (n + 1) = none := by
  intro j n h
  unfold nxF at h
  split at h
  · exact ⟨by assumption, h⟩
  · cases h
set_option maxRecDepth 100000 in
set_option maxHeartbeats 4000000 in
theorem g_pump_in {X : mX} {l : Launch} {M : mM} {e q : Nat} {x f : Int32} {Q : Option Value → mM → Prop} (hS : Shp M) (he : e < 2) (hb : ∀ i, i < 24 → RlastSaid M i = 0 ∨ RlastSaid M i = 1) (hl : RlastData M e = nI q - 1) (hq12 : q ≤ 12) (hq : Q (some (.int f)) M) : ∀ (j n : Nat) (w : Option Value), n + j = 13 → 1 ≤ n → nxF (fun k => caA M e (12 * e + k)) q j n = none → (w = none ∨ ∃ z : Int32, w = some (.int z)) → G X l uMod_pump (rk 2 53) 0 0 M 34 [some (.ref 169), some (.int (nI e)), some (.int x), some (.int f), some (.int (-1)), some (.int (nI n)), w] [] Q
  | 0, n, w, hn, h1, hx, hw => by
    have hn : n = 13 := by omega
    subst hn
    refine g_iload 34 dMod_pump_34 rfl ?_
    refine g_bipush 36 (nI 12) dMod_pump_36 rfl ?_
    refine g_icmp_gtN 38 98 dMod_pump_38 rfl (by omega) (by omega) (fun h38 => ?_) (fun h38 => ?_)
    · refine g_iload 98 dMod_pump_98 rfl ?_
      refine g_if_ge 100 105 dMod_pump_100 rfl (fun h100 => ?_) (fun h100 => ?_)
      · exact absurd h100 (by decide)
      · refine g_iload_n 103 dMod_pump_103 rfl ?_
        exact g_iret 104 dMod_pump_104 rfl hq
    · exact absurd (by decide : 12 < 13) h38
  | j + 1, n, w, hn, h1, hx, hw => by
    have hk : (q + n - 1) % 12 < 12 := Nat.mod_lt _ (by decide)
    obtain ⟨hc, hx2⟩ := nx_none j n hx
    have hc : caA M e (12 * e + (q + n - 1) % 12) = 0 := hc
    have ih := g_pump_in (X := X) (l := l) (x := x) hS he hb hl hq12 hq j (n + 1)
    refine g_iload 34 dMod_pump_34 rfl ?_
    refine g_bipush 36 (nI 12) dMod_pump_36 rfl ?_
    refine g_icmp_gtN 38 98 dMod_pump_38 rfl (by omega) (by omega) (fun h38 => ?_) (fun h38 => ?_)
    · exact absurd h38 (by omega)
    · refine g_aload_n 41 dMod_pump_41 rfl ?_
      refine g_iload_n 42 dMod_pump_42 rfl ?_
      refine g_callV 43 [_] dMod_pump_43 cs_Mod_315 rfl (ci := 10) rfl (by decide) hS.mod rfl ⟨(Nat.le_of_ble_eq_true rfl), (Nat.le_of_ble_eq_true rfl)⟩ (Nat.le_of_ble_eq_true rfl) (ct_Mod_full hS he) (Nat.le_of_ble_eq_true rfl) (Nat.le_of_ble_eq_true rfl) ?_
      rintro _ M2 ⟨rfl, hM2⟩
      rw [hM2]
      clear hM2 M2
      refine g_if_ne 46 98 dMod_pump_46 rfl (fun h46 => ?_) (fun h46 => ?_)
      · refine g_iload 98 dMod_pump_98 rfl ?_
        refine g_if_ge 100 105 dMod_pump_100 rfl (fun h100 => ?_) (fun h100 => ?_)
        · exact absurd h100 (by decide)
        · refine g_iload_n 103 dMod_pump_103 rfl ?_
          exact g_iret 104 dMod_pump_104 rfl hq
      · refine g_aload_n 49 dMod_pump_49 rfl ?_
        refine g_getr 50 10 34 dMod_pump_50 fs_Mod_114 rfl hS.mod hS.R_lastData ?_
        refine g_iload_n 53 dMod_pump_53 rfl ?_
        refine g_ialdN 54 dMod_pump_54 hS.T_lastData (by omega) (by decide) ?_
        refine g_iload 55 dMod_pump_55 rfl ?_
        refine g_iadd 57 dMod_pump_57 ?_
        refine g_top (nI (q + n - 1)) (by rw [show mI M 204 e = nI q - 1 from hl]; exact nI_lst h1) ?_
        refine g_bipush 58 (nI 12) dMod_pump_58 rfl ?_
        refine g_iremN 60 dMod_pump_60 (by omega) (by decide) (by decide) ?_
        refine g_istore 61 dMod_pump_61 (by decide) rfl ?_
        refine g_iload 63 dMod_pump_63 rfl ?_
        refine g_if_ge 65 88 dMod_pump_65 rfl (fun h65 => ?_) (fun h65 => ?_)
        · exact absurd h65 (by decide)
        · refine g_aload_n 68 dMod_pump_68 rfl ?_
          refine g_iload_n 69 dMod_pump_69 rfl ?_
          refine g_bipush 70 (nI 12) dMod_pump_70 rfl ?_
          refine g_iload_n 72 dMod_pump_72 rfl ?_
          refine g_imulN 73 dMod_pump_73 ?_
          refine g_iload 74 dMod_pump_74 rfl ?_
          refine g_iaddN 76 dMod_pump_76 ?_
          refine g_callV 77 [_, _] dMod_pump_77 cs_Mod_322 rfl (ci := 10) rfl (by decide) hS.mod rfl ⟨(Nat.le_of_ble_eq_true rfl), (Nat.le_of_ble_eq_true rfl)⟩ (Nat.le_of_ble_eq_true rfl) (cm_can hS he (by omega) (hb _ (by omega))) (Nat.le_of_ble_eq_true rfl) (Nat.le_of_ble_eq_true rfl) ?_
          rintro _ M2 ⟨rfl, hM2⟩
          rw [hM2, hc]
          clear hM2 M2
          refine g_if_eq 80 88 dMod_pump_80 rfl (fun h80 => ?_) (fun h80 => ?_)
          · refine g_iload 88 dMod_pump_88 rfl ?_
            refine g_istore 90 dMod_pump_90 (by decide) rfl ?_
            refine g_iincN 92 dMod_pump_92 rfl (by decide) rfl ?_
            refine g_goto 95 34 dMod_pump_95 rfl ?_
            exact ih _ (by omega) (by omega) hx2 (Or.inr ⟨_, rfl⟩)
          · exact absurd rfl h80
set_option maxRecDepth 100000 in
set_option maxHeartbeats 4000000 in
theorem cm_pump_0 {X : mX} {l : Launch} {M : mM} {e q : Nat} {n : Int32} (hS : Shp M) (he : e < 2) (hu : Rdowns M e = 0) (hb : ∀ i, i < 24 → RlastSaid M i = 0 ∨ RlastSaid M i = 1) (hl : RlastData M e = nI q - 1) (hq12 : q ≤ 12) (hn : ¬ n ≤ 0) (hx : nxF (fun k => caA M e (12 * e + k)) q 12 1 = none) (hw : ¬ wi n 1 8 = 0) : Ct X l uMod_pump (rk 2 53) [.ref 169, .int (nI e), .int n] M (fun r M' => r = some (.int 0) ∧ M' = M) := by
  refine Ct.of (by decide) (Nat.le_of_ble_eq_true rfl) ?_
  show G X l uMod_pump (rk 2 53) 0 0 M 0 [some (.ref 169), some (.int (nI e)), some (.int n), none, none, none, none] [] _
  refine g_aload_n 0 dMod_pump_0 rfl ?_
  refine g_iload_n 1 dMod_pump_1 rfl ?_
  refine g_callV 2 [_] dMod_pump_2 cs_Mod_309 rfl (ci := 10) rfl (by decide) hS.mod rfl ⟨(Nat.le_of_ble_eq_true rfl), (Nat.le_of_ble_eq_true rfl)⟩ (Nat.le_of_ble_eq_true rfl) (ct_up_y hS he hu) (Nat.le_of_ble_eq_true rfl) (Nat.le_of_ble_eq_true rfl) ?_
  rintro _ M2 ⟨rfl, hM2⟩
  rw [hM2]
  clear hM2 M2
  refine g_if_eq 5 19 dMod_pump_5 rfl (fun h5 => ?_) (fun h5 => ?_)
  · exact absurd h5 (by decide)
  · refine g_iload_n 8 dMod_pump_8 rfl ?_
    refine g_iconst 9 1 dMod_pump_9 rfl ?_
    refine g_icmp_lt 10 19 dMod_pump_10 rfl (fun h10 => ?_) (fun h10 => ?_)
    · exact absurd (by simp [wi, h10]) hw
    · refine g_iload_n 13 dMod_pump_13 rfl ?_
      refine g_bipush 14 8 dMod_pump_14 rfl ?_
      refine g_icmp_le 16 21 dMod_pump_16 rfl (fun h16 => ?_) (fun h16 => ?_)
      · refine g_iconst 21 0 dMod_pump_21 rfl ?_
        refine g_istore_n 22 dMod_pump_22 (by decide) rfl ?_
        refine g_iload_n 23 dMod_pump_23 rfl ?_
        refine g_iload_n 24 dMod_pump_24 rfl ?_
        refine g_icmp_ge 25 118 dMod_pump_25 rfl (fun h25 => ?_) (fun h25 => ?_)
        · exact absurd h25 hn
        · refine g_iconst 28 (-1) dMod_pump_28 rfl ?_
          refine g_istore 29 dMod_pump_29 (by decide) rfl ?_
          refine g_iconst 31 1 dMod_pump_31 rfl ?_
          refine g_istore 32 dMod_pump_32 (by decide) rfl ?_
          exact g_pump_in hS he hb hl hq12 ⟨rfl, rfl⟩ 12 1 none rfl (Nat.le_refl _) hx (Or.inl rfl)
      · exact absurd (by simp [wi, Int32.not_le.mp h16]) hw

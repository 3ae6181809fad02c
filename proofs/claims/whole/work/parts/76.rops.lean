theorem dMod_drop_0 : decode uMod_drop.2.1 0 = .ok (.iconst 0, 1) := by decide +kernel
theorem dMod_drop_1 : decode uMod_drop.2.1 1 = .ok (.istore 4, 2) := by decide +kernel
theorem dMod_drop_3 : decode uMod_drop.2.1 3 = .ok (.iconst 0, 1) := by decide +kernel
theorem dMod_drop_4 : decode uMod_drop.2.1 4 = .ok (.istore 5, 2) := by decide +kernel
theorem dMod_drop_6 : decode uMod_drop.2.1 6 = .ok (.aload_n 0, 1) := by decide +kernel
theorem dMod_drop_7 : decode uMod_drop.2.1 7 = .ok (.lconst 0, 1) := by decide +kernel
theorem dMod_drop_8 : decode uMod_drop.2.1 8 = .ok (.putfield 186, 3) := by decide +kernel
theorem dMod_drop_11 : decode uMod_drop.2.1 11 = .ok (.iconst 0, 1) := by decide +kernel
theorem dMod_drop_12 : decode uMod_drop.2.1 12 = .ok (.istore 6, 2) := by decide +kernel
theorem dMod_drop_14 : decode uMod_drop.2.1 14 = .ok (.iload 6, 2) := by decide +kernel
theorem dMod_drop_16 : decode uMod_drop.2.1 16 = .ok (.aload_n 0, 1) := by decide +kernel
theorem dMod_drop_17 : decode uMod_drop.2.1 17 = .ok (.getfield 99, 3) := by decide +kernel
theorem dMod_drop_20 : decode uMod_drop.2.1 20 = .ok (.iload_n 1, 1) := by decide +kernel
theorem dMod_drop_21 : decode uMod_drop.2.1 21 = .ok (.iaload, 1) := by decide +kernel
theorem dMod_drop_22 : decode uMod_drop.2.1 22 = .ok (.if_icmp .ge 125, 3) := by decide +kernel
theorem dMod_drop_25 : decode uMod_drop.2.1 25 = .ok (.bipush 40, 2) := by decide +kernel
theorem dMod_drop_27 : decode uMod_drop.2.1 27 = .ok (.iload_n 1, 1) := by decide +kernel
theorem dMod_drop_28 : decode uMod_drop.2.1 28 = .ok (.imul, 1) := by decide +kernel
theorem dMod_drop_29 : decode uMod_drop.2.1 29 = .ok (.iload 6, 2) := by decide +kernel
theorem dMod_drop_31 : decode uMod_drop.2.1 31 = .ok (.iadd, 1) := by decide +kernel
theorem dMod_drop_32 : decode uMod_drop.2.1 32 = .ok (.istore 7, 2) := by decide +kernel
theorem dMod_drop_34 : decode uMod_drop.2.1 34 = .ok (.aload_n 0, 1) := by decide +kernel
theorem dMod_drop_35 : decode uMod_drop.2.1 35 = .ok (.getfield 102, 3) := by decide +kernel
theorem dMod_drop_38 : decode uMod_drop.2.1 38 = .ok (.iload 7, 2) := by decide +kernel
theorem dMod_drop_40 : decode uMod_drop.2.1 40 = .ok (.iaload, 1) := by decide +kernel
theorem dMod_drop_41 : decode uMod_drop.2.1 41 = .ok (.iload_n 2, 1) := by decide +kernel
theorem dMod_drop_42 : decode uMod_drop.2.1 42 = .ok (.if_icmp .ne 55, 3) := by decide +kernel
theorem dMod_drop_45 : decode uMod_drop.2.1 45 = .ok (.iload 5, 2) := by decide +kernel
theorem dMod_drop_47 : decode uMod_drop.2.1 47 = .ok (.iload_n 3, 1) := by decide +kernel
theorem dMod_drop_48 : decode uMod_drop.2.1 48 = .ok (.if_icmp .ge 49, 3) := by decide +kernel
theorem dMod_drop_51 : decode uMod_drop.2.1 51 = .ok (.aload_n 0, 1) := by decide +kernel
theorem dMod_drop_52 : decode uMod_drop.2.1 52 = .ok (.iload 5, 2) := by decide +kernel
theorem dMod_drop_54 : decode uMod_drop.2.1 54 = .ok (.bipush 8, 2) := by decide +kernel
theorem dMod_drop_56 : decode uMod_drop.2.1 56 = .ok (.if_icmp .ge 25, 3) := by decide +kernel
theorem dMod_drop_59 : decode uMod_drop.2.1 59 = .ok (.aload_n 0, 1) := by decide +kernel
theorem dMod_drop_60 : decode uMod_drop.2.1 60 = .ok (.getfield 186, 3) := by decide +kernel
theorem dMod_drop_63 : decode uMod_drop.2.1 63 = .ok (.aload_n 0, 1) := by decide +kernel
theorem dMod_drop_64 : decode uMod_drop.2.1 64 = .ok (.getfield 105, 3) := by decide +kernel
theorem dMod_drop_67 : decode uMod_drop.2.1 67 = .ok (.iload 7, 2) := by decide +kernel
theorem dMod_drop_69 : decode uMod_drop.2.1 69 = .ok (.iaload, 1) := by decide +kernel
theorem dMod_drop_70 : decode uMod_drop.2.1 70 = .ok (.i2l, 1) := by decide +kernel
theorem dMod_drop_71 : decode uMod_drop.2.1 71 = .ok (.bipush 8, 2) := by decide +kernel
theorem dMod_drop_73 : decode uMod_drop.2.1 73 = .ok (.iload 5, 2) := by decide +kernel
theorem dMod_drop_75 : decode uMod_drop.2.1 75 = .ok (.imul, 1) := by decide +kernel
theorem dMod_drop_76 : decode uMod_drop.2.1 76 = .ok (.lshl, 1) := by decide +kernel
theorem dMod_drop_77 : decode uMod_drop.2.1 77 = .ok (.lor, 1) := by decide +kernel
theorem dMod_drop_78 : decode uMod_drop.2.1 78 = .ok (.goto 7, 3) := by decide +kernel
theorem dMod_drop_81 : decode uMod_drop.2.1 81 = .ok (.aload_n 0, 1) := by decide +kernel
theorem dMod_drop_82 : decode uMod_drop.2.1 82 = .ok (.getfield 186, 3) := by decide +kernel
theorem dMod_drop_85 : decode uMod_drop.2.1 85 = .ok (.putfield 186, 3) := by decide +kernel
theorem dMod_drop_88 : decode uMod_drop.2.1 88 = .ok (.iload 5, 2) := by decide +kernel
theorem dMod_drop_90 : decode uMod_drop.2.1 90 = .ok (.iconst 1, 1) := by decide +kernel
theorem dMod_drop_91 : decode uMod_drop.2.1 91 = .ok (.iadd, 1) := by decide +kernel
theorem dMod_drop_92 : decode uMod_drop.2.1 92 = .ok (.istore 5, 2) := by decide +kernel
theorem dMod_drop_94 : decode uMod_drop.2.1 94 = .ok (.goto 47, 3) := by decide +kernel
theorem dMod_drop_97 : decode uMod_drop.2.1 97 = .ok (.aload_n 0, 1) := by decide +kernel
theorem dMod_drop_98 : decode uMod_drop.2.1 98 = .ok (.getfield 102, 3) := by decide +kernel
theorem dMod_drop_101 : decode uMod_drop.2.1 101 = .ok (.bipush 40, 2) := by decide +kernel
theorem dMod_drop_103 : decode uMod_drop.2.1 103 = .ok (.iload_n 1, 1) := by decide +kernel
theorem dMod_drop_104 : decode uMod_drop.2.1 104 = .ok (.imul, 1) := by decide +kernel
theorem dMod_drop_105 : decode uMod_drop.2.1 105 = .ok (.iload 4, 2) := by decide +kernel
theorem dMod_drop_107 : decode uMod_drop.2.1 107 = .ok (.iadd, 1) := by decide +kernel
theorem dMod_drop_108 : decode uMod_drop.2.1 108 = .ok (.aload_n 0, 1) := by decide +kernel
theorem dMod_drop_109 : decode uMod_drop.2.1 109 = .ok (.getfield 102, 3) := by decide +kernel
theorem dMod_drop_112 : decode uMod_drop.2.1 112 = .ok (.iload 7, 2) := by decide +kernel
theorem dMod_drop_114 : decode uMod_drop.2.1 114 = .ok (.iaload, 1) := by decide +kernel
theorem dMod_drop_115 : decode uMod_drop.2.1 115 = .ok (.iastore, 1) := by decide +kernel
theorem dMod_drop_116 : decode uMod_drop.2.1 116 = .ok (.aload_n 0, 1) := by decide +kernel
theorem dMod_drop_117 : decode uMod_drop.2.1 117 = .ok (.getfield 105, 3) := by decide +kernel
theorem dMod_drop_120 : decode uMod_drop.2.1 120 = .ok (.bipush 40, 2) := by decide +kernel
theorem dMod_drop_122 : decode uMod_drop.2.1 122 = .ok (.iload_n 1, 1) := by decide +kernel
theorem dMod_drop_123 : decode uMod_drop.2.1 123 = .ok (.imul, 1) := by decide +kernel
theorem dMod_drop_124 : decode uMod_drop.2.1 124 = .ok (.iload 4, 2) := by decide +kernel
theorem dMod_drop_126 : decode uMod_drop.2.1 126 = .ok (.iadd, 1) := by decide +kernel
theorem dMod_drop_127 : decode uMod_drop.2.1 127 = .ok (.aload_n 0, 1) := by decide +kernel
theorem dMod_drop_128 : decode uMod_drop.2.1 128 = .ok (.getfield 105, 3) := by decide +kernel
theorem dMod_drop_131 : decode uMod_drop.2.1 131 = .ok (.iload 7, 2) := by decide +kernel
theorem dMod_drop_133 : decode uMod_drop.2.1 133 = .ok (.iaload, 1) := by decide +kernel
theorem dMod_drop_134 : decode uMod_drop.2.1 134 = .ok (.iastore, 1) := by decide +kernel
theorem dMod_drop_135 : decode uMod_drop.2.1 135 = .ok (.iload 4, 2) := by decide +kernel
theorem dMod_drop_137 : decode uMod_drop.2.1 137 = .ok (.iconst 1, 1) := by decide +kernel
theorem dMod_drop_138 : decode uMod_drop.2.1 138 = .ok (.iadd, 1) := by decide +kernel
theorem dMod_drop_139 : decode uMod_drop.2.1 139 = .ok (.istore 4, 2) := by decide +kernel
theorem dMod_drop_141 : decode uMod_drop.2.1 141 = .ok (.iinc 6 1, 3) := by decide +kernel
theorem dMod_drop_144 : decode uMod_drop.2.1 144 = .ok (.goto (-130), 3) := by decide +kernel
theorem dMod_drop_147 : decode uMod_drop.2.1 147 = .ok (.aload_n 0, 1) := by decide +kernel
theorem dMod_drop_148 : decode uMod_drop.2.1 148 = .ok (.getfield 99, 3) := by decide +kernel
theorem dMod_drop_151 : decode uMod_drop.2.1 151 = .ok (.iload_n 1, 1) := by decide +kernel
theorem dMod_drop_152 : decode uMod_drop.2.1 152 = .ok (.iload 4, 2) := by decide +kernel
theorem dMod_drop_154 : decode uMod_drop.2.1 154 = .ok (.iastore, 1) := by decide +kernel
theorem dMod_drop_155 : decode uMod_drop.2.1 155 = .ok (.iload 5, 2) := by decide +kernel
theorem dMod_drop_157 : decode uMod_drop.2.1 157 = .ok (.ireturn, 1) := by decide +kernel
theorem dMod_sever_0 : decode uMod_sever.2.1 0 = .ok (.aload_n 0, 1) := by decide +kernel
theorem dMod_sever_1 : decode uMod_sever.2.1 1 = .ok (.getfield 54, 3) := by decide +kernel
theorem dMod_sever_4 : decode uMod_sever.2.1 4 = .ok (.iload_n 1, 1) := by decide +kernel
theorem dMod_sever_5 : decode uMod_sever.2.1 5 = .ok (.iload_n 2, 1) := by decide +kernel
theorem dMod_sever_6 : decode uMod_sever.2.1 6 = .ok (.invokestatic 190, 3) := by decide +kernel
theorem dMod_sever_9 : decode uMod_sever.2.1 9 = .ok (.iconst 1, 1) := by decide +kernel
theorem dMod_sever_10 : decode uMod_sever.2.1 10 = .ok (.bastore, 1) := by decide +kernel
theorem dMod_sever_11 : decode uMod_sever.2.1 11 = .ok (.aload_n 0, 1) := by decide +kernel
theorem dMod_sever_12 : decode uMod_sever.2.1 12 = .ok (.getfield 93, 3) := by decide +kernel
theorem dMod_sever_15 : decode uMod_sever.2.1 15 = .ok (.iload_n 1, 1) := by decide +kernel
theorem dMod_sever_16 : decode uMod_sever.2.1 16 = .ok (.iload_n 2, 1) := by decide +kernel
theorem dMod_sever_17 : decode uMod_sever.2.1 17 = .ok (.invokestatic 190, 3) := by decide +kernel
theorem dMod_sever_20 : decode uMod_sever.2.1 20 = .ok (.iconst 0, 1) := by decide +kernel
theorem dMod_sever_21 : decode uMod_sever.2.1 21 = .ok (.iastore, 1) := by decide +kernel
theorem dMod_sever_22 : decode uMod_sever.2.1 22 = .ok (.aload_n 0, 1) := by decide +kernel
theorem dMod_sever_23 : decode uMod_sever.2.1 23 = .ok (.iload_n 1, 1) := by decide +kernel
theorem dMod_sever_24 : decode uMod_sever.2.1 24 = .ok (.iload_n 2, 1) := by decide +kernel
theorem dMod_sever_25 : decode uMod_sever.2.1 25 = .ok (.bipush 40, 2) := by decide +kernel
theorem dMod_sever_27 : decode uMod_sever.2.1 27 = .ok (.invokevirtual 194, 3) := by decide +kernel
theorem dMod_sever_30 : decode uMod_sever.2.1 30 = .ok (.ireturn, 1) := by decide +kernel
theorem dMod_streamError_0 : decode uMod_streamError.2.1 0 = .ok (.aload_n 0, 1) := by decide +kernel
theorem dMod_streamError_1 : decode uMod_streamError.2.1 1 = .ok (.iconst 1, 1) := by decide +kernel
theorem dMod_streamError_2 : decode uMod_streamError.2.1 2 = .ok (.iload_n 1, 1) := by decide +kernel
theorem dMod_streamError_3 : decode uMod_streamError.2.1 3 = .ok (.isub, 1) := by decide +kernel
theorem dMod_streamError_4 : decode uMod_streamError.2.1 4 = .ok (.iconst 3, 1) := by decide +kernel
theorem dMod_streamError_5 : decode uMod_streamError.2.1 5 = .ok (.iload_n 2, 1) := by decide +kernel
theorem dMod_streamError_6 : decode uMod_streamError.2.1 6 = .ok (.iload_n 3, 1) := by decide +kernel
theorem dMod_streamError_7 : decode uMod_streamError.2.1 7 = .ok (.iconst 0, 1) := by decide +kernel
theorem dMod_streamError_8 : decode uMod_streamError.2.1 8 = .ok (.invokevirtual 182, 3) := by decide +kernel
theorem dMod_streamError_11 : decode uMod_streamError.2.1 11 = .ok (.pop, 1) := by decide +kernel
theorem dMod_streamError_12 : decode uMod_streamError.2.1 12 = .ok (.aload_n 0, 1) := by decide +kernel
theorem dMod_streamError_13 : decode uMod_streamError.2.1 13 = .ok (.iload_n 1, 1) := by decide +kernel
theorem dMod_streamError_14 : decode uMod_streamError.2.1 14 = .ok (.iload_n 2, 1) := by decide +kernel
theorem dMod_streamError_15 : decode uMod_streamError.2.1 15 = .ok (.invokevirtual 198, 3) := by decide +kernel
theorem dMod_streamError_18 : decode uMod_streamError.2.1 18 = .ok (.istore 5, 2) := by decide +kernel
theorem dMod_streamError_20 : decode uMod_streamError.2.1 20 = .ok (.aload_n 0, 1) := by decide +kernel
theorem dMod_streamError_21 : decode uMod_streamError.2.1 21 = .ok (.iload_n 1, 1) := by decide +kernel
theorem dMod_streamError_22 : decode uMod_streamError.2.1 22 = .ok (.iload 5, 2) := by decide +kernel
theorem dMod_streamError_24 : decode uMod_streamError.2.1 24 = .ok (.iload 4, 2) := by decide +kernel
theorem dMod_streamError_26 : decode uMod_streamError.2.1 26 = .ok (.iadd, 1) := by decide +kernel
theorem dMod_streamError_27 : decode uMod_streamError.2.1 27 = .ok (.invokevirtual 201, 3) := by decide +kernel
theorem dMod_streamError_30 : decode uMod_streamError.2.1 30 = .ok (.iload_n 3, 1) := by decide +kernel
theorem dMod_streamError_31 : decode uMod_streamError.2.1 31 = .ok (.ireturn, 1) := by decide +kernel
theorem fs_Mod_105 : fS "InterleavedLinkModel" 105 10 31 := ⟨"InterleavedLinkModel", T_Mod, 56, cf_Mod, by decide, Or.inl (gW_in 892 (by decide +kernel) rfl)⟩
theorem fs_Mod_186 : fS "InterleavedLinkModel" 186 10 55 := ⟨"InterleavedLinkModel", T_Mod, 56, cf_Mod, by decide, Or.inl (gW_in 916 (by decide +kernel) rfl)⟩
theorem ps_Mod_186 {nm : String} : pS "InterleavedLinkModel" nm 186 10 55 .long := ⟨"InterleavedLinkModel", T_Mod, 56, cf_Mod, by decide, by decide +kernel, Or.inl ⟨rfl, Or.inl (gW_in 916 (by decide +kernel) rfl)⟩⟩
theorem cs_Mod_194 : cV "InterleavedLinkModel" 194 uMod_drop 3 := ⟨⟨Or.inl (gW_in 1072 (by decide +kernel) rfl), (gW_in 74 (by decide +kernel) rfl), (gW_in 1075 (by decide +kernel) rfl), ⟨by decide, by decide⟩, by decide +kernel⟩, (gW_in 1074 (by decide +kernel) rfl), (gW_in 33 (by decide +kernel) rfl)⟩
theorem cs_Mod_198 : cV "InterleavedLinkModel" 198 uMod_sever 2 := ⟨⟨Or.inl (gW_in 1068 (by decide +kernel) rfl), (gW_in 74 (by decide +kernel) rfl), (gW_in 1071 (by decide +kernel) rfl), ⟨by decide, by decide⟩, by decide +kernel⟩, (gW_in 1070 (by decide +kernel) rfl), (gW_in 32 (by decide +kernel) rfl)⟩
theorem cs_Mod_201 : cV "InterleavedLinkModel" 201 uMod_giveBack 2 := ⟨⟨Or.inl (gW_in 1060 (by decide +kernel) rfl), (gW_in 74 (by decide +kernel) rfl), (gW_in 1063 (by decide +kernel) rfl), ⟨by decide, by decide⟩, by decide +kernel⟩, (gW_in 1062 (by decide +kernel) rfl), (gW_in 30 (by decide +kernel) rfl)⟩
/-! ===== the reference over the state: windows given back, errors, bytes dropped ===== -/
set_option maxRecDepth 100000 in
set_option maxHeartbeats 4000000 in
theorem ct_giveM {X : mX} {l : Launch} {M : mM} {A : zA} {e : Nat} (hR : RR M A) (he : e < 2) {n : Int32} (hp : (zP A (1 - e)).length < 47) : Ct X l uMod_giveBack (rk 1 26) [.ref 169, .int (nI e), .int n] M (fun r M' => r = none ∧ RR M' (give A e n) ∧ Chg M M' mP no2) := by
  refine Ct.of (by decide) (Nat.le_of_ble_eq_true rfl) ?_
  show G X l uMod_giveBack (rk 1 26) 0 0 M 0 [some (.ref 169), some (.int (nI e)), some (.int n)] [] _
  have hC : Chg M M mP no2 := Chg.rf
  refine g_iload_n 0 dMod_giveBack_0 rfl ?_
  refine g_if_le 1 17 dMod_giveBack_1 rfl (fun h1 => ?_) (fun h1 => ?_)
  · exact g_vret 17 dMod_giveBack_17 rfl ⟨rfl, by first | (rw [give_0 h1]; exact hR) | (rw [give_1 h1]; exact hR.i5), hC⟩
  · refine g_aload_n 4 dMod_giveBack_4 rfl ?_
    refine g_iconst 5 (nI 1) dMod_giveBack_5 rfl ?_
    refine g_iload_n 6 dMod_giveBack_6 rfl ?_
    refine g_isubN 7 dMod_giveBack_7 (by omega) ?_
    refine g_bipush 8 8 dMod_giveBack_8 rfl ?_
    refine g_iconst 10 0 dMod_giveBack_10 rfl ?_
    refine g_iload_n 11 dMod_giveBack_11 rfl ?_
    refine g_iconst 12 0 dMod_giveBack_12 rfl ?_
    refine g_callV 13 [_, _, _, _, _] dMod_giveBack_13 cs_Mod_182 rfl (ci := 10) rfl (by decide) hR.1.mod rfl ⟨(Nat.le_of_ble_eq_true rfl), (Nat.le_of_ble_eq_true rfl)⟩ (Nat.le_of_ble_eq_true rfl) (ct_pushR hR (by omega) hp (Or.inl rfl) [] (fun q => absurd q (by decide)) (fun q => absurd q (by decide))) (Nat.le_of_ble_eq_true rfl) (Nat.le_of_ble_eq_true rfl) ?_
    rintro _ M1 ⟨sl, hsl, rfl, hla, hR1, hc⟩
    have hC1 := hC.tr hc
    refine g_pop 16 dMod_giveBack_16 rfl ?_
    exact g_vret 17 dMod_giveBack_17 rfl ⟨rfl, by first | (rw [give_0 h1]; exact hR1) | (rw [give_1 h1]; exact hR1.i5), hC1⟩

set_option maxRecDepth 100000 in
set_option maxHeartbeats 4000000 in
theorem ct_lerrM {X : mX} {l : Launch} {M : mM} {A : zA} {e : Nat} (hR : RR M A) (he : e < 2) {c : Int32} (hp : (zP A (1 - e)).length < 47) : Ct X l uMod_linkError (rk 1 26) [.ref 169, .int (nI e), .int c] M (fun r M' => r = some (.int (100 + c)) ∧ RR M' (lerr A e c) ∧ Chg M M' mP no2) := by
  refine Ct.of (by decide) (Nat.le_of_ble_eq_true rfl) ?_
  show G X l uMod_linkError (rk 1 26) 0 0 M 0 [some (.ref 169), some (.int (nI e)), some (.int c)] [] _
  have hC : Chg M M mP no2 := Chg.rf
  refine g_aload_n 0 dMod_linkError_0 rfl ?_
  refine g_iconst 1 (nI 1) dMod_linkError_1 rfl ?_
  refine g_iload_n 2 dMod_linkError_2 rfl ?_
  refine g_isubN 3 dMod_linkError_3 (by omega) ?_
  refine g_bipush 4 7 dMod_linkError_4 rfl ?_
  refine g_iconst 6 0 dMod_linkError_6 rfl ?_
  refine g_iload_n 7 dMod_linkError_7 rfl ?_
  refine g_iconst 8 0 dMod_linkError_8 rfl ?_
  refine g_callV 9 [_, _, _, _, _] dMod_linkError_9 cs_Mod_182 rfl (ci := 10) rfl (by decide) hR.1.mod rfl ⟨(Nat.le_of_ble_eq_true rfl), (Nat.le_of_ble_eq_true rfl)⟩ (Nat.le_of_ble_eq_true rfl) (ct_pushR hR (by omega) hp (Or.inl rfl) [] (fun q => absurd q (by decide)) (fun q => absurd q (by decide))) (Nat.le_of_ble_eq_true rfl) (Nat.le_of_ble_eq_true rfl) ?_
  rintro _ M1 ⟨sl, hsl, rfl, hla, hR1, hc⟩
  have hC1 := hC.tr hc
  refine g_pop 12 dMod_linkError_12 rfl ?_
  refine g_aload_n 13 dMod_linkError_13 rfl ?_
  refine g_getr 14 10 0 dMod_linkError_14 fs_Mod_7 rfl hR1.1.mod hR1.1.R_downs ?_
  refine g_iload_n 17 dMod_linkError_17 rfl ?_
  refine g_bipush 18 100 dMod_linkError_18 rfl ?_
  refine g_iload_n 20 dMod_linkError_20 rfl ?_
  refine g_iadd 21 dMod_linkError_21 ?_
  refine g_iastN 22 dMod_linkError_22 hR1.1.T_downs (by omega) (by decide) ?_
  refine g_memM (hR1.down he) (kM hC1 (by decide)) (fun M2 hR2 hC2 => ?_)
  refine g_bipush 23 100 dMod_linkError_23 rfl ?_
  refine g_iload_n 25 dMod_linkError_25 rfl ?_
  refine g_iadd 26 dMod_linkError_26 ?_
  exact g_iret 27 dMod_linkError_27 rfl ⟨rfl, hR2, hC2⟩

/-- entries kept: of the stream s the first N - g are gone -/
def kpF (s : Int32) (N : Nat) : List (Int32 × Int32) → Nat → List (Int32 × Int32)
  | [], _ => []
  | x :: U, g => if x.1 = s then (if N ≤ g then x :: kpF s N U g else kpF s N U (g + 1)) else x :: kpF s N U g
def gnF (s : Int32) (N : Nat) : List (Int32 × Int32) → Nat → Nat
  | [], g => g
  | x :: U, g => if x.1 = s then (if N ≤ g then gnF s N U g else gnF s N U (g + 1)) else gnF s N U g
def tk1 (w : Int64) (y : Int32) (g : Nat) : Int64 := if 8 ≤ g then w else w ||| (y.toInt64 <<< ((nI (8 * g)).toInt64 &&& 63))
def tkF (s : Int32) (N : Nat) : List (Int32 × Int32) → Nat → Int64 → Int64
  | [], _, w => w
  | x :: U, g, w => if x.1 = s then (if N ≤ g then tkF s N U g w else tkF s N U (g + 1) (tk1 w x.2 g)) else tkF s N U g w
def unP (e : Nat) (a j : Nat) : Prop := (a = 199 ∧ j = e) ∨ ((a = 200 ∨ a = 201) ∧ 40 * e ≤ j ∧ j < 40 * e + 40) ∨ (a = 169 ∧ j = 55)
def drI (M M1 : mM) (e : Nat) (U K : List (Int32 × Int32)) (i : Nat) (w : Int64) : Prop := Chg M M1 (unP e) no2 ∧ Runread M1 e = nI U.length ∧ Rtaken M1 = w ∧ (∀ j x, K[j]? = some x → RunreadStream M1 (40 * e + j) = x.1 ∧ RunreadByte M1 (40 * e + j) = x.2) ∧ ∀ j x, i ≤ j → U[j]? = some x → RunreadStream M1 (40 * e + j) = x.1 ∧ RunreadByte M1 (40 * e + j) = x.2
theorem drI_keep {M M1 : mM} {e i : Nat} {U K : List (Int32 × Int32)} {w : Int64} {x : Int32 × Int32} (h : drI M M1 e U K i w) (hK : K.length ≤ i) (hi : i < U.length) (hU : U.length ≤ 40) : drI M (setI (setI M1 200 (40 * e + K.length) x.1) 201 (40 * e + K.length) x.2) e U (K ++ [x]) (i + 1) w := by
  obtain ⟨h1, h2, h3, h4, h5⟩ := h
  refine ⟨(h1.setI (Or.inl (Or.inr (Or.inl ⟨Or.inl rfl, by omega, by omega⟩)))).setI (Or.inl (Or.inr (Or.inl ⟨Or.inr rfl, by omega, by omega⟩))), ?_, h3, fun j y hy => ?_, fun j y hj hy => ?_⟩
  · show mI _ 199 e = _
    simp only [mI_setI]
    rw [up2_a (by decide), up2_a (by decide)]
    exact h2
  · show mI _ 200 _ = _ ∧ mI _ 201 _ = _
    simp only [mI_setI]
    rw [up2_a (by decide)]
    by_cases hj : j < K.length
    · rw [List.getElem?_append_left hj] at hy
      rw [up2_k (by omega), up2_k (by omega), up2_a (by decide)]
      exact h4 j y hy
    · rw [List.getElem?_append_right (by omega)] at hy
      have h6 := (List.getElem?_eq_some_iff.mp hy).1
      have hj2 : j = K.length := by simp at h6; omega
      subst hj2
      simp at hy
      subst hy
      rw [up2_same, up2_same]
      exact ⟨rfl, rfl⟩
  · show mI _ 200 _ = _ ∧ mI _ 201 _ = _
    simp only [mI_setI]
    rw [up2_a (by decide), up2_k (by omega), up2_k (by omega), up2_a (by decide)]
    exact h5 j y (by omega) hy
theorem drI_take {M M1 : mM} {e i : Nat} {U K : List (Int32 × Int32)} {w v : Int64} (h : drI M M1 e U K i w) : drI M (setL M1 169 55 v) e U K (i + 1) v := by
  obtain ⟨h1, h2, h3, h4, h5⟩ := h
  exact ⟨h1.setL (Or.inl (Or.inr (Or.inr ⟨rfl, rfl⟩))), h2, show up2 (mL M1) 169 55 v 169 55 = v from up2_same, h4, fun j y hj hy => h5 j y (by omega) hy⟩
set_option maxRecDepth 100000 in
set_option maxHeartbeats 4000000 in
theorem g_drp {X : mX} {l : Launch} {M : mM} {e N : Nat} {s : Int32} {U : List (Int32 × Int32)} {Q : Option Value → mM → Prop} (hSM : Shp M) (he : e < 2) (hN : N ≤ 40) (hU : U.length ≤ 40) (hq : ∀ M' i v, drI M M' e U (kpF s N U 0) i (tkF s N U 0 0) → (kpF s N U 0).length ≤ 40 → gnF s N U 0 ≤ 40 → G X l uMod_drop (rk 0 0) 0 0 M' 147 [some (.ref 169), some (.int (nI e)), some (.int s), some (.int (nI N)), some (.int (nI (kpF s N U 0).length)), some (.int (nI (gnF s N U 0))), some (.int (nI i)), v] [] Q) : ∀ (R : List (Int32 × Int32)) (i g : Nat) (K : List (Int32 × Int32)) (w : Int64) (M1 : mM) (v : Option Value), (v = none ∨ ∃ x : Int32, v = some (.int x)) → U.drop i = R → i ≤ U.length → K.length ≤ i → g ≤ i → drI M M1 e U K i w → kpF s N U 0 = K ++ kpF s N R g → gnF s N U 0 = gnF s N R g → tkF s N U 0 0 = tkF s N R g w → G X l uMod_drop (rk 0 0) 0 0 M1 14 [some (.ref 169), some (.int (nI e)), some (.int s), some (.int (nI N)), some (.int (nI K.length)), some (.int (nI g)), some (.int (nI i)), v] [] Q
  | [], i, g, K, w, M1, v, hv, hR, hi, hK, hg, hI, k1, k2, k3 => by
    have hS := hSM.mv hI.1 (fun _ _ q => q.elim)
    have hle : U.length ≤ i := List.drop_eq_nil_iff.mp hR
    have k1' : kpF s N U 0 = K := k1.trans (List.append_nil K)
    have k2' : gnF s N U 0 = g := k2
    have k3' : tkF s N U 0 0 = w := k3
    subst k1' k2' k3'
    refine g_iload 14 dMod_drop_14 rfl ?_
    refine g_aload_n 16 dMod_drop_16 rfl ?_
    refine g_getr 17 10 29 dMod_drop_17 fs_Mod_99 rfl hS.mod hS.R_unread ?_
    refine g_iload_n 20 dMod_drop_20 rfl ?_
    refine g_ialdN 21 dMod_drop_21 hS.T_unread (by omega) (by decide) ?_
    refine g_top (nI (U.length)) (hI.2.1) ?_
    refine g_icmp_geN 22 147 dMod_drop_22 rfl (by omega) (by omega) (fun h22 => ?_) (fun h22 => ?_)
    · exact hq M1 i v hI (by omega) (by omega)
    · exact absurd hle h22
  | x :: R, i, g, K, w, M1, v, hv, hR, hi, hK, hg, hI, k1, k2, k3 => by
    have hS := hSM.mv hI.1 (fun _ _ q => q.elim)
    have hlt : i < U.length := by
      apply Nat.lt_of_not_le
      intro q
      rw [List.drop_eq_nil_iff.mpr q] at hR
      cases hR
    have hx : U[i]? = some x := by
      have := congrArg (fun z => z[0]?) hR
      simpa using this
    have hR2 : U.drop (i + 1) = R := by
      rw [← List.drop_drop, hR]
      rfl
    refine g_iload 14 dMod_drop_14 rfl ?_
    refine g_aload_n 16 dMod_drop_16 rfl ?_
    refine g_getr 17 10 29 dMod_drop_17 fs_Mod_99 rfl hS.mod hS.R_unread ?_
    refine g_iload_n 20 dMod_drop_20 rfl ?_
    refine g_ialdN 21 dMod_drop_21 hS.T_unread (by omega) (by decide) ?_
    refine g_top (nI (U.length)) (hI.2.1) ?_
    refine g_icmp_geN 22 147 dMod_drop_22 rfl (by omega) (by omega) (fun h22 => ?_) (fun h22 => ?_)
    · exact absurd h22 (by omega)
    · refine g_bipush 25 (nI 40) dMod_drop_25 rfl ?_
      refine g_iload_n 27 dMod_drop_27 rfl ?_
      refine g_imulN 28 dMod_drop_28 ?_
      refine g_iload 29 dMod_drop_29 rfl ?_
      refine g_iaddN 31 dMod_drop_31 ?_
      refine g_istore 32 dMod_drop_32 (by decide) rfl ?_
      refine g_aload_n 34 dMod_drop_34 rfl ?_
      refine g_getr 35 10 30 dMod_drop_35 fs_Mod_102 rfl hS.mod hS.R_unreadStream ?_
      refine g_iload 38 dMod_drop_38 rfl ?_
      refine g_ialdN 40 dMod_drop_40 hS.T_unreadStream (by omega) (by decide) ?_
      refine g_top (x.1) ((hI.2.2.2.2 i x (Nat.le_refl _) hx).1) ?_
      refine g_iload_n 41 dMod_drop_41 rfl ?_
      refine g_icmp_ne 42 97 dMod_drop_42 rfl (fun h42 => ?_) (fun h42 => ?_)
      · have q1 : kpF s N (x :: R) g = x :: kpF s N R g := by rw [kpF, if_neg h42]
        have q2 : gnF s N (x :: R) g = gnF s N R g := by rw [gnF, if_neg h42]
        have q3 : tkF s N (x :: R) g w = tkF s N R g w := by rw [tkF, if_neg h42]
        refine g_aload_n 97 dMod_drop_97 rfl ?_
        refine g_getr 98 10 30 dMod_drop_98 fs_Mod_102 rfl hS.mod hS.R_unreadStream ?_
        refine g_bipush 101 (nI 40) dMod_drop_101 rfl ?_
        refine g_iload_n 103 dMod_drop_103 rfl ?_
        refine g_imulN 104 dMod_drop_104 ?_
        refine g_iload 105 dMod_drop_105 rfl ?_
        refine g_iaddN 107 dMod_drop_107 ?_
        refine g_aload_n 108 dMod_drop_108 rfl ?_
        refine g_getr 109 10 30 dMod_drop_109 fs_Mod_102 rfl hS.mod hS.R_unreadStream ?_
        refine g_iload 112 dMod_drop_112 rfl ?_
        refine g_ialdN 114 dMod_drop_114 hS.T_unreadStream (by omega) (by decide) ?_
        refine g_top (x.1) ((hI.2.2.2.2 i x (Nat.le_refl _) hx).1) ?_
        refine g_iastN 115 dMod_drop_115 hS.T_unreadStream (by omega) (by decide) ?_
        refine g_aload_n 116 dMod_drop_116 rfl ?_
        refine g_getr 117 10 31 dMod_drop_117 fs_Mod_105 rfl hS.mod hS.R_unreadByte ?_
        refine g_bipush 120 (nI 40) dMod_drop_120 rfl ?_
        refine g_iload_n 122 dMod_drop_122 rfl ?_
        refine g_imulN 123 dMod_drop_123 ?_
        refine g_iload 124 dMod_drop_124 rfl ?_
        refine g_iaddN 126 dMod_drop_126 ?_
        refine g_aload_n 127 dMod_drop_127 rfl ?_
        refine g_getr 128 10 31 dMod_drop_128 fs_Mod_105 rfl hS.mod hS.R_unreadByte ?_
        refine g_iload 131 dMod_drop_131 rfl ?_
        refine g_ialdN 133 dMod_drop_133 hS.T_unreadByte (by omega) (by decide) ?_
        refine g_top (x.2) ((sI_a (by decide)).trans (hI.2.2.2.2 i x (Nat.le_refl _) hx).2) ?_
        refine g_iastN 134 dMod_drop_134 hS.T_unreadByte (by omega) (by decide) ?_
        refine g_iload 135 dMod_drop_135 rfl ?_
        refine g_iconst 137 (nI 1) dMod_drop_137 rfl ?_
        refine g_iaddN 138 dMod_drop_138 ?_
        refine g_istore 139 dMod_drop_139 (by decide) rfl ?_
        refine g_iincN 141 dMod_drop_141 rfl (by decide) rfl ?_
        refine g_goto 144 14 dMod_drop_144 rfl ?_
        have z := g_drp (X := X) (l := l) hSM he hN hU hq R (i + 1) g (K ++ [x]) w _ (some (.int (nI (40 * e + i)))) (Or.inr ⟨_, rfl⟩) hR2 hlt (by rw [List.length_append]; show K.length + 1 ≤ i + 1; omega) (by omega) (drI_keep (x := x) hI hK hlt hU) (by rw [k1, q1, List.append_assoc]; rfl) (k2.trans q2) (k3.trans q3)
        rw [List.length_append] at z
        exact z
      · refine g_iload 45 dMod_drop_45 rfl ?_
        refine g_iload_n 47 dMod_drop_47 rfl ?_
        refine g_icmp_geN 48 97 dMod_drop_48 rfl (by omega) (by omega) (fun h48 => ?_) (fun h48 => ?_)
        · have q1 : kpF s N (x :: R) g = x :: kpF s N R g := by rw [kpF, if_pos h42, if_pos h48]
          have q2 : gnF s N (x :: R) g = gnF s N R g := by rw [gnF, if_pos h42, if_pos h48]
          have q3 : tkF s N (x :: R) g w = tkF s N R g w := by rw [tkF, if_pos h42, if_pos h48]
          refine g_aload_n 97 dMod_drop_97 rfl ?_
          refine g_getr 98 10 30 dMod_drop_98 fs_Mod_102 rfl hS.mod hS.R_unreadStream ?_
          refine g_bipush 101 (nI 40) dMod_drop_101 rfl ?_
          refine g_iload_n 103 dMod_drop_103 rfl ?_
          refine g_imulN 104 dMod_drop_104 ?_
          refine g_iload 105 dMod_drop_105 rfl ?_
          refine g_iaddN 107 dMod_drop_107 ?_
          refine g_aload_n 108 dMod_drop_108 rfl ?_
          refine g_getr 109 10 30 dMod_drop_109 fs_Mod_102 rfl hS.mod hS.R_unreadStream ?_
          refine g_iload 112 dMod_drop_112 rfl ?_
          refine g_ialdN 114 dMod_drop_114 hS.T_unreadStream (by omega) (by decide) ?_
          refine g_top (x.1) ((hI.2.2.2.2 i x (Nat.le_refl _) hx).1) ?_
          refine g_iastN 115 dMod_drop_115 hS.T_unreadStream (by omega) (by decide) ?_
          refine g_aload_n 116 dMod_drop_116 rfl ?_
          refine g_getr 117 10 31 dMod_drop_117 fs_Mod_105 rfl hS.mod hS.R_unreadByte ?_
          refine g_bipush 120 (nI 40) dMod_drop_120 rfl ?_
          refine g_iload_n 122 dMod_drop_122 rfl ?_
          refine g_imulN 123 dMod_drop_123 ?_
          refine g_iload 124 dMod_drop_124 rfl ?_
          refine g_iaddN 126 dMod_drop_126 ?_
          refine g_aload_n 127 dMod_drop_127 rfl ?_
          refine g_getr 128 10 31 dMod_drop_128 fs_Mod_105 rfl hS.mod hS.R_unreadByte ?_
          refine g_iload 131 dMod_drop_131 rfl ?_
          refine g_ialdN 133 dMod_drop_133 hS.T_unreadByte (by omega) (by decide) ?_
          refine g_top (x.2) ((sI_a (by decide)).trans (hI.2.2.2.2 i x (Nat.le_refl _) hx).2) ?_
          refine g_iastN 134 dMod_drop_134 hS.T_unreadByte (by omega) (by decide) ?_
          refine g_iload 135 dMod_drop_135 rfl ?_
          refine g_iconst 137 (nI 1) dMod_drop_137 rfl ?_
          refine g_iaddN 138 dMod_drop_138 ?_
          refine g_istore 139 dMod_drop_139 (by decide) rfl ?_
          refine g_iincN 141 dMod_drop_141 rfl (by decide) rfl ?_
          refine g_goto 144 14 dMod_drop_144 rfl ?_
          have z := g_drp (X := X) (l := l) hSM he hN hU hq R (i + 1) g (K ++ [x]) w _ (some (.int (nI (40 * e + i)))) (Or.inr ⟨_, rfl⟩) hR2 hlt (by rw [List.length_append]; show K.length + 1 ≤ i + 1; omega) (by omega) (drI_keep (x := x) hI hK hlt hU) (by rw [k1, q1, List.append_assoc]; rfl) (k2.trans q2) (k3.trans q3)
          rw [List.length_append] at z
          exact z
        · have q1 : kpF s N (x :: R) g = kpF s N R (g + 1) := by rw [kpF, if_pos h42, if_neg h48]
          have q2 : gnF s N (x :: R) g = gnF s N R (g + 1) := by rw [gnF, if_pos h42, if_neg h48]
          have q3 : tkF s N (x :: R) g w = tkF s N R (g + 1) (tk1 w x.2 g) := by rw [tkF, if_pos h42, if_neg h48]
          refine g_aload_n 51 dMod_drop_51 rfl ?_
          refine g_iload 52 dMod_drop_52 rfl ?_
          refine g_bipush 54 (nI 8) dMod_drop_54 rfl ?_
          refine g_icmp_geN 56 81 dMod_drop_56 rfl (by omega) (by omega) (fun h56 => ?_) (fun h56 => ?_)
          · refine g_aload_n 81 dMod_drop_81 rfl ?_
            refine g_getl 82 10 55 dMod_drop_82 fs_Mod_186 rfl hS.mod ?_
            refine g_topl (tk1 w x.2 g) (by unfold tk1; first | (rw [if_pos h56]; exact hI.2.2.1) | (rw [if_neg h56, ← hI.2.2.1])) ?_
            refine g_putl 85 10 55 dMod_drop_85 ps_Mod_186 rfl hS.mod ?_
            refine g_iload 88 dMod_drop_88 rfl ?_
            refine g_iconst 90 (nI 1) dMod_drop_90 rfl ?_
            refine g_iaddN 91 dMod_drop_91 ?_
            refine g_istore 92 dMod_drop_92 (by decide) rfl ?_
            refine g_goto 94 141 dMod_drop_94 rfl ?_
            refine g_iincN 141 dMod_drop_141 rfl (by decide) rfl ?_
            refine g_goto 144 14 dMod_drop_144 rfl ?_
            exact g_drp hSM he hN hU hq R (i + 1) (g + 1) K _ _ _ (Or.inr ⟨_, rfl⟩) hR2 hlt (by omega) (by omega) (drI_take hI) (by rw [k1, q1]) (k2.trans q2) (k3.trans q3)
          · refine g_aload_n 59 dMod_drop_59 rfl ?_
            refine g_getl 60 10 55 dMod_drop_60 fs_Mod_186 rfl hS.mod ?_
            refine g_aload_n 63 dMod_drop_63 rfl ?_
            refine g_getr 64 10 31 dMod_drop_64 fs_Mod_105 rfl hS.mod hS.R_unreadByte ?_
            refine g_iload 67 dMod_drop_67 rfl ?_
            refine g_ialdN 69 dMod_drop_69 hS.T_unreadByte (by omega) (by decide) ?_
            refine g_top (x.2) ((hI.2.2.2.2 i x (Nat.le_refl _) hx).2) ?_
            refine g_i2l 70 dMod_drop_70 ?_
            refine g_bipush 71 (nI 8) dMod_drop_71 rfl ?_
            refine g_iload 73 dMod_drop_73 rfl ?_
            refine g_imulN 75 dMod_drop_75 ?_
            refine g_lshl 76 dMod_drop_76 ?_
            refine g_lor 77 dMod_drop_77 ?_
            refine g_goto 78 85 dMod_drop_78 rfl ?_
            refine g_topl (tk1 w x.2 g) (by unfold tk1; first | (rw [if_pos h56]; exact hI.2.2.1) | (rw [if_neg h56, ← hI.2.2.1])) ?_
            refine g_putl 85 10 55 dMod_drop_85 ps_Mod_186 rfl hS.mod ?_
            refine g_iload 88 dMod_drop_88 rfl ?_
            refine g_iconst 90 (nI 1) dMod_drop_90 rfl ?_
            refine g_iaddN 91 dMod_drop_91 ?_
            refine g_istore 92 dMod_drop_92 (by decide) rfl ?_
            refine g_goto 94 141 dMod_drop_94 rfl ?_
            refine g_iincN 141 dMod_drop_141 rfl (by decide) rfl ?_
            refine g_goto 144 14 dMod_drop_144 rfl ?_
            exact g_drp hSM he hN hU hq R (i + 1) (g + 1) K _ _ _ (Or.inr ⟨_, rfl⟩) hR2 hlt (by omega) (by omega) (drI_take hI) (by rw [k1, q1]) (k2.trans q2) (k3.trans q3)
theorem kp_tk : ∀ (U : List (Int32 × Int32)) (k N g : Nat), kpF (nI (2 * k + 1)) N U g = tkU U k (N - g)
  | [], _, _, _ => rfl
  | x :: U, k, N, g => by
    unfold kpF tkU
    by_cases q : x.1 = nI (2 * k + 1)
    · rw [if_pos q, if_pos q]
      by_cases q2 : N ≤ g
      · rw [if_pos q2, if_pos (by omega), kp_tk U k N g, show N - g = 0 by omega, tkU_0]
      · rw [if_neg q2, if_neg (by omega), kp_tk U k N (g + 1)]
        congr 1
    · rw [if_neg q, if_neg q, kp_tk U k N g]
theorem gn_eq : ∀ (U : List (Int32 × Int32)) (k N g : Nat), g ≤ N → gnF (nI (2 * k + 1)) N U g = min N (g + (unrd U k).length)
  | [], k, N, g, h => by
    show g = min N (g + 0)
    omega
  | x :: U, k, N, g, h => by
    unfold gnF
    by_cases q : x.1 = nI (2 * k + 1)
    · have hu : (unrd (x :: U) k).length = (unrd U k).length + 1 := by unfold unrd; simp [q]
      rw [if_pos q, hu]
      by_cases q2 : N ≤ g
      · rw [if_pos q2, gn_eq U k N g h]
        omega
      · rw [if_neg q2, gn_eq U k N (g + 1) (by omega)]
        omega
    · have hu : (unrd (x :: U) k).length = (unrd U k).length := by unfold unrd; simp [q]
      rw [if_neg q, hu]
      exact gn_eq U k N g h
/-- the first t bytes of a list as one number, from place g on -/
def tkP : List Int32 → Nat → Int64 → Int64
  | [], _, w => w
  | y :: L, g, w => tkP L (g + 1) (tk1 w y g)
theorem tk_eq : ∀ (U : List (Int32 × Int32)) (k N g : Nat) (w : Int64), g ≤ N → tkF (nI (2 * k + 1)) N U g w = tkP ((unrd U k).take (N - g)) g w
  | [], k, N, g, w, h => by simp [tkF, unrd, tkP]
  | x :: U, k, N, g, w, h => by
    unfold tkF
    by_cases q : x.1 = nI (2 * k + 1)
    · have hu : unrd (x :: U) k = x.2 :: unrd U k := by unfold unrd; simp [q]
      rw [if_pos q, hu]
      by_cases q2 : N ≤ g
      · rw [if_pos q2, tk_eq U k N g w h, show N - g = 0 by omega, List.take_zero, List.take_zero]
      · rw [if_neg q2, tk_eq U k N (g + 1) _ (by omega), show N - g = (N - (g + 1)) + 1 by omega, List.take_succ_cons]
        rfl
    · have hu : unrd (x :: U) k = unrd U k := by unfold unrd; simp [q]
      rw [if_neg q, hu]
      exact tk_eq U k N g w h
theorem tkU_len : ∀ (U : List (Int32 × Int32)) (k t : Nat), (tkU U k t).length ≤ U.length
  | [], _, _ => Nat.le_refl _
  | x :: U, k, t => by
    unfold tkU
    split
    · split
      · exact Nat.le_refl _
      · have := tkU_len U k (t - 1); rw [List.length_cons]; omega
    · have := tkU_len U k t; rw [List.length_cons, List.length_cons]; omega
theorem tkU_all : ∀ (U : List (Int32 × Int32)) (k t : Nat), (unrd U k).length ≤ t → tkU U k t = unU U k
  | [], _, _, _ => rfl
  | x :: U, k, t, h => by
    unfold tkU
    by_cases q : x.1 = nI (2 * k + 1)
    · have hu : (unrd (x :: U) k).length = (unrd U k).length + 1 := by unfold unrd; simp [q]
      have hv : unU (x :: U) k = unU U k := by unfold unU; simp [q]
      rw [if_pos q, if_neg (by omega), hv]
      exact tkU_all U k (t - 1) (by omega)
    · have hu : (unrd (x :: U) k).length = (unrd U k).length := by unfold unrd; simp [q]
      have hv : unU (x :: U) k = x :: unU U k := by unfold unU; simp [q]
      rw [if_neg q, hv, tkU_all U k t (by omega)]
theorem tkU_min : ∀ (U : List (Int32 × Int32)) (k t : Nat), tkU U k (min t (unrd U k).length) = tkU U k t := fun U k t => by
  by_cases q : t ≤ (unrd U k).length
  · rw [Nat.min_eq_left q]
  · rw [Nat.min_eq_right (by omega), tkU_all U k _ (Nat.le_refl _), tkU_all U k t (by omega)]
theorem rr_drp {M M' : mM} {A : zA} {e i : Nat} {K : List (Int32 × Int32)} {w : Int64} (h : RR M A) (he : e < 2) (hI : drI M M' e (zU A e) K i w) (hK : K.length ≤ 40) : RR (setI M' 199 e (nI K.length)) (yU A e K) := by
  refine h.yU he ⟨up2_same, hK, fun j x hx => ?_⟩ (hI.1.setI (Or.inl (Or.inl ⟨rfl, rfl⟩)))
  show mI _ 200 _ = _ ∧ mI _ 201 _ = _
  rw [mI_setI, up2_a (by decide), up2_a (by decide)]
  exact hI.2.2.2.1 j x hx
set_option maxRecDepth 100000 in
set_option maxHeartbeats 4000000 in
theorem dr_end {X : mX} {l : Launch} {M : mM} {e a g N i : Nat} {s : Int32} {v : Option Value} {Q : Option Value → mM → Prop} (hS : Shp M) (he : e < 2) (hq : Q (some (.int (nI g))) (setI M 199 e (nI a))) : G X l uMod_drop (rk 0 0) 0 0 M 147 [some (.ref 169), some (.int (nI e)), some (.int s), some (.int (nI N)), some (.int (nI a)), some (.int (nI g)), some (.int (nI i)), v] [] Q := by
  refine g_aload_n 147 dMod_drop_147 rfl ?_
  refine g_getr 148 10 29 dMod_drop_148 fs_Mod_99 rfl hS.mod hS.R_unread ?_
  refine g_iload_n 151 dMod_drop_151 rfl ?_
  refine g_iload 152 dMod_drop_152 rfl ?_
  refine g_iastN 154 dMod_drop_154 hS.T_unread (by omega) (by decide) ?_
  refine g_iload 155 dMod_drop_155 rfl ?_
  exact g_iret 157 dMod_drop_157 rfl hq
set_option maxRecDepth 100000 in
set_option maxHeartbeats 4000000 in
theorem ct_dropM {X : mX} {l : Launch} {M : mM} {A : zA} {e k : Nat} (hR : RR M A) (he : e < 2) (hk : k < 12) {N : Nat} (hN : N ≤ 40) : Ct X l uMod_drop (rk 0 0) [.ref 169, .int (nI e), .int (nI (2 * k + 1)), .int (nI N)] M (fun r M' => r = some (.int (nI (min N (unrd (zU A e) k).length))) ∧ RR M' (yU A e (tkU (zU A e) k N)) ∧ Chg M M' mP no2 ∧ Rtaken M' = tkP ((unrd (zU A e) k).take N) 0 0) := by
  refine Ct.of (by decide) (Nat.le_of_ble_eq_true rfl) ?_
  show G X l uMod_drop (rk 0 0) 0 0 M 0 [some (.ref 169), some (.int (nI e)), some (.int (nI (2 * k + 1))), some (.int (nI N)), none, none, none, none] [] _
  have hC : Chg M M mP no2 := Chg.rf
  refine g_iconst 0 (nI 0) dMod_drop_0 rfl ?_
  refine g_istore 1 dMod_drop_1 (by decide) rfl ?_
  refine g_iconst 3 (nI 0) dMod_drop_3 rfl ?_
  refine g_istore 4 dMod_drop_4 (by decide) rfl ?_
  refine g_aload_n 6 dMod_drop_6 rfl ?_
  refine g_lconst 7 0 dMod_drop_7 rfl ?_
  refine g_putl 8 10 55 dMod_drop_8 ps_Mod_186 rfl hR.1.mod ?_
  refine g_iconst 11 (nI 0) dMod_drop_11 rfl ?_
  refine g_istore 12 dMod_drop_12 (by decide) rfl ?_
  have hun := hR.un he
  have hul := unrd_len (zU A e) k
  refine g_drp (U := zU A e) hR.1 he hN hun.2.1 (fun M1 i v hI h1 h2 => ?_) (zU A e) 0 0 [] 0 _ none (Or.inl rfl) rfl (Nat.zero_le _) (Nat.le_refl _) (Nat.le_refl _) ⟨Chg.rf.setL (Or.inl (Or.inr (Or.inr ⟨rfl, rfl⟩))), hun.1, show up2 (mL M) 169 55 0 169 55 = 0 from up2_same, fun j x hx => by simp at hx, fun j x _ hx => hun.2.2 j x hx⟩ rfl rfl rfl
  have hS1 := hR.1.mv hI.1 (fun _ _ q => q.elim)
  have hz := rr_drp hR he hI h1
  have hk9 := kp_tk (zU A e) k N 0
  rw [Nat.sub_zero] at hk9
  refine dr_end hS1 he ⟨by rw [gn_eq _ _ _ _ (Nat.zero_le _), Nat.zero_add], by rw [← hk9]; exact hz, (mp (hI.1.setI (a := 199) (k := e) (Or.inl (Or.inl ⟨rfl, rfl⟩))) fun a j q => by unfold unP at q; omega), ?_⟩
  rw [← Nat.sub_zero N, ← tk_eq _ _ _ _ _ (Nat.zero_le _)]
  exact hI.2.2.1

theorem rr_cutW {M : mM} {A : zA} {e k : Nat} (h : RR M A) (he : e < 2) (hk : k < 12) (hs : ¬ zI A (29 + 80 * e + 5 * k) 1 = 0) : RR (setI (setI M 184 (12 * e + k) 1) 197 (12 * e + k) 0) (yW (yI (yI A (29 + 80 * e + 5 * k) 1 4) (29 + 80 * e + 5 * k) 2 1) e k []) := by
  have c1 : Chg M (setI M 184 (12 * e + k) 1) (fun a j => 183 ≤ a ∧ a ≤ 193 ∧ a ≠ 187 ∧ j = 12 * e + k) no2 := Chg.rf.setI (Or.inl ⟨by omega, by omega, by omega, rfl⟩)
  have h1 : RR (setI M 184 (12 * e + k) 1) (yI (yI A (29 + 80 * e + 5 * k) 1 4) (29 + 80 * e + 5 * k) 2 1) := by
    refine h.yS (f := up2 (up2 (zI A) (29 + 80 * e + 5 * k) 1 4) (29 + 80 * e + 5 * k) 2 1) he hk (fun a j q => by rw [up2_a q, up2_a q]) c1 ?_
    obtain ⟨g1, g2, g3, g4, g5⟩ := h.stk he hk
    have e1 : up2 (up2 (zI A) (29 + 80 * e + 5 * k) 1 4) (29 + 80 * e + 5 * k) 2 1 (29 + 80 * e + 5 * k) 1 = 4 := by rw [up2_k (by decide), up2_same]
    have e2 : up2 (up2 (zI A) (29 + 80 * e + 5 * k) 1 4) (29 + 80 * e + 5 * k) 2 1 (29 + 80 * e + 5 * k) 2 = 1 := up2_same
    have u : ∀ a, a ≠ 184 → mI (setI M 184 (12 * e + k) 1) a (12 * e + k) = mI M a (12 * e + k) := fun a q => up2_a q
    refine ⟨?_, fun q => absurd (e1.symm.trans q) (by decide), fun q => ?_, fun q => ?_, ?_⟩
    · show stR (up2 _ _ _ _ _ 1) (up2 _ _ _ _ _ 2) (mI (setI M 184 (12 * e + k) 1) 183 (12 * e + k)) (mI (setI M 184 (12 * e + k) 1) 184 (12 * e + k)) (mI (setI M 184 (12 * e + k) 1) 185 (12 * e + k)) (mI (setI M 184 (12 * e + k) 1) 186 (12 * e + k))
      rw [e1, e2, u 183 (by decide), u 185 (by decide), u 186 (by decide), show mI (setI M 184 (12 * e + k) 1) 184 (12 * e + k) = 1 from up2_same]
      rcases g1 with ⟨q1, _⟩ | ⟨_, _, q3, _, q5, q6⟩ | ⟨_, _, q3, _, q5, q6⟩ | ⟨_, _, q3, _, q5, q6⟩ | ⟨_, _, q3, _, q5, q6⟩ | ⟨_, _, q3, _, q5, q6⟩
      · exact absurd q1 hs
      all_goals exact Or.inr (Or.inr (Or.inr (Or.inr (Or.inr ⟨rfl, rfl, q3, rfl, by first | exact q5 | exact Or.inl q5 | exact Or.inr q5, by first | exact q6 | exact Or.inl q6 | exact Or.inr q6⟩))))
    · rcases q with q | q | q <;> exact absurd (e1.symm.trans q) (by decide)
    · show mI (setI M 184 (12 * e + k) 1) 188 _ = up2 (up2 (zI A) _ _ _) _ _ _ _ 5
      rw [u 188 (by decide), up2_k (by decide), up2_k (by decide)]
      exact g4 q
    · show mI (setI M 184 (12 * e + k) 1) 189 _ = up2 (up2 (zI A) _ _ _) _ _ _ _ 6
      rw [u 189 (by decide), up2_k (by decide), up2_k (by decide)]
      exact g5
  exact h1.yW he hk ⟨up2_same, Nat.zero_le _, fun j x hx => by simp at hx⟩ (Chg.rf.setI (Or.inl (Or.inl ⟨rfl, rfl⟩)))
set_option maxRecDepth 100000 in
set_option maxHeartbeats 4000000 in
theorem ct_severM {X : mX} {l : Launch} {M : mM} {A : zA} {e k : Nat} (hR : RR M A) (he : e < 2) (hk : k < 12) (hs : ¬ zI A (29 + 80 * e + 5 * k) 1 = 0) : Ct X l uMod_sever (rk 1 27) [.ref 169, .int (nI e), .int (nI (2 * k + 1))] M (fun r M' => r = some (.int (nI (unrd (zU A e) k).length)) ∧ RR M' (cutA A e k) ∧ Chg M M' mP no2) := by
  refine Ct.of (by decide) (Nat.le_of_ble_eq_true rfl) ?_
  show G X l uMod_sever (rk 1 27) 0 0 M 0 [some (.ref 169), some (.int (nI e)), some (.int (nI (2 * k + 1)))] [] _
  have hC : Chg M M mP no2 := Chg.rf
  refine g_aload_n 0 dMod_sever_0 rfl ?_
  refine g_getr 1 10 14 dMod_sever_1 fs_Mod_54 rfl hR.1.mod hR.1.R_cut ?_
  refine g_iload_n 4 dMod_sever_4 rfl ?_
  refine g_iload_n 5 dMod_sever_5 rfl ?_
  refine g_callS 6 [_, _] dMod_sever_6 cs_Mod_190 rfl rfl ⟨(Nat.le_of_ble_eq_true rfl), (Nat.le_of_ble_eq_true rfl)⟩ (Nat.le_of_ble_eq_true rfl) (ct_Mod_at (by omega) (by omega)) (Nat.le_of_ble_eq_true rfl) (Nat.le_of_ble_eq_true rfl) ?_
  rintro _ M2 ⟨rfl, hM2⟩
  rw [hM2]
  clear hM2 M2
  refine g_top (nI (12 * e + k)) (by rw [show (2 * k + 1) / 2 = k by omega]) ?_
  refine g_iconst 9 1 dMod_sever_9 rfl ?_
  refine g_zastN 10 dMod_sever_10 hR.1.T_cut (by omega) (by decide) (by decide) ?_
  refine g_aload_n 11 dMod_sever_11 rfl ?_
  refine g_getr 12 10 27 dMod_sever_12 fs_Mod_93 rfl hR.1.mod hR.1.R_waits ?_
  refine g_iload_n 15 dMod_sever_15 rfl ?_
  refine g_iload_n 16 dMod_sever_16 rfl ?_
  refine g_callS 17 [_, _] dMod_sever_17 cs_Mod_190 rfl rfl ⟨(Nat.le_of_ble_eq_true rfl), (Nat.le_of_ble_eq_true rfl)⟩ (Nat.le_of_ble_eq_true rfl) (ct_Mod_at (by omega) (by omega)) (Nat.le_of_ble_eq_true rfl) (Nat.le_of_ble_eq_true rfl) ?_
  rintro _ M2 ⟨rfl, hM2⟩
  rw [hM2]
  clear hM2 M2
  refine g_top (nI (12 * e + k)) (by rw [show (2 * k + 1) / 2 = k by omega]) ?_
  refine g_iconst 20 0 dMod_sever_20 rfl ?_
  refine g_iastN 21 dMod_sever_21 hR.1.T_waits (by omega) (by decide) ?_
  refine g_memM (rr_cutW hR he hk hs) (kM (kM hC (by decide)) (by decide)) (fun M1 hR1 hC1 => ?_)
  refine g_aload_n 22 dMod_sever_22 rfl ?_
  refine g_iload_n 23 dMod_sever_23 rfl ?_
  refine g_iload_n 24 dMod_sever_24 rfl ?_
  refine g_bipush 25 (nI 40) dMod_sever_25 rfl ?_
  refine g_callV 27 [_, _, _] dMod_sever_27 cs_Mod_194 rfl (ci := 10) rfl (by decide) hR1.1.mod rfl ⟨(Nat.le_of_ble_eq_true rfl), (Nat.le_of_ble_eq_true rfl)⟩ (Nat.le_of_ble_eq_true rfl) (ct_dropM hR1 he hk (N := 40) (Nat.le_refl _)) (Nat.le_of_ble_eq_true rfl) (Nat.le_of_ble_eq_true rfl) ?_
  rintro _ M2 ⟨rfl, hR2, hc, _⟩
  have hC2 := hC1.tr hc
  have hul := unrd_len (zU A e) k
  have hun := (hR.un he).2.1
  refine g_top (nI (unrd (zU A e) k).length) (by show nI (min 40 (unrd (zU A e) k).length) = _; rw [Nat.min_eq_right (by omega)]) ?_
  exact g_iret 30 dMod_sever_30 rfl ⟨rfl, by unfold cutA; rw [← tkU_all (zU A e) k 40 (by omega)]; exact hR2, hC2⟩

set_option maxRecDepth 100000 in
set_option maxHeartbeats 4000000 in
theorem ct_rstM {X : mX} {l : Launch} {M : mM} {A : zA} {e k : Nat} (hR : RR M A) (he : e < 2) (hk : k < 12) {c n : Int32} (hs : ¬ zI A (29 + 80 * e + 5 * k) 1 = 0) (hp : (zP A (1 - e)).length ≤ 44) : Ct X l uMod_streamError (rk 2 49) [.ref 169, .int (nI e), .int (nI (2 * k + 1)), .int c, .int n] M (fun r M' => r = some (.int c) ∧ RR M' (rstA A e k c n) ∧ Chg M M' mP no2) := by
  refine Ct.of (by decide) (Nat.le_of_ble_eq_true rfl) ?_
  show G X l uMod_streamError (rk 2 49) 0 0 M 0 [some (.ref 169), some (.int (nI e)), some (.int (nI (2 * k + 1))), some (.int c), some (.int n), none] [] _
  have hC : Chg M M mP no2 := Chg.rf
  refine g_aload_n 0 dMod_streamError_0 rfl ?_
  refine g_iconst 1 (nI 1) dMod_streamError_1 rfl ?_
  refine g_iload_n 2 dMod_streamError_2 rfl ?_
  refine g_isubN 3 dMod_streamError_3 (by omega) ?_
  refine g_iconst 4 3 dMod_streamError_4 rfl ?_
  refine g_iload_n 5 dMod_streamError_5 rfl ?_
  refine g_iload_n 6 dMod_streamError_6 rfl ?_
  refine g_iconst 7 0 dMod_streamError_7 rfl ?_
  refine g_callV 8 [_, _, _, _, _] dMod_streamError_8 cs_Mod_182 rfl (ci := 10) rfl (by decide) hR.1.mod rfl ⟨(Nat.le_of_ble_eq_true rfl), (Nat.le_of_ble_eq_true rfl)⟩ (Nat.le_of_ble_eq_true rfl) (ct_pushR hR (by omega) (show (zP A (1 - e)).length < 47 by omega) (Or.inl rfl) [] (fun q => absurd q (by decide)) (fun q => absurd q (by decide))) (Nat.le_of_ble_eq_true rfl) (Nat.le_of_ble_eq_true rfl) ?_
  rintro _ M1 ⟨sl, hsl, rfl, hla, hR1, hc⟩
  have hC1 := hC.tr hc
  refine g_pop 11 dMod_streamError_11 rfl ?_
  refine g_aload_n 12 dMod_streamError_12 rfl ?_
  refine g_iload_n 13 dMod_streamError_13 rfl ?_
  refine g_iload_n 14 dMod_streamError_14 rfl ?_
  refine g_callV 15 [_, _] dMod_streamError_15 cs_Mod_198 rfl (ci := 10) rfl (by decide) hR1.1.mod rfl ⟨(Nat.le_of_ble_eq_true rfl), (Nat.le_of_ble_eq_true rfl)⟩ (Nat.le_of_ble_eq_true rfl) (ct_severM hR1 he hk hs) (Nat.le_of_ble_eq_true rfl) (Nat.le_of_ble_eq_true rfl) ?_
  rintro _ M2 ⟨rfl, hR2, hc⟩
  have hC2 := hC1.tr hc
  refine g_istore 18 dMod_streamError_18 (by decide) rfl ?_
  refine g_aload_n 20 dMod_streamError_20 rfl ?_
  refine g_iload_n 21 dMod_streamError_21 rfl ?_
  refine g_iload 22 dMod_streamError_22 rfl ?_
  refine g_iload 24 dMod_streamError_24 rfl ?_
  refine g_iadd 26 dMod_streamError_26 ?_
  refine g_callV 27 [_, _] dMod_streamError_27 cs_Mod_201 rfl (ci := 10) rfl (by decide) hR2.1.mod rfl ⟨(Nat.le_of_ble_eq_true rfl), (Nat.le_of_ble_eq_true rfl)⟩ (Nat.le_of_ble_eq_true rfl) (ct_giveM hR2 he (Nat.lt_of_le_of_lt (Nat.le_of_eq push_len) (show (zP A (1 - e)).length + 1 < 47 by omega))) (Nat.le_of_ble_eq_true rfl) (Nat.le_of_ble_eq_true rfl) ?_
  rintro _ M3 ⟨rfl, hR3, hc⟩
  have hC3 := hC2.tr hc
  refine g_iload_n 30 dMod_streamError_30 rfl ?_
  exact g_iret 31 dMod_streamError_31 rfl ⟨rfl, hR3, hC3⟩

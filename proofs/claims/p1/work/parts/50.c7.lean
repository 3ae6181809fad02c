theorem dLink_inject_0 : decode uLink_inject.2.1 0 = .ok (.aload_n 0, 1) := by decide +kernel
theorem dLink_inject_1 : decode uLink_inject.2.1 1 = .ok (.iload_n 1, 1) := by decide +kernel
theorem dLink_inject_2 : decode uLink_inject.2.1 2 = .ok (.invokevirtual 128, 3) := by decide +kernel
theorem dLink_inject_5 : decode uLink_inject.2.1 5 = .ok (.astore 6, 2) := by decide +kernel
theorem dLink_inject_7 : decode uLink_inject.2.1 7 = .ok (.aload 6, 2) := by decide +kernel
theorem dLink_inject_9 : decode uLink_inject.2.1 9 = .ok (.ifnull 14, 3) := by decide +kernel
theorem dLink_inject_12 : decode uLink_inject.2.1 12 = .ok (.aload 6, 2) := by decide +kernel
theorem dLink_inject_14 : decode uLink_inject.2.1 14 = .ok (.getfield 131, 3) := by decide +kernel
theorem dLink_inject_17 : decode uLink_inject.2.1 17 = .ok (.invokevirtual 51, 3) := by decide +kernel
theorem dLink_inject_20 : decode uLink_inject.2.1 20 = .ok (.ifCond .eq 5, 3) := by decide +kernel
theorem dLink_inject_23 : decode uLink_inject.2.1 23 = .ok (.iconst 0, 1) := by decide +kernel
theorem dLink_inject_24 : decode uLink_inject.2.1 24 = .ok (.ireturn, 1) := by decide +kernel
theorem dLink_inject_25 : decode uLink_inject.2.1 25 = .ok (.iload_n 2, 1) := by decide +kernel
theorem dLink_inject_26 : decode uLink_inject.2.1 26 = .ok (.iload_n 3, 1) := by decide +kernel
theorem dLink_inject_27 : decode uLink_inject.2.1 27 = .ok (.iload 4, 2) := by decide +kernel
theorem dLink_inject_29 : decode uLink_inject.2.1 29 = .ok (.iload 5, 2) := by decide +kernel
theorem dLink_inject_31 : decode uLink_inject.2.1 31 = .ok (.invokestatic 146, 3) := by decide +kernel
theorem dLink_inject_34 : decode uLink_inject.2.1 34 = .ok (.astore 7, 2) := by decide +kernel
theorem dLink_inject_36 : decode uLink_inject.2.1 36 = .ok (.aload 7, 2) := by decide +kernel
theorem dLink_inject_38 : decode uLink_inject.2.1 38 = .ok (.ifnonnull 5, 3) := by decide +kernel
theorem dLink_inject_41 : decode uLink_inject.2.1 41 = .ok (.iconst 0, 1) := by decide +kernel
theorem dLink_inject_42 : decode uLink_inject.2.1 42 = .ok (.ireturn, 1) := by decide +kernel
theorem dLink_inject_43 : decode uLink_inject.2.1 43 = .ok (.aload 6, 2) := by decide +kernel
theorem dLink_inject_45 : decode uLink_inject.2.1 45 = .ok (.getfield 131, 3) := by decide +kernel
theorem dLink_inject_48 : decode uLink_inject.2.1 48 = .ok (.aload 7, 2) := by decide +kernel
theorem dLink_inject_50 : decode uLink_inject.2.1 50 = .ok (.invokevirtual 150, 3) := by decide +kernel
theorem dLink_inject_53 : decode uLink_inject.2.1 53 = .ok (.iconst 1, 1) := by decide +kernel
theorem dLink_inject_54 : decode uLink_inject.2.1 54 = .ok (.ireturn, 1) := by decide +kernel
theorem dMod_sum_0 : decode uMod_sum.2.1 0 = .ok (.iconst 0, 1) := by decide +kernel
theorem dMod_sum_1 : decode uMod_sum.2.1 1 = .ok (.istore_n 2, 1) := by decide +kernel
theorem dMod_sum_2 : decode uMod_sum.2.1 2 = .ok (.iconst 0, 1) := by decide +kernel
theorem dMod_sum_3 : decode uMod_sum.2.1 3 = .ok (.istore_n 3, 1) := by decide +kernel
theorem dMod_sum_4 : decode uMod_sum.2.1 4 = .ok (.iload_n 3, 1) := by decide +kernel
theorem dMod_sum_5 : decode uMod_sum.2.1 5 = .ok (.aload_n 0, 1) := by decide +kernel
theorem dMod_sum_6 : decode uMod_sum.2.1 6 = .ok (.getfield 144, 3) := by decide +kernel
theorem dMod_sum_9 : decode uMod_sum.2.1 9 = .ok (.iload_n 1, 1) := by decide +kernel
theorem dMod_sum_10 : decode uMod_sum.2.1 10 = .ok (.iaload, 1) := by decide +kernel
theorem dMod_sum_11 : decode uMod_sum.2.1 11 = .ok (.if_icmp .ge 26, 3) := by decide +kernel
theorem dMod_sum_14 : decode uMod_sum.2.1 14 = .ok (.iload_n 2, 1) := by decide +kernel
theorem dMod_sum_15 : decode uMod_sum.2.1 15 = .ok (.aload_n 0, 1) := by decide +kernel
theorem dMod_sum_16 : decode uMod_sum.2.1 16 = .ok (.getfield 150, 3) := by decide +kernel
theorem dMod_sum_19 : decode uMod_sum.2.1 19 = .ok (.bipush 6, 2) := by decide +kernel
theorem dMod_sum_21 : decode uMod_sum.2.1 21 = .ok (.iload_n 1, 1) := by decide +kernel
theorem dMod_sum_22 : decode uMod_sum.2.1 22 = .ok (.imul, 1) := by decide +kernel
theorem dMod_sum_23 : decode uMod_sum.2.1 23 = .ok (.iload_n 3, 1) := by decide +kernel
theorem dMod_sum_24 : decode uMod_sum.2.1 24 = .ok (.iadd, 1) := by decide +kernel
theorem dMod_sum_25 : decode uMod_sum.2.1 25 = .ok (.iaload, 1) := by decide +kernel
theorem dMod_sum_26 : decode uMod_sum.2.1 26 = .ok (.invokestatic 207, 3) := by decide +kernel
theorem dMod_sum_29 : decode uMod_sum.2.1 29 = .ok (.iadd, 1) := by decide +kernel
theorem dMod_sum_30 : decode uMod_sum.2.1 30 = .ok (.istore_n 2, 1) := by decide +kernel
theorem dMod_sum_31 : decode uMod_sum.2.1 31 = .ok (.iinc 3 1, 3) := by decide +kernel
theorem dMod_sum_34 : decode uMod_sum.2.1 34 = .ok (.goto (-30), 3) := by decide +kernel
theorem dMod_sum_37 : decode uMod_sum.2.1 37 = .ok (.iload_n 2, 1) := by decide +kernel
theorem dMod_sum_38 : decode uMod_sum.2.1 38 = .ok (.ireturn, 1) := by decide +kernel
theorem cs_Link_146 : cSt "InterleavedLink" 146 uLink_strangeFrame 4 := ⟨⟨Or.inl (gW_in 808 (by decide +kernel) rfl), (gW_in 64 (by decide +kernel) rfl), (gW_in 810 (by decide +kernel) rfl), ⟨by decide, by decide⟩, by decide +kernel⟩, (gW_in 809 (by decide +kernel) rfl)⟩
theorem cs_Link_150 : cV "InterleavedLink" 150 uPipe_add 1 := ⟨⟨Or.inl (gW_in 821 (by decide +kernel) rfl), (gW_in 65 (by decide +kernel) rfl), (gW_in 551 (by decide +kernel) rfl), ⟨by decide, by decide⟩, by decide +kernel⟩, (gW_in 549 (by decide +kernel) rfl), (gW_in 550 (by decide +kernel) rfl)⟩
theorem fs_Link_193 : fS "InterleavedLink" 193 2 7 := ⟨"InterleavedLink$End", T_End, 17, cf_End, by decide, Or.inl (gW_in 314 (by decide +kernel) rfl)⟩
theorem fs_Link_197 : fS "InterleavedLink" 197 4 0 := ⟨"InterleavedLink$Encoder", T_Enc, 4, cf_Enc, by decide, Or.inl (gW_in 180 (by decide +kernel) rfl)⟩
theorem fs_Link_200 : fS "InterleavedLink" 200 5 5 := ⟨"InterleavedLink$Table", T_Table, 6, cf_Table, by decide, Or.inl (gW_in 165 (by decide +kernel) rfl)⟩
theorem fs_Link_183 : fS "InterleavedLink" 183 2 8 := ⟨"InterleavedLink$End", T_End, 17, cf_End, by decide, Or.inl (gW_in 316 (by decide +kernel) rfl)⟩
theorem fs_Link_187 : fS "InterleavedLink" 187 6 0 := ⟨"InterleavedLink$Decoder", T_Dec, 2, cf_Dec, by decide, Or.inl (gW_in 202 (by decide +kernel) rfl)⟩
theorem fs_Link_205 : fS "InterleavedLink" 205 5 4 := ⟨"InterleavedLink$Table", T_Table, 6, cf_Table, by decide, Or.inl (gW_in 162 (by decide +kernel) rfl)⟩
theorem fs_Link_208 : fS "InterleavedLink" 208 5 3 := ⟨"InterleavedLink$Table", T_Table, 6, cf_Table, by decide, Or.inl (gW_in 160 (by decide +kernel) rfl)⟩
theorem fs_Link_209 : fS "InterleavedLink" 209 5 1 := ⟨"InterleavedLink$Table", T_Table, 6, cf_Table, by decide, Or.inl (gW_in 157 (by decide +kernel) rfl)⟩
theorem fs_Mod_144 : fS "InterleavedLinkModel" 144 10 45 := ⟨"InterleavedLinkModel", T_Mod, 56, cf_Mod, by decide, Or.inl (gW_in 906 (by decide +kernel) rfl)⟩
theorem fs_Mod_150 : fS "InterleavedLinkModel" 150 10 47 := ⟨"InterleavedLinkModel", T_Mod, 56, cf_Mod, by decide, Or.inl (gW_in 908 (by decide +kernel) rfl)⟩
theorem cs_Mod_207 : cSt "InterleavedLinkModel" 207 uMod_sizeOf 1 := ⟨⟨Or.inl (gW_in 1100 (by decide +kernel) rfl), (gW_in 74 (by decide +kernel) rfl), (gW_in 1102 (by decide +kernel) rfl), ⟨by decide, by decide⟩, by decide +kernel⟩, (gW_in 1101 (by decide +kernel) rfl)⟩
theorem cs_Mod_210 : cV "InterleavedLinkModel" 210 uMod_sum 1 := ⟨⟨Or.inl (gW_in 1096 (by decide +kernel) rfl), (gW_in 74 (by decide +kernel) rfl), (gW_in 1099 (by decide +kernel) rfl), ⟨by decide, by decide⟩, by decide +kernel⟩, (gW_in 1098 (by decide +kernel) rfl), (gW_in 39 (by decide +kernel) rfl)⟩
/-! ===== inject, table ===== -/
set_option maxRecDepth 100000 in
set_option maxHeartbeats 4000000 in
theorem sf_out {X : mX} {l : Launch} {M : mM} {kd s x z : Int32} (hk : kd.toInt < 0 ∨ 8 < kd.toInt) : Ct X l uLink_strangeFrame (rn 3 61 6 45) [.int kd, .int s, .int x, .int z] M (fun r M' => r = some (.null) ∧ M' = M) := by
  refine Ct.of (by decide) (Nat.le_of_ble_eq_true rfl) ?_
  show G X l uLink_strangeFrame (rn 3 61 6 45) 6 45 M 0 [some (.int kd), some (.int s), some (.int x), some (.int z), none, none] [] _
  refine g_iload_n 0 dLink_strangeFrame_0 rfl ?_
  refine g_iconst 1 0 dLink_strangeFrame_1 rfl ?_
  refine g_bipush 2 15 dLink_strangeFrame_2 rfl ?_
  refine g_callS 4 [_, _, _] dLink_strangeFrame_4 cs_Link_25 rfl rfl ⟨(Nat.le_of_ble_eq_true rfl), (Nat.le_of_ble_eq_true rfl)⟩ (Nat.le_of_ble_eq_true rfl) (ct_isWithin) (Nat.le_of_ble_eq_true rfl) (Nat.le_of_ble_eq_true rfl) ?_
  rintro _ M2 ⟨rfl, hM2⟩
  rw [hM2]
  clear hM2 M2
  refine g_istore 7 dLink_strangeFrame_7 (by decide) rfl ?_
  refine g_iload_n 9 dLink_strangeFrame_9 rfl ?_
  refine g_tableOut 10 147 dLink_strangeFrame_10 hk rfl ?_
  refine g_null 147 dLink_strangeFrame_147 ?_
  exact g_aretN 148 dLink_strangeFrame_148 rfl (Or.inl ⟨_, rfl⟩) ⟨rfl, rfl⟩

set_option maxRecDepth 100000 in
set_option maxHeartbeats 4000000 in
theorem ct_Link_inject {X : mX} {l : Launch} {M : mM} {e f i n : Nat} {F : mM} {kd s x z : Int32} (hS : Shp M) (he : e < 2) (p2 : mI M (4 + 2 * e) 2 = nI n) (hn : n < 30) (hC : Ct X l uLink_strangeFrame (rn 3 61 6 45) [.int kd, .int s, .int x, .int z] M (fun r M' => r = some (.ref f) ∧ M' = F)) (hSF : Shp F) (hf : (mT F f).1 = 12) (f1 : mI F (4 + 2 * e) 1 = nI i) (f2 : mI F (4 + 2 * e) 2 = nI n) (hi : i < 48) : Ct X l uLink_inject (rn 4 86 6 45) [.ref 3, .int (nI e), .int kd, .int s, .int x, .int z] M (fun r M' => r = some (.int 1) ∧ M' = qPut F e i n f) := by
  refine Ct.of (by decide) (Nat.le_of_ble_eq_true rfl) ?_
  show G X l uLink_inject (rn 4 86 6 45) 6 45 M 0 [some (.ref 3), some (.int (nI e)), some (.int kd), some (.int s), some (.int x), some (.int z), none, none] [] _
  refine g_aload_n 0 dLink_inject_0 rfl ?_
  refine g_iload_n 1 dLink_inject_1 rfl ?_
  refine g_callV 2 [_] dLink_inject_2 cs_Link_128 rfl (ci := 0) rfl (by decide) hS.link rfl ⟨(Nat.le_of_ble_eq_true rfl), (Nat.le_of_ble_eq_true rfl)⟩ (Nat.le_of_ble_eq_true rfl) (ct_endOf hS he) (Nat.le_of_ble_eq_true rfl) (Nat.le_of_ble_eq_true rfl) ?_
  rintro _ M2 ⟨rfl, hM2⟩
  rw [hM2]
  clear hM2 M2
  refine g_astore 5 dLink_inject_5 (by decide) rfl ?_
  refine g_aload 7 dLink_inject_7 rfl ?_
  refine g_ifnull 9 dLink_inject_9 ?_
  refine g_aload 12 dLink_inject_12 rfl ?_
  refine g_getr 14 2 1 dLink_inject_14 fs_Link_131 rfl (hS.tEnd he) (hS.rEnd1 he) ?_
  refine g_callV 17 [] dLink_inject_17 cs_Link_51 rfl (ci := 1) rfl (by decide) (hS.tPipe he) rfl ⟨(Nat.le_of_ble_eq_true rfl), (Nat.le_of_ble_eq_true rfl)⟩ (Nat.le_of_ble_eq_true rfl) (ct_Pipe_isFull (hS.tPipe he)) (Nat.le_of_ble_eq_true rfl) (Nat.le_of_ble_eq_true rfl) ?_
  rintro _ M2 ⟨rfl, hM2⟩
  rw [hM2]
  clear hM2 M2
  refine g_if_eq 20 25 dLink_inject_20 rfl (fun h20 => ?_) (fun h20 => ?_)
  · refine g_iload_n 25 dLink_inject_25 rfl ?_
    refine g_iload_n 26 dLink_inject_26 rfl ?_
    refine g_iload 27 dLink_inject_27 rfl ?_
    refine g_iload 29 dLink_inject_29 rfl ?_
    refine g_callS 31 [_, _, _, _] dLink_inject_31 cs_Link_146 rfl rfl ⟨(Nat.le_of_ble_eq_true rfl), (Nat.le_of_ble_eq_true rfl)⟩ (Nat.le_of_ble_eq_true rfl) (hC) (Nat.le_of_ble_eq_true rfl) (Nat.le_of_ble_eq_true rfl) ?_
    rintro _ _ ⟨rfl, rfl⟩
    refine g_astore 34 dLink_inject_34 (by decide) rfl ?_
    refine g_aload 36 dLink_inject_36 rfl ?_
    refine g_ifnonnull 38 43 dLink_inject_38 rfl ?_
    refine g_aload 43 dLink_inject_43 rfl ?_
    refine g_getr 45 2 1 dLink_inject_45 fs_Link_131 rfl (hSF.tEnd he) (hSF.rEnd1 he) ?_
    refine g_aload 48 dLink_inject_48 rfl ?_
    refine g_callV 50 [_] dLink_inject_50 cs_Link_150 rfl (ci := 1) rfl (by decide) (hSF.tPipe he) rfl ⟨(Nat.le_of_ble_eq_true rfl), (Nat.le_of_ble_eq_true rfl)⟩ (Nat.le_of_ble_eq_true rfl) (ct_addI hSF he hf f1 f2 hi (by omega)) (Nat.le_of_ble_eq_true rfl) (Nat.le_of_ble_eq_true rfl) ?_
    rintro _ _ ⟨rfl, rfl⟩
    refine g_iconst 53 1 dLink_inject_53 rfl ?_
    exact g_zret 54 dLink_inject_54 rfl (by decide) ⟨rfl, rfl⟩
  · exact absurd (by rw [p2]; exact if_pos (nI_lt hn (by decide))) h20

set_option maxRecDepth 100000 in
set_option maxHeartbeats 4000000 in
theorem ct_Link_inject_nul {X : mX} {l : Launch} {M : mM} {e : Nat} {kd s x z : Int32} (hS : Shp M) (he : e < 2) (hC : Ct X l uLink_strangeFrame (rn 3 61 6 45) [.int kd, .int s, .int x, .int z] M (fun r M' => r = some .null ∧ M' = M)) : Ct X l uLink_inject (rn 4 86 6 45) [.ref 3, .int (nI e), .int kd, .int s, .int x, .int z] M (fun r M' => r = some (.int 0) ∧ M' = M) := by
  refine Ct.of (by decide) (Nat.le_of_ble_eq_true rfl) ?_
  show G X l uLink_inject (rn 4 86 6 45) 6 45 M 0 [some (.ref 3), some (.int (nI e)), some (.int kd), some (.int s), some (.int x), some (.int z), none, none] [] _
  refine g_aload_n 0 dLink_inject_0 rfl ?_
  refine g_iload_n 1 dLink_inject_1 rfl ?_
  refine g_callV 2 [_] dLink_inject_2 cs_Link_128 rfl (ci := 0) rfl (by decide) hS.link rfl ⟨(Nat.le_of_ble_eq_true rfl), (Nat.le_of_ble_eq_true rfl)⟩ (Nat.le_of_ble_eq_true rfl) (ct_endOf hS he) (Nat.le_of_ble_eq_true rfl) (Nat.le_of_ble_eq_true rfl) ?_
  rintro _ M2 ⟨rfl, hM2⟩
  rw [hM2]
  clear hM2 M2
  refine g_astore 5 dLink_inject_5 (by decide) rfl ?_
  refine g_aload 7 dLink_inject_7 rfl ?_
  refine g_ifnull 9 dLink_inject_9 ?_
  refine g_aload 12 dLink_inject_12 rfl ?_
  refine g_getr 14 2 1 dLink_inject_14 fs_Link_131 rfl (hS.tEnd he) (hS.rEnd1 he) ?_
  refine g_callV 17 [] dLink_inject_17 cs_Link_51 rfl (ci := 1) rfl (by decide) (hS.tPipe he) rfl ⟨(Nat.le_of_ble_eq_true rfl), (Nat.le_of_ble_eq_true rfl)⟩ (Nat.le_of_ble_eq_true rfl) (ct_Pipe_isFull (hS.tPipe he)) (Nat.le_of_ble_eq_true rfl) (Nat.le_of_ble_eq_true rfl) ?_
  rintro _ M2 ⟨rfl, hM2⟩
  rw [hM2]
  clear hM2 M2
  refine g_if_eq 20 25 dLink_inject_20 rfl (fun h20 => ?_) (fun h20 => ?_)
  · refine g_iload_n 25 dLink_inject_25 rfl ?_
    refine g_iload_n 26 dLink_inject_26 rfl ?_
    refine g_iload 27 dLink_inject_27 rfl ?_
    refine g_iload 29 dLink_inject_29 rfl ?_
    refine g_callS 31 [_, _, _, _] dLink_inject_31 cs_Link_146 rfl rfl ⟨(Nat.le_of_ble_eq_true rfl), (Nat.le_of_ble_eq_true rfl)⟩ (Nat.le_of_ble_eq_true rfl) (hC) (Nat.le_of_ble_eq_true rfl) (Nat.le_of_ble_eq_true rfl) ?_
    rintro _ M2 ⟨rfl, hM2⟩
    rw [hM2]
    clear hM2 M2
    refine g_astoreN 34 dLink_inject_34 (by decide) rfl ?_
    refine g_aloadN 36 dLink_inject_36 rfl ?_
    refine g_ifnonnullN 38 dLink_inject_38 ?_
    refine g_iconst 41 0 dLink_inject_41 rfl ?_
    exact g_zret 42 dLink_inject_42 rfl (by decide) ⟨rfl, rfl⟩
  · refine g_iconst 23 0 dLink_inject_23 rfl ?_
    exact g_zret 24 dLink_inject_24 rfl (by decide) ⟨rfl, rfl⟩

set_option maxRecDepth 100000 in
set_option maxHeartbeats 4000000 in
theorem ct_Link_inject_full {X : mX} {l : Launch} {M : mM} {e : Nat} {kd s x z : Int32} (hS : Shp M) (he : e < 2) (p2 : ¬ mI M (4 + 2 * e) 2 < 30) : Ct X l uLink_inject (rn 4 86 6 45) [.ref 3, .int (nI e), .int kd, .int s, .int x, .int z] M (fun r M' => r = some (.int 0) ∧ M' = M) := by
  refine Ct.of (by decide) (Nat.le_of_ble_eq_true rfl) ?_
  show G X l uLink_inject (rn 4 86 6 45) 6 45 M 0 [some (.ref 3), some (.int (nI e)), some (.int kd), some (.int s), some (.int x), some (.int z), none, none] [] _
  refine g_aload_n 0 dLink_inject_0 rfl ?_
  refine g_iload_n 1 dLink_inject_1 rfl ?_
  refine g_callV 2 [_] dLink_inject_2 cs_Link_128 rfl (ci := 0) rfl (by decide) hS.link rfl ⟨(Nat.le_of_ble_eq_true rfl), (Nat.le_of_ble_eq_true rfl)⟩ (Nat.le_of_ble_eq_true rfl) (ct_endOf hS he) (Nat.le_of_ble_eq_true rfl) (Nat.le_of_ble_eq_true rfl) ?_
  rintro _ M2 ⟨rfl, hM2⟩
  rw [hM2]
  clear hM2 M2
  refine g_astore 5 dLink_inject_5 (by decide) rfl ?_
  refine g_aload 7 dLink_inject_7 rfl ?_
  refine g_ifnull 9 dLink_inject_9 ?_
  refine g_aload 12 dLink_inject_12 rfl ?_
  refine g_getr 14 2 1 dLink_inject_14 fs_Link_131 rfl (hS.tEnd he) (hS.rEnd1 he) ?_
  refine g_callV 17 [] dLink_inject_17 cs_Link_51 rfl (ci := 1) rfl (by decide) (hS.tPipe he) rfl ⟨(Nat.le_of_ble_eq_true rfl), (Nat.le_of_ble_eq_true rfl)⟩ (Nat.le_of_ble_eq_true rfl) (ct_Pipe_isFull (hS.tPipe he)) (Nat.le_of_ble_eq_true rfl) (Nat.le_of_ble_eq_true rfl) ?_
  rintro _ M2 ⟨rfl, hM2⟩
  rw [hM2]
  clear hM2 M2
  refine g_if_eq 20 25 dLink_inject_20 rfl (fun h20 => ?_) (fun h20 => ?_)
  · exact absurd (by rw [if_neg p2] at h20; exact h20) (by decide)
  · refine g_iconst 23 0 dLink_inject_23 rfl ?_
    exact g_zret 24 dLink_inject_24 rfl (by decide) ⟨rfl, rfl⟩

set_option maxRecDepth 100000 in
set_option maxHeartbeats 4000000 in
theorem ct_Link_inject_no {X : mX} {l : Launch} {M : mM} {x : Int32} (hS : Shp M) (h0 : ¬ x = 0) (h1 : ¬ x = 1) {kd s y z : Int32} : Ct X l uLink_inject (rn 4 86 6 45) [.ref 3, .int x, .int kd, .int s, .int y, .int z] M (fun r M' => r = some (.int 0) ∧ M' = M) := by
  refine Ct.of (by decide) (Nat.le_of_ble_eq_true rfl) ?_
  show G X l uLink_inject (rn 4 86 6 45) 6 45 M 0 [some (.ref 3), some (.int x), some (.int kd), some (.int s), some (.int y), some (.int z), none, none] [] _
  refine g_aload_n 0 dLink_inject_0 rfl ?_
  refine g_iload_n 1 dLink_inject_1 rfl ?_
  refine g_callV 2 [_] dLink_inject_2 cs_Link_128 rfl (ci := 0) rfl (by decide) hS.link rfl ⟨(Nat.le_of_ble_eq_true rfl), (Nat.le_of_ble_eq_true rfl)⟩ (Nat.le_of_ble_eq_true rfl) (ct_endOf_no h0 h1) (Nat.le_of_ble_eq_true rfl) (Nat.le_of_ble_eq_true rfl) ?_
  rintro _ M2 ⟨rfl, hM2⟩
  rw [hM2]
  clear hM2 M2
  refine g_astoreN 5 dLink_inject_5 (by decide) rfl ?_
  refine g_aloadN 7 dLink_inject_7 rfl ?_
  refine g_ifnullN 9 23 dLink_inject_9 rfl ?_
  refine g_iconst 23 0 dLink_inject_23 rfl ?_
  exact g_zret 24 dLink_inject_24 rfl (by decide) ⟨rfl, rfl⟩

set_option maxRecDepth 100000 in
set_option maxHeartbeats 4000000 in
theorem cm_inject_no {X : mX} {l : Launch} {M : mM} {x : Int32} (hS : Shp M) (g0 : ¬ x = 0) (g1 : ¬ x = 1) {kd s y z : Int32} : Ct X l uMod_inject (rk 1 26) [.ref 169, .int x, .int kd, .int s, .int y, .int z] M (fun r M' => r = some (.int 0) ∧ M' = M) := by
  refine Ct.of (by decide) (Nat.le_of_ble_eq_true rfl) ?_
  show G X l uMod_inject (rk 1 26) 0 0 M 0 [some (.ref 169), some (.int x), some (.int kd), some (.int s), some (.int y), some (.int z), none, none, none, none] [] _
  refine g_iload_n 0 dMod_inject_0 rfl ?_
  refine g_if_eq 1 31 dMod_inject_1 rfl (fun h1 => ?_) (fun h1 => ?_)
  · refine g_iconst 31 1 dMod_inject_31 rfl ?_
    refine g_goto 32 36 dMod_inject_32 rfl ?_
    refine g_istore 36 dMod_inject_36 (by decide) rfl ?_
    refine g_iload_n 38 dMod_inject_38 rfl ?_
    refine g_callS 39 [_] dMod_inject_39 cs_Mod_171 rfl rfl ⟨(Nat.le_of_ble_eq_true rfl), (Nat.le_of_ble_eq_true rfl)⟩ (Nat.le_of_ble_eq_true rfl) (ct_isEnd_n g0 g1) (Nat.le_of_ble_eq_true rfl) (Nat.le_of_ble_eq_true rfl) ?_
    rintro _ M2 ⟨rfl, hM2⟩
    rw [hM2]
    clear hM2 M2
    refine g_if_eq 42 83 dMod_inject_42 rfl (fun h42 => ?_) (fun h42 => ?_)
    · refine g_iconst 83 0 dMod_inject_83 rfl ?_
      exact g_zret 84 dMod_inject_84 rfl (by decide) ⟨rfl, rfl⟩
    · exact absurd rfl h42
  · refine g_iload_n 4 dMod_inject_4 rfl ?_
    refine g_iconst 5 1 dMod_inject_5 rfl ?_
    refine g_icmp_eq 6 31 dMod_inject_6 rfl (fun h6 => ?_) (fun h6 => ?_)
    · refine g_iconst 31 1 dMod_inject_31 rfl ?_
      refine g_goto 32 36 dMod_inject_32 rfl ?_
      refine g_istore 36 dMod_inject_36 (by decide) rfl ?_
      refine g_iload_n 38 dMod_inject_38 rfl ?_
      refine g_callS 39 [_] dMod_inject_39 cs_Mod_171 rfl rfl ⟨(Nat.le_of_ble_eq_true rfl), (Nat.le_of_ble_eq_true rfl)⟩ (Nat.le_of_ble_eq_true rfl) (ct_isEnd_n g0 g1) (Nat.le_of_ble_eq_true rfl) (Nat.le_of_ble_eq_true rfl) ?_
      rintro _ M2 ⟨rfl, hM2⟩
      rw [hM2]
      clear hM2 M2
      refine g_if_eq 42 83 dMod_inject_42 rfl (fun h42 => ?_) (fun h42 => ?_)
      · refine g_iconst 83 0 dMod_inject_83 rfl ?_
        exact g_zret 84 dMod_inject_84 rfl (by decide) ⟨rfl, rfl⟩
      · exact absurd rfl h42
    · refine g_iload_n 9 dMod_inject_9 rfl ?_
      refine g_iconst 10 3 dMod_inject_10 rfl ?_
      refine g_icmp_eq 11 31 dMod_inject_11 rfl (fun h11 => ?_) (fun h11 => ?_)
      · refine g_iconst 31 1 dMod_inject_31 rfl ?_
        refine g_goto 32 36 dMod_inject_32 rfl ?_
        refine g_istore 36 dMod_inject_36 (by decide) rfl ?_
        refine g_iload_n 38 dMod_inject_38 rfl ?_
        refine g_callS 39 [_] dMod_inject_39 cs_Mod_171 rfl rfl ⟨(Nat.le_of_ble_eq_true rfl), (Nat.le_of_ble_eq_true rfl)⟩ (Nat.le_of_ble_eq_true rfl) (ct_isEnd_n g0 g1) (Nat.le_of_ble_eq_true rfl) (Nat.le_of_ble_eq_true rfl) ?_
        rintro _ M2 ⟨rfl, hM2⟩
        rw [hM2]
        clear hM2 M2
        refine g_if_eq 42 83 dMod_inject_42 rfl (fun h42 => ?_) (fun h42 => ?_)
        · refine g_iconst 83 0 dMod_inject_83 rfl ?_
          exact g_zret 84 dMod_inject_84 rfl (by decide) ⟨rfl, rfl⟩
        · exact absurd rfl h42
      · refine g_iload_n 14 dMod_inject_14 rfl ?_
        refine g_iconst 15 4 dMod_inject_15 rfl ?_
        refine g_icmp_eq 16 31 dMod_inject_16 rfl (fun h16 => ?_) (fun h16 => ?_)
        · refine g_iconst 31 1 dMod_inject_31 rfl ?_
          refine g_goto 32 36 dMod_inject_32 rfl ?_
          refine g_istore 36 dMod_inject_36 (by decide) rfl ?_
          refine g_iload_n 38 dMod_inject_38 rfl ?_
          refine g_callS 39 [_] dMod_inject_39 cs_Mod_171 rfl rfl ⟨(Nat.le_of_ble_eq_true rfl), (Nat.le_of_ble_eq_true rfl)⟩ (Nat.le_of_ble_eq_true rfl) (ct_isEnd_n g0 g1) (Nat.le_of_ble_eq_true rfl) (Nat.le_of_ble_eq_true rfl) ?_
          rintro _ M2 ⟨rfl, hM2⟩
          rw [hM2]
          clear hM2 M2
          refine g_if_eq 42 83 dMod_inject_42 rfl (fun h42 => ?_) (fun h42 => ?_)
          · refine g_iconst 83 0 dMod_inject_83 rfl ?_
            exact g_zret 84 dMod_inject_84 rfl (by decide) ⟨rfl, rfl⟩
          · exact absurd rfl h42
        · refine g_iload_n 19 dMod_inject_19 rfl ?_
          refine g_bipush 20 7 dMod_inject_20 rfl ?_
          refine g_icmp_eq 22 31 dMod_inject_22 rfl (fun h22 => ?_) (fun h22 => ?_)
          · refine g_iconst 31 1 dMod_inject_31 rfl ?_
            refine g_goto 32 36 dMod_inject_32 rfl ?_
            refine g_istore 36 dMod_inject_36 (by decide) rfl ?_
            refine g_iload_n 38 dMod_inject_38 rfl ?_
            refine g_callS 39 [_] dMod_inject_39 cs_Mod_171 rfl rfl ⟨(Nat.le_of_ble_eq_true rfl), (Nat.le_of_ble_eq_true rfl)⟩ (Nat.le_of_ble_eq_true rfl) (ct_isEnd_n g0 g1) (Nat.le_of_ble_eq_true rfl) (Nat.le_of_ble_eq_true rfl) ?_
            rintro _ M2 ⟨rfl, hM2⟩
            rw [hM2]
            clear hM2 M2
            refine g_if_eq 42 83 dMod_inject_42 rfl (fun h42 => ?_) (fun h42 => ?_)
            · refine g_iconst 83 0 dMod_inject_83 rfl ?_
              exact g_zret 84 dMod_inject_84 rfl (by decide) ⟨rfl, rfl⟩
            · exact absurd rfl h42
          · refine g_iload_n 25 dMod_inject_25 rfl ?_
            refine g_bipush 26 8 dMod_inject_26 rfl ?_
            refine g_icmp_ne 28 35 dMod_inject_28 rfl (fun h28 => ?_) (fun h28 => ?_)
            · refine g_iconst 35 0 dMod_inject_35 rfl ?_
              refine g_istore 36 dMod_inject_36 (by decide) rfl ?_
              refine g_iload_n 38 dMod_inject_38 rfl ?_
              refine g_callS 39 [_] dMod_inject_39 cs_Mod_171 rfl rfl ⟨(Nat.le_of_ble_eq_true rfl), (Nat.le_of_ble_eq_true rfl)⟩ (Nat.le_of_ble_eq_true rfl) (ct_isEnd_n g0 g1) (Nat.le_of_ble_eq_true rfl) (Nat.le_of_ble_eq_true rfl) ?_
              rintro _ M2 ⟨rfl, hM2⟩
              rw [hM2]
              clear hM2 M2
              refine g_if_eq 42 83 dMod_inject_42 rfl (fun h42 => ?_) (fun h42 => ?_)
              · refine g_iconst 83 0 dMod_inject_83 rfl ?_
                exact g_zret 84 dMod_inject_84 rfl (by decide) ⟨rfl, rfl⟩
              · exact absurd rfl h42
            · refine g_iconst 31 1 dMod_inject_31 rfl ?_
              refine g_goto 32 36 dMod_inject_32 rfl ?_
              refine g_istore 36 dMod_inject_36 (by decide) rfl ?_
              refine g_iload_n 38 dMod_inject_38 rfl ?_
              refine g_callS 39 [_] dMod_inject_39 cs_Mod_171 rfl rfl ⟨(Nat.le_of_ble_eq_true rfl), (Nat.le_of_ble_eq_true rfl)⟩ (Nat.le_of_ble_eq_true rfl) (ct_isEnd_n g0 g1) (Nat.le_of_ble_eq_true rfl) (Nat.le_of_ble_eq_true rfl) ?_
              rintro _ M2 ⟨rfl, hM2⟩
              rw [hM2]
              clear hM2 M2
              refine g_if_eq 42 83 dMod_inject_42 rfl (fun h42 => ?_) (fun h42 => ?_)
              · refine g_iconst 83 0 dMod_inject_83 rfl ?_
                exact g_zret 84 dMod_inject_84 rfl (by decide) ⟨rfl, rfl⟩
              · exact absurd rfl h42

set_option maxRecDepth 100000 in
set_option maxHeartbeats 4000000 in
theorem cm_inject_full {X : mX} {l : Launch} {M : mM} {e : Nat} (hS : Shp M) (he : e < 2) {kd s y z : Int32} (p2 : ¬ Rcount M e < 30) : Ct X l uMod_inject (rk 1 26) [.ref 169, .int (nI e), .int kd, .int s, .int y, .int z] M (fun r M' => r = some (.int 0) ∧ M' = M) := by
  refine Ct.of (by decide) (Nat.le_of_ble_eq_true rfl) ?_
  show G X l uMod_inject (rk 1 26) 0 0 M 0 [some (.ref 169), some (.int (nI e)), some (.int kd), some (.int s), some (.int y), some (.int z), none, none, none, none] [] _
  refine g_iload_n 0 dMod_inject_0 rfl ?_
  refine g_if_eq 1 31 dMod_inject_1 rfl (fun h1 => ?_) (fun h1 => ?_)
  · refine g_iconst 31 1 dMod_inject_31 rfl ?_
    refine g_goto 32 36 dMod_inject_32 rfl ?_
    refine g_istore 36 dMod_inject_36 (by decide) rfl ?_
    refine g_iload_n 38 dMod_inject_38 rfl ?_
    refine g_callS 39 [_] dMod_inject_39 cs_Mod_171 rfl rfl ⟨(Nat.le_of_ble_eq_true rfl), (Nat.le_of_ble_eq_true rfl)⟩ (Nat.le_of_ble_eq_true rfl) (ct_isEnd_y he) (Nat.le_of_ble_eq_true rfl) (Nat.le_of_ble_eq_true rfl) ?_
    rintro _ M2 ⟨rfl, hM2⟩
    rw [hM2]
    clear hM2 M2
    refine g_if_eq 42 83 dMod_inject_42 rfl (fun h42 => ?_) (fun h42 => ?_)
    · exact absurd h42 (by decide)
    · refine g_iload 45 dMod_inject_45 rfl ?_
      refine g_if_eq 47 83 dMod_inject_47 rfl (fun h47 => ?_) (fun h47 => ?_)
      · exact absurd h47 (by decide)
      · refine g_iload_n 50 dMod_inject_50 rfl ?_
        refine g_if_eq 51 60 dMod_inject_51 rfl (fun h51 => ?_) (fun h51 => ?_)
        · refine g_iload 60 dMod_inject_60 rfl ?_
          refine g_if_lt 62 83 dMod_inject_62 rfl (fun h62 => ?_) (fun h62 => ?_)
          · refine g_iconst 83 0 dMod_inject_83 rfl ?_
            exact g_zret 84 dMod_inject_84 rfl (by decide) ⟨rfl, rfl⟩
          · refine g_iload 65 dMod_inject_65 rfl ?_
            refine g_bipush 67 15 dMod_inject_67 rfl ?_
            refine g_icmp_gt 69 83 dMod_inject_69 rfl (fun h69 => ?_) (fun h69 => ?_)
            · refine g_iconst 83 0 dMod_inject_83 rfl ?_
              exact g_zret 84 dMod_inject_84 rfl (by decide) ⟨rfl, rfl⟩
            · refine g_aload_n 72 dMod_inject_72 rfl ?_
              refine g_getr 73 10 2 dMod_inject_73 fs_Mod_16 rfl hS.mod hS.R_count ?_
              refine g_iload_n 76 dMod_inject_76 rfl ?_
              refine g_ialdN 77 dMod_inject_77 hS.T_count (by omega) (by decide) ?_
              refine g_bipush 78 30 dMod_inject_78 rfl ?_
              refine g_icmp_lt 80 85 dMod_inject_80 rfl (fun h80 => ?_) (fun h80 => ?_)
              · exact absurd h80 p2
              · refine g_iconst 83 0 dMod_inject_83 rfl ?_
                exact g_zret 84 dMod_inject_84 rfl (by decide) ⟨rfl, rfl⟩
        · refine g_iload_n 54 dMod_inject_54 rfl ?_
          refine g_bipush 55 7 dMod_inject_55 rfl ?_
          refine g_icmp_ne 57 72 dMod_inject_57 rfl (fun h57 => ?_) (fun h57 => ?_)
          · refine g_aload_n 72 dMod_inject_72 rfl ?_
            refine g_getr 73 10 2 dMod_inject_73 fs_Mod_16 rfl hS.mod hS.R_count ?_
            refine g_iload_n 76 dMod_inject_76 rfl ?_
            refine g_ialdN 77 dMod_inject_77 hS.T_count (by omega) (by decide) ?_
            refine g_bipush 78 30 dMod_inject_78 rfl ?_
            refine g_icmp_lt 80 85 dMod_inject_80 rfl (fun h80 => ?_) (fun h80 => ?_)
            · exact absurd h80 p2
            · refine g_iconst 83 0 dMod_inject_83 rfl ?_
              exact g_zret 84 dMod_inject_84 rfl (by decide) ⟨rfl, rfl⟩
          · refine g_iload 60 dMod_inject_60 rfl ?_
            refine g_if_lt 62 83 dMod_inject_62 rfl (fun h62 => ?_) (fun h62 => ?_)
            · refine g_iconst 83 0 dMod_inject_83 rfl ?_
              exact g_zret 84 dMod_inject_84 rfl (by decide) ⟨rfl, rfl⟩
            · refine g_iload 65 dMod_inject_65 rfl ?_
              refine g_bipush 67 15 dMod_inject_67 rfl ?_
              refine g_icmp_gt 69 83 dMod_inject_69 rfl (fun h69 => ?_) (fun h69 => ?_)
              · refine g_iconst 83 0 dMod_inject_83 rfl ?_
                exact g_zret 84 dMod_inject_84 rfl (by decide) ⟨rfl, rfl⟩
              · refine g_aload_n 72 dMod_inject_72 rfl ?_
                refine g_getr 73 10 2 dMod_inject_73 fs_Mod_16 rfl hS.mod hS.R_count ?_
                refine g_iload_n 76 dMod_inject_76 rfl ?_
                refine g_ialdN 77 dMod_inject_77 hS.T_count (by omega) (by decide) ?_
                refine g_bipush 78 30 dMod_inject_78 rfl ?_
                refine g_icmp_lt 80 85 dMod_inject_80 rfl (fun h80 => ?_) (fun h80 => ?_)
                · exact absurd h80 p2
                · refine g_iconst 83 0 dMod_inject_83 rfl ?_
                  exact g_zret 84 dMod_inject_84 rfl (by decide) ⟨rfl, rfl⟩
  · refine g_iload_n 4 dMod_inject_4 rfl ?_
    refine g_iconst 5 1 dMod_inject_5 rfl ?_
    refine g_icmp_eq 6 31 dMod_inject_6 rfl (fun h6 => ?_) (fun h6 => ?_)
    · refine g_iconst 31 1 dMod_inject_31 rfl ?_
      refine g_goto 32 36 dMod_inject_32 rfl ?_
      refine g_istore 36 dMod_inject_36 (by decide) rfl ?_
      refine g_iload_n 38 dMod_inject_38 rfl ?_
      refine g_callS 39 [_] dMod_inject_39 cs_Mod_171 rfl rfl ⟨(Nat.le_of_ble_eq_true rfl), (Nat.le_of_ble_eq_true rfl)⟩ (Nat.le_of_ble_eq_true rfl) (ct_isEnd_y he) (Nat.le_of_ble_eq_true rfl) (Nat.le_of_ble_eq_true rfl) ?_
      rintro _ M2 ⟨rfl, hM2⟩
      rw [hM2]
      clear hM2 M2
      refine g_if_eq 42 83 dMod_inject_42 rfl (fun h42 => ?_) (fun h42 => ?_)
      · exact absurd h42 (by decide)
      · refine g_iload 45 dMod_inject_45 rfl ?_
        refine g_if_eq 47 83 dMod_inject_47 rfl (fun h47 => ?_) (fun h47 => ?_)
        · exact absurd h47 (by decide)
        · refine g_iload_n 50 dMod_inject_50 rfl ?_
          refine g_if_eq 51 60 dMod_inject_51 rfl (fun h51 => ?_) (fun h51 => ?_)
          · refine g_iload 60 dMod_inject_60 rfl ?_
            refine g_if_lt 62 83 dMod_inject_62 rfl (fun h62 => ?_) (fun h62 => ?_)
            · refine g_iconst 83 0 dMod_inject_83 rfl ?_
              exact g_zret 84 dMod_inject_84 rfl (by decide) ⟨rfl, rfl⟩
            · refine g_iload 65 dMod_inject_65 rfl ?_
              refine g_bipush 67 15 dMod_inject_67 rfl ?_
              refine g_icmp_gt 69 83 dMod_inject_69 rfl (fun h69 => ?_) (fun h69 => ?_)
              · refine g_iconst 83 0 dMod_inject_83 rfl ?_
                exact g_zret 84 dMod_inject_84 rfl (by decide) ⟨rfl, rfl⟩
              · refine g_aload_n 72 dMod_inject_72 rfl ?_
                refine g_getr 73 10 2 dMod_inject_73 fs_Mod_16 rfl hS.mod hS.R_count ?_
                refine g_iload_n 76 dMod_inject_76 rfl ?_
                refine g_ialdN 77 dMod_inject_77 hS.T_count (by omega) (by decide) ?_
                refine g_bipush 78 30 dMod_inject_78 rfl ?_
                refine g_icmp_lt 80 85 dMod_inject_80 rfl (fun h80 => ?_) (fun h80 => ?_)
                · exact absurd h80 p2
                · refine g_iconst 83 0 dMod_inject_83 rfl ?_
                  exact g_zret 84 dMod_inject_84 rfl (by decide) ⟨rfl, rfl⟩
          · refine g_iload_n 54 dMod_inject_54 rfl ?_
            refine g_bipush 55 7 dMod_inject_55 rfl ?_
            refine g_icmp_ne 57 72 dMod_inject_57 rfl (fun h57 => ?_) (fun h57 => ?_)
            · refine g_aload_n 72 dMod_inject_72 rfl ?_
              refine g_getr 73 10 2 dMod_inject_73 fs_Mod_16 rfl hS.mod hS.R_count ?_
              refine g_iload_n 76 dMod_inject_76 rfl ?_
              refine g_ialdN 77 dMod_inject_77 hS.T_count (by omega) (by decide) ?_
              refine g_bipush 78 30 dMod_inject_78 rfl ?_
              refine g_icmp_lt 80 85 dMod_inject_80 rfl (fun h80 => ?_) (fun h80 => ?_)
              · exact absurd h80 p2
              · refine g_iconst 83 0 dMod_inject_83 rfl ?_
                exact g_zret 84 dMod_inject_84 rfl (by decide) ⟨rfl, rfl⟩
            · refine g_iload 60 dMod_inject_60 rfl ?_
              refine g_if_lt 62 83 dMod_inject_62 rfl (fun h62 => ?_) (fun h62 => ?_)
              · refine g_iconst 83 0 dMod_inject_83 rfl ?_
                exact g_zret 84 dMod_inject_84 rfl (by decide) ⟨rfl, rfl⟩
              · refine g_iload 65 dMod_inject_65 rfl ?_
                refine g_bipush 67 15 dMod_inject_67 rfl ?_
                refine g_icmp_gt 69 83 dMod_inject_69 rfl (fun h69 => ?_) (fun h69 => ?_)
                · refine g_iconst 83 0 dMod_inject_83 rfl ?_
                  exact g_zret 84 dMod_inject_84 rfl (by decide) ⟨rfl, rfl⟩
                · refine g_aload_n 72 dMod_inject_72 rfl ?_
                  refine g_getr 73 10 2 dMod_inject_73 fs_Mod_16 rfl hS.mod hS.R_count ?_
                  refine g_iload_n 76 dMod_inject_76 rfl ?_
                  refine g_ialdN 77 dMod_inject_77 hS.T_count (by omega) (by decide) ?_
                  refine g_bipush 78 30 dMod_inject_78 rfl ?_
                  refine g_icmp_lt 80 85 dMod_inject_80 rfl (fun h80 => ?_) (fun h80 => ?_)
                  · exact absurd h80 p2
                  · refine g_iconst 83 0 dMod_inject_83 rfl ?_
                    exact g_zret 84 dMod_inject_84 rfl (by decide) ⟨rfl, rfl⟩
    · refine g_iload_n 9 dMod_inject_9 rfl ?_
      refine g_iconst 10 3 dMod_inject_10 rfl ?_
      refine g_icmp_eq 11 31 dMod_inject_11 rfl (fun h11 => ?_) (fun h11 => ?_)
      · refine g_iconst 31 1 dMod_inject_31 rfl ?_
        refine g_goto 32 36 dMod_inject_32 rfl ?_
        refine g_istore 36 dMod_inject_36 (by decide) rfl ?_
        refine g_iload_n 38 dMod_inject_38 rfl ?_
        refine g_callS 39 [_] dMod_inject_39 cs_Mod_171 rfl rfl ⟨(Nat.le_of_ble_eq_true rfl), (Nat.le_of_ble_eq_true rfl)⟩ (Nat.le_of_ble_eq_true rfl) (ct_isEnd_y he) (Nat.le_of_ble_eq_true rfl) (Nat.le_of_ble_eq_true rfl) ?_
        rintro _ M2 ⟨rfl, hM2⟩
        rw [hM2]
        clear hM2 M2
        refine g_if_eq 42 83 dMod_inject_42 rfl (fun h42 => ?_) (fun h42 => ?_)
        · exact absurd h42 (by decide)
        · refine g_iload 45 dMod_inject_45 rfl ?_
          refine g_if_eq 47 83 dMod_inject_47 rfl (fun h47 => ?_) (fun h47 => ?_)
          · exact absurd h47 (by decide)
          · refine g_iload_n 50 dMod_inject_50 rfl ?_
            refine g_if_eq 51 60 dMod_inject_51 rfl (fun h51 => ?_) (fun h51 => ?_)
            · refine g_iload 60 dMod_inject_60 rfl ?_
              refine g_if_lt 62 83 dMod_inject_62 rfl (fun h62 => ?_) (fun h62 => ?_)
              · refine g_iconst 83 0 dMod_inject_83 rfl ?_
                exact g_zret 84 dMod_inject_84 rfl (by decide) ⟨rfl, rfl⟩
              · refine g_iload 65 dMod_inject_65 rfl ?_
                refine g_bipush 67 15 dMod_inject_67 rfl ?_
                refine g_icmp_gt 69 83 dMod_inject_69 rfl (fun h69 => ?_) (fun h69 => ?_)
                · refine g_iconst 83 0 dMod_inject_83 rfl ?_
                  exact g_zret 84 dMod_inject_84 rfl (by decide) ⟨rfl, rfl⟩
                · refine g_aload_n 72 dMod_inject_72 rfl ?_
                  refine g_getr 73 10 2 dMod_inject_73 fs_Mod_16 rfl hS.mod hS.R_count ?_
                  refine g_iload_n 76 dMod_inject_76 rfl ?_
                  refine g_ialdN 77 dMod_inject_77 hS.T_count (by omega) (by decide) ?_
                  refine g_bipush 78 30 dMod_inject_78 rfl ?_
                  refine g_icmp_lt 80 85 dMod_inject_80 rfl (fun h80 => ?_) (fun h80 => ?_)
                  · exact absurd h80 p2
                  · refine g_iconst 83 0 dMod_inject_83 rfl ?_
                    exact g_zret 84 dMod_inject_84 rfl (by decide) ⟨rfl, rfl⟩
            · refine g_iload_n 54 dMod_inject_54 rfl ?_
              refine g_bipush 55 7 dMod_inject_55 rfl ?_
              refine g_icmp_ne 57 72 dMod_inject_57 rfl (fun h57 => ?_) (fun h57 => ?_)
              · refine g_aload_n 72 dMod_inject_72 rfl ?_
                refine g_getr 73 10 2 dMod_inject_73 fs_Mod_16 rfl hS.mod hS.R_count ?_
                refine g_iload_n 76 dMod_inject_76 rfl ?_
                refine g_ialdN 77 dMod_inject_77 hS.T_count (by omega) (by decide) ?_
                refine g_bipush 78 30 dMod_inject_78 rfl ?_
                refine g_icmp_lt 80 85 dMod_inject_80 rfl (fun h80 => ?_) (fun h80 => ?_)
                · exact absurd h80 p2
                · refine g_iconst 83 0 dMod_inject_83 rfl ?_
                  exact g_zret 84 dMod_inject_84 rfl (by decide) ⟨rfl, rfl⟩
              · refine g_iload 60 dMod_inject_60 rfl ?_
                refine g_if_lt 62 83 dMod_inject_62 rfl (fun h62 => ?_) (fun h62 => ?_)
                · refine g_iconst 83 0 dMod_inject_83 rfl ?_
                  exact g_zret 84 dMod_inject_84 rfl (by decide) ⟨rfl, rfl⟩
                · refine g_iload 65 dMod_inject_65 rfl ?_
                  refine g_bipush 67 15 dMod_inject_67 rfl ?_
                  refine g_icmp_gt 69 83 dMod_inject_69 rfl (fun h69 => ?_) (fun h69 => ?_)
                  · refine g_iconst 83 0 dMod_inject_83 rfl ?_
                    exact g_zret 84 dMod_inject_84 rfl (by decide) ⟨rfl, rfl⟩
                  · refine g_aload_n 72 dMod_inject_72 rfl ?_
                    refine g_getr 73 10 2 dMod_inject_73 fs_Mod_16 rfl hS.mod hS.R_count ?_
                    refine g_iload_n 76 dMod_inject_76 rfl ?_
                    refine g_ialdN 77 dMod_inject_77 hS.T_count (by omega) (by decide) ?_
                    refine g_bipush 78 30 dMod_inject_78 rfl ?_
                    refine g_icmp_lt 80 85 dMod_inject_80 rfl (fun h80 => ?_) (fun h80 => ?_)
                    · exact absurd h80 p2
                    · refine g_iconst 83 0 dMod_inject_83 rfl ?_
                      exact g_zret 84 dMod_inject_84 rfl (by decide) ⟨rfl, rfl⟩
      · refine g_iload_n 14 dMod_inject_14 rfl ?_
        refine g_iconst 15 4 dMod_inject_15 rfl ?_
        refine g_icmp_eq 16 31 dMod_inject_16 rfl (fun h16 => ?_) (fun h16 => ?_)
        · refine g_iconst 31 1 dMod_inject_31 rfl ?_
          refine g_goto 32 36 dMod_inject_32 rfl ?_
          refine g_istore 36 dMod_inject_36 (by decide) rfl ?_
          refine g_iload_n 38 dMod_inject_38 rfl ?_
          refine g_callS 39 [_] dMod_inject_39 cs_Mod_171 rfl rfl ⟨(Nat.le_of_ble_eq_true rfl), (Nat.le_of_ble_eq_true rfl)⟩ (Nat.le_of_ble_eq_true rfl) (ct_isEnd_y he) (Nat.le_of_ble_eq_true rfl) (Nat.le_of_ble_eq_true rfl) ?_
          rintro _ M2 ⟨rfl, hM2⟩
          rw [hM2]
          clear hM2 M2
          refine g_if_eq 42 83 dMod_inject_42 rfl (fun h42 => ?_) (fun h42 => ?_)
          · exact absurd h42 (by decide)
          · refine g_iload 45 dMod_inject_45 rfl ?_
            refine g_if_eq 47 83 dMod_inject_47 rfl (fun h47 => ?_) (fun h47 => ?_)
            · exact absurd h47 (by decide)
            · refine g_iload_n 50 dMod_inject_50 rfl ?_
              refine g_if_eq 51 60 dMod_inject_51 rfl (fun h51 => ?_) (fun h51 => ?_)
              · refine g_iload 60 dMod_inject_60 rfl ?_
                refine g_if_lt 62 83 dMod_inject_62 rfl (fun h62 => ?_) (fun h62 => ?_)
                · refine g_iconst 83 0 dMod_inject_83 rfl ?_
                  exact g_zret 84 dMod_inject_84 rfl (by decide) ⟨rfl, rfl⟩
                · refine g_iload 65 dMod_inject_65 rfl ?_
                  refine g_bipush 67 15 dMod_inject_67 rfl ?_
                  refine g_icmp_gt 69 83 dMod_inject_69 rfl (fun h69 => ?_) (fun h69 => ?_)
                  · refine g_iconst 83 0 dMod_inject_83 rfl ?_
                    exact g_zret 84 dMod_inject_84 rfl (by decide) ⟨rfl, rfl⟩
                  · refine g_aload_n 72 dMod_inject_72 rfl ?_
                    refine g_getr 73 10 2 dMod_inject_73 fs_Mod_16 rfl hS.mod hS.R_count ?_
                    refine g_iload_n 76 dMod_inject_76 rfl ?_
                    refine g_ialdN 77 dMod_inject_77 hS.T_count (by omega) (by decide) ?_
                    refine g_bipush 78 30 dMod_inject_78 rfl ?_
                    refine g_icmp_lt 80 85 dMod_inject_80 rfl (fun h80 => ?_) (fun h80 => ?_)
                    · exact absurd h80 p2
                    · refine g_iconst 83 0 dMod_inject_83 rfl ?_
                      exact g_zret 84 dMod_inject_84 rfl (by decide) ⟨rfl, rfl⟩
              · refine g_iload_n 54 dMod_inject_54 rfl ?_
                refine g_bipush 55 7 dMod_inject_55 rfl ?_
                refine g_icmp_ne 57 72 dMod_inject_57 rfl (fun h57 => ?_) (fun h57 => ?_)
                · refine g_aload_n 72 dMod_inject_72 rfl ?_
                  refine g_getr 73 10 2 dMod_inject_73 fs_Mod_16 rfl hS.mod hS.R_count ?_
                  refine g_iload_n 76 dMod_inject_76 rfl ?_
                  refine g_ialdN 77 dMod_inject_77 hS.T_count (by omega) (by decide) ?_
                  refine g_bipush 78 30 dMod_inject_78 rfl ?_
                  refine g_icmp_lt 80 85 dMod_inject_80 rfl (fun h80 => ?_) (fun h80 => ?_)
                  · exact absurd h80 p2
                  · refine g_iconst 83 0 dMod_inject_83 rfl ?_
                    exact g_zret 84 dMod_inject_84 rfl (by decide) ⟨rfl, rfl⟩
                · refine g_iload 60 dMod_inject_60 rfl ?_
                  refine g_if_lt 62 83 dMod_inject_62 rfl (fun h62 => ?_) (fun h62 => ?_)
                  · refine g_iconst 83 0 dMod_inject_83 rfl ?_
                    exact g_zret 84 dMod_inject_84 rfl (by decide) ⟨rfl, rfl⟩
                  · refine g_iload 65 dMod_inject_65 rfl ?_
                    refine g_bipush 67 15 dMod_inject_67 rfl ?_
                    refine g_icmp_gt 69 83 dMod_inject_69 rfl (fun h69 => ?_) (fun h69 => ?_)
                    · refine g_iconst 83 0 dMod_inject_83 rfl ?_
                      exact g_zret 84 dMod_inject_84 rfl (by decide) ⟨rfl, rfl⟩
                    · refine g_aload_n 72 dMod_inject_72 rfl ?_
                      refine g_getr 73 10 2 dMod_inject_73 fs_Mod_16 rfl hS.mod hS.R_count ?_
                      refine g_iload_n 76 dMod_inject_76 rfl ?_
                      refine g_ialdN 77 dMod_inject_77 hS.T_count (by omega) (by decide) ?_
                      refine g_bipush 78 30 dMod_inject_78 rfl ?_
                      refine g_icmp_lt 80 85 dMod_inject_80 rfl (fun h80 => ?_) (fun h80 => ?_)
                      · exact absurd h80 p2
                      · refine g_iconst 83 0 dMod_inject_83 rfl ?_
                        exact g_zret 84 dMod_inject_84 rfl (by decide) ⟨rfl, rfl⟩
        · refine g_iload_n 19 dMod_inject_19 rfl ?_
          refine g_bipush 20 7 dMod_inject_20 rfl ?_
          refine g_icmp_eq 22 31 dMod_inject_22 rfl (fun h22 => ?_) (fun h22 => ?_)
          · refine g_iconst 31 1 dMod_inject_31 rfl ?_
            refine g_goto 32 36 dMod_inject_32 rfl ?_
            refine g_istore 36 dMod_inject_36 (by decide) rfl ?_
            refine g_iload_n 38 dMod_inject_38 rfl ?_
            refine g_callS 39 [_] dMod_inject_39 cs_Mod_171 rfl rfl ⟨(Nat.le_of_ble_eq_true rfl), (Nat.le_of_ble_eq_true rfl)⟩ (Nat.le_of_ble_eq_true rfl) (ct_isEnd_y he) (Nat.le_of_ble_eq_true rfl) (Nat.le_of_ble_eq_true rfl) ?_
            rintro _ M2 ⟨rfl, hM2⟩
            rw [hM2]
            clear hM2 M2
            refine g_if_eq 42 83 dMod_inject_42 rfl (fun h42 => ?_) (fun h42 => ?_)
            · exact absurd h42 (by decide)
            · refine g_iload 45 dMod_inject_45 rfl ?_
              refine g_if_eq 47 83 dMod_inject_47 rfl (fun h47 => ?_) (fun h47 => ?_)
              · exact absurd h47 (by decide)
              · refine g_iload_n 50 dMod_inject_50 rfl ?_
                refine g_if_eq 51 60 dMod_inject_51 rfl (fun h51 => ?_) (fun h51 => ?_)
                · refine g_iload 60 dMod_inject_60 rfl ?_
                  refine g_if_lt 62 83 dMod_inject_62 rfl (fun h62 => ?_) (fun h62 => ?_)
                  · refine g_iconst 83 0 dMod_inject_83 rfl ?_
                    exact g_zret 84 dMod_inject_84 rfl (by decide) ⟨rfl, rfl⟩
                  · refine g_iload 65 dMod_inject_65 rfl ?_
                    refine g_bipush 67 15 dMod_inject_67 rfl ?_
                    refine g_icmp_gt 69 83 dMod_inject_69 rfl (fun h69 => ?_) (fun h69 => ?_)
                    · refine g_iconst 83 0 dMod_inject_83 rfl ?_
                      exact g_zret 84 dMod_inject_84 rfl (by decide) ⟨rfl, rfl⟩
                    · refine g_aload_n 72 dMod_inject_72 rfl ?_
                      refine g_getr 73 10 2 dMod_inject_73 fs_Mod_16 rfl hS.mod hS.R_count ?_
                      refine g_iload_n 76 dMod_inject_76 rfl ?_
                      refine g_ialdN 77 dMod_inject_77 hS.T_count (by omega) (by decide) ?_
                      refine g_bipush 78 30 dMod_inject_78 rfl ?_
                      refine g_icmp_lt 80 85 dMod_inject_80 rfl (fun h80 => ?_) (fun h80 => ?_)
                      · exact absurd h80 p2
                      · refine g_iconst 83 0 dMod_inject_83 rfl ?_
                        exact g_zret 84 dMod_inject_84 rfl (by decide) ⟨rfl, rfl⟩
                · refine g_iload_n 54 dMod_inject_54 rfl ?_
                  refine g_bipush 55 7 dMod_inject_55 rfl ?_
                  refine g_icmp_ne 57 72 dMod_inject_57 rfl (fun h57 => ?_) (fun h57 => ?_)
                  · refine g_aload_n 72 dMod_inject_72 rfl ?_
                    refine g_getr 73 10 2 dMod_inject_73 fs_Mod_16 rfl hS.mod hS.R_count ?_
                    refine g_iload_n 76 dMod_inject_76 rfl ?_
                    refine g_ialdN 77 dMod_inject_77 hS.T_count (by omega) (by decide) ?_
                    refine g_bipush 78 30 dMod_inject_78 rfl ?_
                    refine g_icmp_lt 80 85 dMod_inject_80 rfl (fun h80 => ?_) (fun h80 => ?_)
                    · exact absurd h80 p2
                    · refine g_iconst 83 0 dMod_inject_83 rfl ?_
                      exact g_zret 84 dMod_inject_84 rfl (by decide) ⟨rfl, rfl⟩
                  · refine g_iload 60 dMod_inject_60 rfl ?_
                    refine g_if_lt 62 83 dMod_inject_62 rfl (fun h62 => ?_) (fun h62 => ?_)
                    · refine g_iconst 83 0 dMod_inject_83 rfl ?_
                      exact g_zret 84 dMod_inject_84 rfl (by decide) ⟨rfl, rfl⟩
                    · refine g_iload 65 dMod_inject_65 rfl ?_
                      refine g_bipush 67 15 dMod_inject_67 rfl ?_
                      refine g_icmp_gt 69 83 dMod_inject_69 rfl (fun h69 => ?_) (fun h69 => ?_)
                      · refine g_iconst 83 0 dMod_inject_83 rfl ?_
                        exact g_zret 84 dMod_inject_84 rfl (by decide) ⟨rfl, rfl⟩
                      · refine g_aload_n 72 dMod_inject_72 rfl ?_
                        refine g_getr 73 10 2 dMod_inject_73 fs_Mod_16 rfl hS.mod hS.R_count ?_
                        refine g_iload_n 76 dMod_inject_76 rfl ?_
                        refine g_ialdN 77 dMod_inject_77 hS.T_count (by omega) (by decide) ?_
                        refine g_bipush 78 30 dMod_inject_78 rfl ?_
                        refine g_icmp_lt 80 85 dMod_inject_80 rfl (fun h80 => ?_) (fun h80 => ?_)
                        · exact absurd h80 p2
                        · refine g_iconst 83 0 dMod_inject_83 rfl ?_
                          exact g_zret 84 dMod_inject_84 rfl (by decide) ⟨rfl, rfl⟩
          · refine g_iload_n 25 dMod_inject_25 rfl ?_
            refine g_bipush 26 8 dMod_inject_26 rfl ?_
            refine g_icmp_ne 28 35 dMod_inject_28 rfl (fun h28 => ?_) (fun h28 => ?_)
            · refine g_iconst 35 0 dMod_inject_35 rfl ?_
              refine g_istore 36 dMod_inject_36 (by decide) rfl ?_
              refine g_iload_n 38 dMod_inject_38 rfl ?_
              refine g_callS 39 [_] dMod_inject_39 cs_Mod_171 rfl rfl ⟨(Nat.le_of_ble_eq_true rfl), (Nat.le_of_ble_eq_true rfl)⟩ (Nat.le_of_ble_eq_true rfl) (ct_isEnd_y he) (Nat.le_of_ble_eq_true rfl) (Nat.le_of_ble_eq_true rfl) ?_
              rintro _ M2 ⟨rfl, hM2⟩
              rw [hM2]
              clear hM2 M2
              refine g_if_eq 42 83 dMod_inject_42 rfl (fun h42 => ?_) (fun h42 => ?_)
              · exact absurd h42 (by decide)
              · refine g_iload 45 dMod_inject_45 rfl ?_
                refine g_if_eq 47 83 dMod_inject_47 rfl (fun h47 => ?_) (fun h47 => ?_)
                · refine g_iconst 83 0 dMod_inject_83 rfl ?_
                  exact g_zret 84 dMod_inject_84 rfl (by decide) ⟨rfl, rfl⟩
                · exact absurd rfl h47
            · refine g_iconst 31 1 dMod_inject_31 rfl ?_
              refine g_goto 32 36 dMod_inject_32 rfl ?_
              refine g_istore 36 dMod_inject_36 (by decide) rfl ?_
              refine g_iload_n 38 dMod_inject_38 rfl ?_
              refine g_callS 39 [_] dMod_inject_39 cs_Mod_171 rfl rfl ⟨(Nat.le_of_ble_eq_true rfl), (Nat.le_of_ble_eq_true rfl)⟩ (Nat.le_of_ble_eq_true rfl) (ct_isEnd_y he) (Nat.le_of_ble_eq_true rfl) (Nat.le_of_ble_eq_true rfl) ?_
              rintro _ M2 ⟨rfl, hM2⟩
              rw [hM2]
              clear hM2 M2
              refine g_if_eq 42 83 dMod_inject_42 rfl (fun h42 => ?_) (fun h42 => ?_)
              · exact absurd h42 (by decide)
              · refine g_iload 45 dMod_inject_45 rfl ?_
                refine g_if_eq 47 83 dMod_inject_47 rfl (fun h47 => ?_) (fun h47 => ?_)
                · exact absurd h47 (by decide)
                · refine g_iload_n 50 dMod_inject_50 rfl ?_
                  refine g_if_eq 51 60 dMod_inject_51 rfl (fun h51 => ?_) (fun h51 => ?_)
                  · refine g_iload 60 dMod_inject_60 rfl ?_
                    refine g_if_lt 62 83 dMod_inject_62 rfl (fun h62 => ?_) (fun h62 => ?_)
                    · refine g_iconst 83 0 dMod_inject_83 rfl ?_
                      exact g_zret 84 dMod_inject_84 rfl (by decide) ⟨rfl, rfl⟩
                    · refine g_iload 65 dMod_inject_65 rfl ?_
                      refine g_bipush 67 15 dMod_inject_67 rfl ?_
                      refine g_icmp_gt 69 83 dMod_inject_69 rfl (fun h69 => ?_) (fun h69 => ?_)
                      · refine g_iconst 83 0 dMod_inject_83 rfl ?_
                        exact g_zret 84 dMod_inject_84 rfl (by decide) ⟨rfl, rfl⟩
                      · refine g_aload_n 72 dMod_inject_72 rfl ?_
                        refine g_getr 73 10 2 dMod_inject_73 fs_Mod_16 rfl hS.mod hS.R_count ?_
                        refine g_iload_n 76 dMod_inject_76 rfl ?_
                        refine g_ialdN 77 dMod_inject_77 hS.T_count (by omega) (by decide) ?_
                        refine g_bipush 78 30 dMod_inject_78 rfl ?_
                        refine g_icmp_lt 80 85 dMod_inject_80 rfl (fun h80 => ?_) (fun h80 => ?_)
                        · exact absurd h80 p2
                        · refine g_iconst 83 0 dMod_inject_83 rfl ?_
                          exact g_zret 84 dMod_inject_84 rfl (by decide) ⟨rfl, rfl⟩
                  · refine g_iload_n 54 dMod_inject_54 rfl ?_
                    refine g_bipush 55 7 dMod_inject_55 rfl ?_
                    refine g_icmp_ne 57 72 dMod_inject_57 rfl (fun h57 => ?_) (fun h57 => ?_)
                    · refine g_aload_n 72 dMod_inject_72 rfl ?_
                      refine g_getr 73 10 2 dMod_inject_73 fs_Mod_16 rfl hS.mod hS.R_count ?_
                      refine g_iload_n 76 dMod_inject_76 rfl ?_
                      refine g_ialdN 77 dMod_inject_77 hS.T_count (by omega) (by decide) ?_
                      refine g_bipush 78 30 dMod_inject_78 rfl ?_
                      refine g_icmp_lt 80 85 dMod_inject_80 rfl (fun h80 => ?_) (fun h80 => ?_)
                      · exact absurd h80 p2
                      · refine g_iconst 83 0 dMod_inject_83 rfl ?_
                        exact g_zret 84 dMod_inject_84 rfl (by decide) ⟨rfl, rfl⟩
                    · refine g_iload 60 dMod_inject_60 rfl ?_
                      refine g_if_lt 62 83 dMod_inject_62 rfl (fun h62 => ?_) (fun h62 => ?_)
                      · refine g_iconst 83 0 dMod_inject_83 rfl ?_
                        exact g_zret 84 dMod_inject_84 rfl (by decide) ⟨rfl, rfl⟩
                      · refine g_iload 65 dMod_inject_65 rfl ?_
                        refine g_bipush 67 15 dMod_inject_67 rfl ?_
                        refine g_icmp_gt 69 83 dMod_inject_69 rfl (fun h69 => ?_) (fun h69 => ?_)
                        · refine g_iconst 83 0 dMod_inject_83 rfl ?_
                          exact g_zret 84 dMod_inject_84 rfl (by decide) ⟨rfl, rfl⟩
                        · refine g_aload_n 72 dMod_inject_72 rfl ?_
                          refine g_getr 73 10 2 dMod_inject_73 fs_Mod_16 rfl hS.mod hS.R_count ?_
                          refine g_iload_n 76 dMod_inject_76 rfl ?_
                          refine g_ialdN 77 dMod_inject_77 hS.T_count (by omega) (by decide) ?_
                          refine g_bipush 78 30 dMod_inject_78 rfl ?_
                          refine g_icmp_lt 80 85 dMod_inject_80 rfl (fun h80 => ?_) (fun h80 => ?_)
                          · exact absurd h80 p2
                          · refine g_iconst 83 0 dMod_inject_83 rfl ?_
                            exact g_zret 84 dMod_inject_84 rfl (by decide) ⟨rfl, rfl⟩

set_option maxRecDepth 100000 in
set_option maxHeartbeats 4000000 in
theorem cm_inject_bad {X : mX} {l : Launch} {M : mM} {e : Nat} (hS : Shp M) (he : e < 2) {kd s y z : Int32} (hk : ¬ kd = 0 ∧ ¬ kd = 1 ∧ ¬ kd = 3 ∧ ¬ kd = 4 ∧ ¬ kd = 7 ∧ ¬ kd = 8) : Ct X l uMod_inject (rk 1 26) [.ref 169, .int (nI e), .int kd, .int s, .int y, .int z] M (fun r M' => r = some (.int 0) ∧ M' = M) := by
  refine Ct.of (by decide) (Nat.le_of_ble_eq_true rfl) ?_
  show G X l uMod_inject (rk 1 26) 0 0 M 0 [some (.ref 169), some (.int (nI e)), some (.int kd), some (.int s), some (.int y), some (.int z), none, none, none, none] [] _
  refine g_iload_n 0 dMod_inject_0 rfl ?_
  refine g_if_eq 1 31 dMod_inject_1 rfl (fun h1 => ?_) (fun h1 => ?_)
  · exact absurd h1 hk.1
  · refine g_iload_n 4 dMod_inject_4 rfl ?_
    refine g_iconst 5 1 dMod_inject_5 rfl ?_
    refine g_icmp_eq 6 31 dMod_inject_6 rfl (fun h6 => ?_) (fun h6 => ?_)
    · exact absurd h6 hk.2.1
    · refine g_iload_n 9 dMod_inject_9 rfl ?_
      refine g_iconst 10 3 dMod_inject_10 rfl ?_
      refine g_icmp_eq 11 31 dMod_inject_11 rfl (fun h11 => ?_) (fun h11 => ?_)
      · exact absurd h11 hk.2.2.1
      · refine g_iload_n 14 dMod_inject_14 rfl ?_
        refine g_iconst 15 4 dMod_inject_15 rfl ?_
        refine g_icmp_eq 16 31 dMod_inject_16 rfl (fun h16 => ?_) (fun h16 => ?_)
        · exact absurd h16 hk.2.2.2.1
        · refine g_iload_n 19 dMod_inject_19 rfl ?_
          refine g_bipush 20 7 dMod_inject_20 rfl ?_
          refine g_icmp_eq 22 31 dMod_inject_22 rfl (fun h22 => ?_) (fun h22 => ?_)
          · exact absurd h22 hk.2.2.2.2.1
          · refine g_iload_n 25 dMod_inject_25 rfl ?_
            refine g_bipush 26 8 dMod_inject_26 rfl ?_
            refine g_icmp_ne 28 35 dMod_inject_28 rfl (fun h28 => ?_) (fun h28 => ?_)
            · refine g_iconst 35 0 dMod_inject_35 rfl ?_
              refine g_istore 36 dMod_inject_36 (by decide) rfl ?_
              refine g_iload_n 38 dMod_inject_38 rfl ?_
              refine g_callS 39 [_] dMod_inject_39 cs_Mod_171 rfl rfl ⟨(Nat.le_of_ble_eq_true rfl), (Nat.le_of_ble_eq_true rfl)⟩ (Nat.le_of_ble_eq_true rfl) (ct_isEnd_y he) (Nat.le_of_ble_eq_true rfl) (Nat.le_of_ble_eq_true rfl) ?_
              rintro _ M2 ⟨rfl, hM2⟩
              rw [hM2]
              clear hM2 M2
              refine g_if_eq 42 83 dMod_inject_42 rfl (fun h42 => ?_) (fun h42 => ?_)
              · exact absurd h42 (by decide)
              · refine g_iload 45 dMod_inject_45 rfl ?_
                refine g_if_eq 47 83 dMod_inject_47 rfl (fun h47 => ?_) (fun h47 => ?_)
                · refine g_iconst 83 0 dMod_inject_83 rfl ?_
                  exact g_zret 84 dMod_inject_84 rfl (by decide) ⟨rfl, rfl⟩
                · exact absurd rfl h47
            · exact absurd h28 hk.2.2.2.2.2

set_option maxRecDepth 100000 in
set_option maxHeartbeats 4000000 in
theorem cm_inject_0r {X : mX} {l : Launch} {M : mM} {e : Nat} (hS : Shp M) (he : e < 2) {s y z : Int32} (hx : y < 0 ∨ 15 < y) : Ct X l uMod_inject (rk 1 26) [.ref 169, .int (nI e), .int 0, .int s, .int y, .int z] M (fun r M' => r = some (.int 0) ∧ M' = M) := by
  refine Ct.of (by decide) (Nat.le_of_ble_eq_true rfl) ?_
  show G X l uMod_inject (rk 1 26) 0 0 M 0 [some (.ref 169), some (.int (nI e)), some (.int 0), some (.int s), some (.int y), some (.int z), none, none, none, none] [] _
  refine g_iload_n 0 dMod_inject_0 rfl ?_
  refine g_if_eq 1 31 dMod_inject_1 rfl (fun h1 => ?_) (fun h1 => ?_)
  · refine g_iconst 31 1 dMod_inject_31 rfl ?_
    refine g_goto 32 36 dMod_inject_32 rfl ?_
    refine g_istore 36 dMod_inject_36 (by decide) rfl ?_
    refine g_iload_n 38 dMod_inject_38 rfl ?_
    refine g_callS 39 [_] dMod_inject_39 cs_Mod_171 rfl rfl ⟨(Nat.le_of_ble_eq_true rfl), (Nat.le_of_ble_eq_true rfl)⟩ (Nat.le_of_ble_eq_true rfl) (ct_isEnd_y he) (Nat.le_of_ble_eq_true rfl) (Nat.le_of_ble_eq_true rfl) ?_
    rintro _ M2 ⟨rfl, hM2⟩
    rw [hM2]
    clear hM2 M2
    refine g_if_eq 42 83 dMod_inject_42 rfl (fun h42 => ?_) (fun h42 => ?_)
    · exact absurd h42 (by decide)
    · refine g_iload 45 dMod_inject_45 rfl ?_
      refine g_if_eq 47 83 dMod_inject_47 rfl (fun h47 => ?_) (fun h47 => ?_)
      · exact absurd h47 (by decide)
      · refine g_iload_n 50 dMod_inject_50 rfl ?_
        refine g_if_eq 51 60 dMod_inject_51 rfl (fun h51 => ?_) (fun h51 => ?_)
        · refine g_iload 60 dMod_inject_60 rfl ?_
          refine g_if_lt 62 83 dMod_inject_62 rfl (fun h62 => ?_) (fun h62 => ?_)
          · refine g_iconst 83 0 dMod_inject_83 rfl ?_
            exact g_zret 84 dMod_inject_84 rfl (by decide) ⟨rfl, rfl⟩
          · refine g_iload 65 dMod_inject_65 rfl ?_
            refine g_bipush 67 15 dMod_inject_67 rfl ?_
            refine g_icmp_gt 69 83 dMod_inject_69 rfl (fun h69 => ?_) (fun h69 => ?_)
            · refine g_iconst 83 0 dMod_inject_83 rfl ?_
              exact g_zret 84 dMod_inject_84 rfl (by decide) ⟨rfl, rfl⟩
            · exact absurd (hx.resolve_left h62) h69
        · exact absurd rfl h51
  · exact absurd rfl h1

set_option maxRecDepth 100000 in
set_option maxHeartbeats 4000000 in
theorem cm_inject_7r {X : mX} {l : Launch} {M : mM} {e : Nat} (hS : Shp M) (he : e < 2) {s y z : Int32} (hx : y < 0 ∨ 15 < y) : Ct X l uMod_inject (rk 1 26) [.ref 169, .int (nI e), .int 7, .int s, .int y, .int z] M (fun r M' => r = some (.int 0) ∧ M' = M) := by
  refine Ct.of (by decide) (Nat.le_of_ble_eq_true rfl) ?_
  show G X l uMod_inject (rk 1 26) 0 0 M 0 [some (.ref 169), some (.int (nI e)), some (.int 7), some (.int s), some (.int y), some (.int z), none, none, none, none] [] _
  refine g_iload_n 0 dMod_inject_0 rfl ?_
  refine g_if_eq 1 31 dMod_inject_1 rfl (fun h1 => ?_) (fun h1 => ?_)
  · exact absurd h1 (by decide)
  · refine g_iload_n 4 dMod_inject_4 rfl ?_
    refine g_iconst 5 1 dMod_inject_5 rfl ?_
    refine g_icmp_eq 6 31 dMod_inject_6 rfl (fun h6 => ?_) (fun h6 => ?_)
    · exact absurd h6 (by decide)
    · refine g_iload_n 9 dMod_inject_9 rfl ?_
      refine g_iconst 10 3 dMod_inject_10 rfl ?_
      refine g_icmp_eq 11 31 dMod_inject_11 rfl (fun h11 => ?_) (fun h11 => ?_)
      · exact absurd h11 (by decide)
      · refine g_iload_n 14 dMod_inject_14 rfl ?_
        refine g_iconst 15 4 dMod_inject_15 rfl ?_
        refine g_icmp_eq 16 31 dMod_inject_16 rfl (fun h16 => ?_) (fun h16 => ?_)
        · exact absurd h16 (by decide)
        · refine g_iload_n 19 dMod_inject_19 rfl ?_
          refine g_bipush 20 7 dMod_inject_20 rfl ?_
          refine g_icmp_eq 22 31 dMod_inject_22 rfl (fun h22 => ?_) (fun h22 => ?_)
          · refine g_iconst 31 1 dMod_inject_31 rfl ?_
            refine g_goto 32 36 dMod_inject_32 rfl ?_
            refine g_istore 36 dMod_inject_36 (by decide) rfl ?_
            refine g_iload_n 38 dMod_inject_38 rfl ?_
            refine g_callS 39 [_] dMod_inject_39 cs_Mod_171 rfl rfl ⟨(Nat.le_of_ble_eq_true rfl), (Nat.le_of_ble_eq_true rfl)⟩ (Nat.le_of_ble_eq_true rfl) (ct_isEnd_y he) (Nat.le_of_ble_eq_true rfl) (Nat.le_of_ble_eq_true rfl) ?_
            rintro _ M2 ⟨rfl, hM2⟩
            rw [hM2]
            clear hM2 M2
            refine g_if_eq 42 83 dMod_inject_42 rfl (fun h42 => ?_) (fun h42 => ?_)
            · exact absurd h42 (by decide)
            · refine g_iload 45 dMod_inject_45 rfl ?_
              refine g_if_eq 47 83 dMod_inject_47 rfl (fun h47 => ?_) (fun h47 => ?_)
              · exact absurd h47 (by decide)
              · refine g_iload_n 50 dMod_inject_50 rfl ?_
                refine g_if_eq 51 60 dMod_inject_51 rfl (fun h51 => ?_) (fun h51 => ?_)
                · exact absurd h51 (by decide)
                · refine g_iload_n 54 dMod_inject_54 rfl ?_
                  refine g_bipush 55 7 dMod_inject_55 rfl ?_
                  refine g_icmp_ne 57 72 dMod_inject_57 rfl (fun h57 => ?_) (fun h57 => ?_)
                  · exact absurd (by decide) h57
                  · refine g_iload 60 dMod_inject_60 rfl ?_
                    refine g_if_lt 62 83 dMod_inject_62 rfl (fun h62 => ?_) (fun h62 => ?_)
                    · refine g_iconst 83 0 dMod_inject_83 rfl ?_
                      exact g_zret 84 dMod_inject_84 rfl (by decide) ⟨rfl, rfl⟩
                    · refine g_iload 65 dMod_inject_65 rfl ?_
                      refine g_bipush 67 15 dMod_inject_67 rfl ?_
                      refine g_icmp_gt 69 83 dMod_inject_69 rfl (fun h69 => ?_) (fun h69 => ?_)
                      · refine g_iconst 83 0 dMod_inject_83 rfl ?_
                        exact g_zret 84 dMod_inject_84 rfl (by decide) ⟨rfl, rfl⟩
                      · exact absurd (hx.resolve_left h62) h69
          · exact absurd (by decide) h22

set_option maxRecDepth 100000 in
set_option maxHeartbeats 4000000 in
theorem ct_Link_table_m2 {X : mX} {l : Launch} {M : mM} {e : Nat} (hS : Shp M) (he : e < 2) {z : Int32} : Ct X l uLink_table (rk 1 21) [.ref 3, .int (nI e), .int z, .int (-2)] M (fun r M' => r = some (.int (if z = 0 then mI M (15 + 80 * e) 5 else mI M (20 + 80 * e) 5)) ∧ M' = M) := by
  refine Ct.of (by decide) (Nat.le_of_ble_eq_true rfl) ?_
  show G X l uLink_table (rk 1 21) 0 0 M 0 [some (.ref 3), some (.int (nI e)), some (.int z), some (.int (-2)), none, none] [] _
  refine g_aload_n 0 dLink_table_0 rfl ?_
  refine g_iload_n 1 dLink_table_1 rfl ?_
  refine g_callV 2 [_] dLink_table_2 cs_Link_128 rfl (ci := 0) rfl (by decide) hS.link rfl ⟨(Nat.le_of_ble_eq_true rfl), (Nat.le_of_ble_eq_true rfl)⟩ (Nat.le_of_ble_eq_true rfl) (ct_endOf hS he) (Nat.le_of_ble_eq_true rfl) (Nat.le_of_ble_eq_true rfl) ?_
  rintro _ M2 ⟨rfl, hM2⟩
  rw [hM2]
  clear hM2 M2
  refine g_astore 5 dLink_table_5 (by decide) rfl ?_
  refine g_aload 7 dLink_table_7 rfl ?_
  refine g_ifnull 9 dLink_table_9 ?_
  refine g_iload_n 12 dLink_table_12 rfl ?_
  refine g_bipush 13 (-2) dLink_table_13 rfl ?_
  refine g_icmp_ge 15 20 dLink_table_15 rfl (fun h15 => ?_) (fun h15 => ?_)
  · refine g_iload_n 20 dLink_table_20 rfl ?_
    refine g_if_eq 21 35 dLink_table_21 rfl (fun h21 => ?_) (fun h21 => ?_)
    · refine g_aload 35 dLink_table_35 rfl ?_
      refine g_getr 37 2 7 dLink_table_37 fs_Link_193 rfl (hS.tEnd he) (hS.rEnd7 he) ?_
      refine g_getr 40 4 0 dLink_table_40 fs_Link_197 rfl (hS.tEnc he) (hS.rEnc0 he) ?_
      refine g_astore 43 dLink_table_43 (by decide) rfl ?_
      refine g_iload_n 45 dLink_table_45 rfl ?_
      refine g_bipush 46 (-2) dLink_table_46 rfl ?_
      refine g_icmp_ne 48 57 dLink_table_48 rfl (fun h48 => ?_) (fun h48 => ?_)
      · exact absurd (by decide) h48
      · refine g_aload 51 dLink_table_51 rfl ?_
        refine g_geti 53 5 5 dLink_table_53 fs_Link_200 rfl (hS.tTabE he) ?_
        exact g_iret 56 dLink_table_56 rfl ⟨by first | (simp only [*, if_true, if_false, not_true_eq_false, not_false_eq_true, and_true, true_and, and_false, false_and, and_self, reduceIte]; done) | (simp_all []; done), rfl⟩
    · refine g_aload 24 dLink_table_24 rfl ?_
      refine g_getr 26 2 8 dLink_table_26 fs_Link_183 rfl (hS.tEnd he) (hS.rEnd8 he) ?_
      refine g_getr 29 6 0 dLink_table_29 fs_Link_187 rfl (hS.tDec he) (hS.rDec0 he) ?_
      refine g_goto 32 43 dLink_table_32 rfl ?_
      refine g_astore 43 dLink_table_43 (by decide) rfl ?_
      refine g_iload_n 45 dLink_table_45 rfl ?_
      refine g_bipush 46 (-2) dLink_table_46 rfl ?_
      refine g_icmp_ne 48 57 dLink_table_48 rfl (fun h48 => ?_) (fun h48 => ?_)
      · exact absurd (by decide) h48
      · refine g_aload 51 dLink_table_51 rfl ?_
        refine g_geti 53 5 5 dLink_table_53 fs_Link_200 rfl (hS.tTabD he) ?_
        exact g_iret 56 dLink_table_56 rfl ⟨by first | (simp only [*, if_true, if_false, not_true_eq_false, not_false_eq_true, and_true, true_and, and_false, false_and, and_self, reduceIte]; done) | (simp_all []; done), rfl⟩
  · exact absurd (by decide) h15

set_option maxRecDepth 100000 in
set_option maxHeartbeats 4000000 in
theorem ct_Link_table_m1 {X : mX} {l : Launch} {M : mM} {e : Nat} (hS : Shp M) (he : e < 2) {z : Int32} : Ct X l uLink_table (rk 1 21) [.ref 3, .int (nI e), .int z, .int (-1)] M (fun r M' => r = some (.int (if z = 0 then mI M (15 + 80 * e) 4 else mI M (20 + 80 * e) 4)) ∧ M' = M) := by
  refine Ct.of (by decide) (Nat.le_of_ble_eq_true rfl) ?_
  show G X l uLink_table (rk 1 21) 0 0 M 0 [some (.ref 3), some (.int (nI e)), some (.int z), some (.int (-1)), none, none] [] _
  refine g_aload_n 0 dLink_table_0 rfl ?_
  refine g_iload_n 1 dLink_table_1 rfl ?_
  refine g_callV 2 [_] dLink_table_2 cs_Link_128 rfl (ci := 0) rfl (by decide) hS.link rfl ⟨(Nat.le_of_ble_eq_true rfl), (Nat.le_of_ble_eq_true rfl)⟩ (Nat.le_of_ble_eq_true rfl) (ct_endOf hS he) (Nat.le_of_ble_eq_true rfl) (Nat.le_of_ble_eq_true rfl) ?_
  rintro _ M2 ⟨rfl, hM2⟩
  rw [hM2]
  clear hM2 M2
  refine g_astore 5 dLink_table_5 (by decide) rfl ?_
  refine g_aload 7 dLink_table_7 rfl ?_
  refine g_ifnull 9 dLink_table_9 ?_
  refine g_iload_n 12 dLink_table_12 rfl ?_
  refine g_bipush 13 (-2) dLink_table_13 rfl ?_
  refine g_icmp_ge 15 20 dLink_table_15 rfl (fun h15 => ?_) (fun h15 => ?_)
  · refine g_iload_n 20 dLink_table_20 rfl ?_
    refine g_if_eq 21 35 dLink_table_21 rfl (fun h21 => ?_) (fun h21 => ?_)
    · refine g_aload 35 dLink_table_35 rfl ?_
      refine g_getr 37 2 7 dLink_table_37 fs_Link_193 rfl (hS.tEnd he) (hS.rEnd7 he) ?_
      refine g_getr 40 4 0 dLink_table_40 fs_Link_197 rfl (hS.tEnc he) (hS.rEnc0 he) ?_
      refine g_astore 43 dLink_table_43 (by decide) rfl ?_
      refine g_iload_n 45 dLink_table_45 rfl ?_
      refine g_bipush 46 (-2) dLink_table_46 rfl ?_
      refine g_icmp_ne 48 57 dLink_table_48 rfl (fun h48 => ?_) (fun h48 => ?_)
      · refine g_iload_n 57 dLink_table_57 rfl ?_
        refine g_iconst 58 (-1) dLink_table_58 rfl ?_
        refine g_icmp_ne 59 68 dLink_table_59 rfl (fun h59 => ?_) (fun h59 => ?_)
        · exact absurd (by decide) h59
        · refine g_aload 62 dLink_table_62 rfl ?_
          refine g_geti 64 5 4 dLink_table_64 fs_Link_205 rfl (hS.tTabE he) ?_
          exact g_iret 67 dLink_table_67 rfl ⟨by first | (simp only [*, if_true, if_false, not_true_eq_false, not_false_eq_true, and_true, true_and, and_false, false_and, and_self, reduceIte]; done) | (simp_all []; done), rfl⟩
      · exact absurd h48 (by decide)
    · refine g_aload 24 dLink_table_24 rfl ?_
      refine g_getr 26 2 8 dLink_table_26 fs_Link_183 rfl (hS.tEnd he) (hS.rEnd8 he) ?_
      refine g_getr 29 6 0 dLink_table_29 fs_Link_187 rfl (hS.tDec he) (hS.rDec0 he) ?_
      refine g_goto 32 43 dLink_table_32 rfl ?_
      refine g_astore 43 dLink_table_43 (by decide) rfl ?_
      refine g_iload_n 45 dLink_table_45 rfl ?_
      refine g_bipush 46 (-2) dLink_table_46 rfl ?_
      refine g_icmp_ne 48 57 dLink_table_48 rfl (fun h48 => ?_) (fun h48 => ?_)
      · refine g_iload_n 57 dLink_table_57 rfl ?_
        refine g_iconst 58 (-1) dLink_table_58 rfl ?_
        refine g_icmp_ne 59 68 dLink_table_59 rfl (fun h59 => ?_) (fun h59 => ?_)
        · exact absurd (by decide) h59
        · refine g_aload 62 dLink_table_62 rfl ?_
          refine g_geti 64 5 4 dLink_table_64 fs_Link_205 rfl (hS.tTabD he) ?_
          exact g_iret 67 dLink_table_67 rfl ⟨by first | (simp only [*, if_true, if_false, not_true_eq_false, not_false_eq_true, and_true, true_and, and_false, false_and, and_self, reduceIte]; done) | (simp_all []; done), rfl⟩
      · exact absurd h48 (by decide)
  · exact absurd (by decide) h15

set_option maxRecDepth 100000 in
set_option maxHeartbeats 4000000 in
theorem ct_Link_table_hi {X : mX} {l : Launch} {M : mM} {e : Nat} (hS : Shp M) (he : e < 2) {z j : Int32} (hj : ¬ j < 0) (hc : mI M (15 + 80 * e) 3 ≤ j ∧ mI M (20 + 80 * e) 3 ≤ j) : Ct X l uLink_table (rk 1 21) [.ref 3, .int (nI e), .int z, .int j] M (fun r M' => r = some (.int 0) ∧ M' = M) := by
  refine Ct.of (by decide) (Nat.le_of_ble_eq_true rfl) ?_
  show G X l uLink_table (rk 1 21) 0 0 M 0 [some (.ref 3), some (.int (nI e)), some (.int z), some (.int j), none, none] [] _
  refine g_aload_n 0 dLink_table_0 rfl ?_
  refine g_iload_n 1 dLink_table_1 rfl ?_
  refine g_callV 2 [_] dLink_table_2 cs_Link_128 rfl (ci := 0) rfl (by decide) hS.link rfl ⟨(Nat.le_of_ble_eq_true rfl), (Nat.le_of_ble_eq_true rfl)⟩ (Nat.le_of_ble_eq_true rfl) (ct_endOf hS he) (Nat.le_of_ble_eq_true rfl) (Nat.le_of_ble_eq_true rfl) ?_
  rintro _ M2 ⟨rfl, hM2⟩
  rw [hM2]
  clear hM2 M2
  refine g_astore 5 dLink_table_5 (by decide) rfl ?_
  refine g_aload 7 dLink_table_7 rfl ?_
  refine g_ifnull 9 dLink_table_9 ?_
  refine g_iload_n 12 dLink_table_12 rfl ?_
  refine g_bipush 13 (-2) dLink_table_13 rfl ?_
  refine g_icmp_ge 15 20 dLink_table_15 rfl (fun h15 => ?_) (fun h15 => ?_)
  · refine g_iload_n 20 dLink_table_20 rfl ?_
    refine g_if_eq 21 35 dLink_table_21 rfl (fun h21 => ?_) (fun h21 => ?_)
    · refine g_aload 35 dLink_table_35 rfl ?_
      refine g_getr 37 2 7 dLink_table_37 fs_Link_193 rfl (hS.tEnd he) (hS.rEnd7 he) ?_
      refine g_getr 40 4 0 dLink_table_40 fs_Link_197 rfl (hS.tEnc he) (hS.rEnc0 he) ?_
      refine g_astore 43 dLink_table_43 (by decide) rfl ?_
      refine g_iload_n 45 dLink_table_45 rfl ?_
      refine g_bipush 46 (-2) dLink_table_46 rfl ?_
      refine g_icmp_ne 48 57 dLink_table_48 rfl (fun h48 => ?_) (fun h48 => ?_)
      · refine g_iload_n 57 dLink_table_57 rfl ?_
        refine g_iconst 58 (-1) dLink_table_58 rfl ?_
        refine g_icmp_ne 59 68 dLink_table_59 rfl (fun h59 => ?_) (fun h59 => ?_)
        · refine g_iload_n 68 dLink_table_68 rfl ?_
          refine g_aload 69 dLink_table_69 rfl ?_
          refine g_geti 71 5 3 dLink_table_71 fs_Link_208 rfl (hS.tTabE he) ?_
          refine g_icmp_ge 74 87 dLink_table_74 rfl (fun h74 => ?_) (fun h74 => ?_)
          · refine g_iconst 87 0 dLink_table_87 rfl ?_
            exact g_iret 88 dLink_table_88 rfl ⟨rfl, rfl⟩
          · first | exact absurd hc.1 h74 | exact absurd hc.2 h74
        · exact absurd (by rw [h59]; decide) hj
      · exact absurd (by rw [h48]; decide) hj
    · refine g_aload 24 dLink_table_24 rfl ?_
      refine g_getr 26 2 8 dLink_table_26 fs_Link_183 rfl (hS.tEnd he) (hS.rEnd8 he) ?_
      refine g_getr 29 6 0 dLink_table_29 fs_Link_187 rfl (hS.tDec he) (hS.rDec0 he) ?_
      refine g_goto 32 43 dLink_table_32 rfl ?_
      refine g_astore 43 dLink_table_43 (by decide) rfl ?_
      refine g_iload_n 45 dLink_table_45 rfl ?_
      refine g_bipush 46 (-2) dLink_table_46 rfl ?_
      refine g_icmp_ne 48 57 dLink_table_48 rfl (fun h48 => ?_) (fun h48 => ?_)
      · refine g_iload_n 57 dLink_table_57 rfl ?_
        refine g_iconst 58 (-1) dLink_table_58 rfl ?_
        refine g_icmp_ne 59 68 dLink_table_59 rfl (fun h59 => ?_) (fun h59 => ?_)
        · refine g_iload_n 68 dLink_table_68 rfl ?_
          refine g_aload 69 dLink_table_69 rfl ?_
          refine g_geti 71 5 3 dLink_table_71 fs_Link_208 rfl (hS.tTabD he) ?_
          refine g_icmp_ge 74 87 dLink_table_74 rfl (fun h74 => ?_) (fun h74 => ?_)
          · refine g_iconst 87 0 dLink_table_87 rfl ?_
            exact g_iret 88 dLink_table_88 rfl ⟨rfl, rfl⟩
          · first | exact absurd hc.1 h74 | exact absurd hc.2 h74
        · exact absurd (by rw [h59]; decide) hj
      · exact absurd (by rw [h48]; decide) hj
  · exact absurd (Int32.le_trans (by decide) (Int32.not_lt.mp hj)) h15

set_option maxRecDepth 100000 in
set_option maxHeartbeats 4000000 in
theorem ct_Link_table_in {X : mX} {l : Launch} {M : mM} {e : Nat} (hS : Shp M) (he : e < 2) {z : Int32} {j cE cD : Nat} (c1 : mI M (15 + 80 * e) 3 = nI cE) (c2 : mI M (20 + 80 * e) 3 = nI cD) (d1 : cE ≤ 5) (d2 : cD ≤ 5) (hj : if z = 0 then j < cE else j < cD) : Ct X l uLink_table (rk 1 21) [.ref 3, .int (nI e), .int z, .int (nI j)] M (fun r M' => r = some (.int (if z = 0 then mI M (17 + 80 * e) j else mI M (22 + 80 * e) j)) ∧ M' = M) := by
  refine Ct.of (by decide) (Nat.le_of_ble_eq_true rfl) ?_
  show G X l uLink_table (rk 1 21) 0 0 M 0 [some (.ref 3), some (.int (nI e)), some (.int z), some (.int (nI j)), none, none] [] _
  refine g_aload_n 0 dLink_table_0 rfl ?_
  refine g_iload_n 1 dLink_table_1 rfl ?_
  refine g_callV 2 [_] dLink_table_2 cs_Link_128 rfl (ci := 0) rfl (by decide) hS.link rfl ⟨(Nat.le_of_ble_eq_true rfl), (Nat.le_of_ble_eq_true rfl)⟩ (Nat.le_of_ble_eq_true rfl) (ct_endOf hS he) (Nat.le_of_ble_eq_true rfl) (Nat.le_of_ble_eq_true rfl) ?_
  rintro _ M2 ⟨rfl, hM2⟩
  rw [hM2]
  clear hM2 M2
  refine g_astore 5 dLink_table_5 (by decide) rfl ?_
  refine g_aload 7 dLink_table_7 rfl ?_
  refine g_ifnull 9 dLink_table_9 ?_
  refine g_iload_n 12 dLink_table_12 rfl ?_
  refine g_bipush 13 (-2) dLink_table_13 rfl ?_
  refine g_icmp_ge 15 20 dLink_table_15 rfl (fun h15 => ?_) (fun h15 => ?_)
  · refine g_iload_n 20 dLink_table_20 rfl ?_
    refine g_if_eq 21 35 dLink_table_21 rfl (fun h21 => ?_) (fun h21 => ?_)
    · rw [if_pos h21] at hj
      refine g_aload 35 dLink_table_35 rfl ?_
      refine g_getr 37 2 7 dLink_table_37 fs_Link_193 rfl (hS.tEnd he) (hS.rEnd7 he) ?_
      refine g_getr 40 4 0 dLink_table_40 fs_Link_197 rfl (hS.tEnc he) (hS.rEnc0 he) ?_
      refine g_astore 43 dLink_table_43 (by decide) rfl ?_
      refine g_iload_n 45 dLink_table_45 rfl ?_
      refine g_bipush 46 (-2) dLink_table_46 rfl ?_
      refine g_icmp_ne 48 57 dLink_table_48 rfl (fun h48 => ?_) (fun h48 => ?_)
      · refine g_iload_n 57 dLink_table_57 rfl ?_
        refine g_iconst 58 (-1) dLink_table_58 rfl ?_
        refine g_icmp_ne 59 68 dLink_table_59 rfl (fun h59 => ?_) (fun h59 => ?_)
        · refine g_iload_n 68 dLink_table_68 rfl ?_
          refine g_aload 69 dLink_table_69 rfl ?_
          refine g_geti 71 5 3 dLink_table_71 fs_Link_208 rfl (hS.tTabE he) ?_
          refine g_top (nI (cE)) (c1) ?_
          refine g_icmp_geN 74 87 dLink_table_74 rfl (by omega) (by omega) (fun h74 => ?_) (fun h74 => ?_)
          · exact absurd h74 (by omega)
          · refine g_aload 77 dLink_table_77 rfl ?_
            refine g_getr 79 5 1 dLink_table_79 fs_Link_209 rfl (hS.tTabE he) (hS.rTabE1 he) ?_
            refine g_iload_n 82 dLink_table_82 rfl ?_
            refine g_ialdN 83 dLink_table_83 (hS.TTEv he) (by omega) (by decide) ?_
            refine g_goto 84 88 dLink_table_84 rfl ?_
            exact g_iret 88 dLink_table_88 rfl ⟨by first | (simp only [*, if_true, if_false, not_true_eq_false, not_false_eq_true, and_true, true_and, and_false, false_and, and_self, reduceIte]; done) | (simp_all []; done), rfl⟩
        · exact absurd (by rw [h59]; decide) (nI_pos (n := j) (by omega))
      · exact absurd (by rw [h48]; decide) (nI_pos (n := j) (by omega))
    · rw [if_neg h21] at hj
      refine g_aload 24 dLink_table_24 rfl ?_
      refine g_getr 26 2 8 dLink_table_26 fs_Link_183 rfl (hS.tEnd he) (hS.rEnd8 he) ?_
      refine g_getr 29 6 0 dLink_table_29 fs_Link_187 rfl (hS.tDec he) (hS.rDec0 he) ?_
      refine g_goto 32 43 dLink_table_32 rfl ?_
      refine g_astore 43 dLink_table_43 (by decide) rfl ?_
      refine g_iload_n 45 dLink_table_45 rfl ?_
      refine g_bipush 46 (-2) dLink_table_46 rfl ?_
      refine g_icmp_ne 48 57 dLink_table_48 rfl (fun h48 => ?_) (fun h48 => ?_)
      · refine g_iload_n 57 dLink_table_57 rfl ?_
        refine g_iconst 58 (-1) dLink_table_58 rfl ?_
        refine g_icmp_ne 59 68 dLink_table_59 rfl (fun h59 => ?_) (fun h59 => ?_)
        · refine g_iload_n 68 dLink_table_68 rfl ?_
          refine g_aload 69 dLink_table_69 rfl ?_
          refine g_geti 71 5 3 dLink_table_71 fs_Link_208 rfl (hS.tTabD he) ?_
          refine g_top (nI (cD)) (c2) ?_
          refine g_icmp_geN 74 87 dLink_table_74 rfl (by omega) (by omega) (fun h74 => ?_) (fun h74 => ?_)
          · exact absurd h74 (by omega)
          · refine g_aload 77 dLink_table_77 rfl ?_
            refine g_getr 79 5 1 dLink_table_79 fs_Link_209 rfl (hS.tTabD he) (hS.rTabD1 he) ?_
            refine g_iload_n 82 dLink_table_82 rfl ?_
            refine g_ialdN 83 dLink_table_83 (hS.TTDv he) (by omega) (by decide) ?_
            refine g_goto 84 88 dLink_table_84 rfl ?_
            exact g_iret 88 dLink_table_88 rfl ⟨by first | (simp only [*, if_true, if_false, not_true_eq_false, not_false_eq_true, and_true, true_and, and_false, false_and, and_self, reduceIte]; done) | (simp_all []; done), rfl⟩
        · exact absurd (by rw [h59]; decide) (nI_pos (n := j) (by omega))
      · exact absurd (by rw [h48]; decide) (nI_pos (n := j) (by omega))
  · exact absurd (Int32.le_trans (b := 0) (by decide) (nI_pos' (by have : j < 5 := (by split at hj <;> omega); omega))) h15

def suA (M : mM) (t : Nat) : Nat → Int32
  | 0 => 0
  | n + 1 => suA M t n + sizeZ (RtableValue M (6 * t + n))
set_option maxRecDepth 100000 in
set_option maxHeartbeats 4000000 in
theorem g_sum {X : mX} {l : Launch} {M : mM} {t N : Nat} {Q : Option Value → mM → Prop} (hS : Shp M) (ht : t < 4) (hN : Rsize M t = nI N) (hN5 : N ≤ 6) (hq : Q (some (.int (suA M t N))) M) : ∀ (j n : Nat), n + j = N → G X l uMod_sum (rk 1 20) 0 0 M 4 [some (.ref 169), some (.int (nI t)), some (.int (suA M t n)), some (.int (nI n))] [] Q
  | 0, n, hn => by
    have hn : n = N := by omega
    subst hn
    refine g_iload_n 4 dMod_sum_4 rfl ?_
    refine g_aload_n 5 dMod_sum_5 rfl ?_
    refine g_getr 6 10 45 dMod_sum_6 fs_Mod_144 rfl hS.mod hS.R_size ?_
    refine g_iload_n 9 dMod_sum_9 rfl ?_
    refine g_ialdN 10 dMod_sum_10 hS.T_size (by omega) (by decide) ?_
    refine g_top (nI (n)) (hN) ?_
    refine g_icmp_geN 11 37 dMod_sum_11 rfl (by omega) (by omega) (fun h11 => ?_) (fun h11 => ?_)
    · refine g_iload_n 37 dMod_sum_37 rfl ?_
      exact g_iret 38 dMod_sum_38 rfl hq
    · exact absurd (Nat.le_refl n) h11
  | j + 1, n, hn => by
    have ih := g_sum (X := X) (l := l) hS ht hN hN5 hq j (n + 1) (by omega)
    refine g_iload_n 4 dMod_sum_4 rfl ?_
    refine g_aload_n 5 dMod_sum_5 rfl ?_
    refine g_getr 6 10 45 dMod_sum_6 fs_Mod_144 rfl hS.mod hS.R_size ?_
    refine g_iload_n 9 dMod_sum_9 rfl ?_
    refine g_ialdN 10 dMod_sum_10 hS.T_size (by omega) (by decide) ?_
    refine g_top (nI (N)) (hN) ?_
    refine g_icmp_geN 11 37 dMod_sum_11 rfl (by omega) (by omega) (fun h11 => ?_) (fun h11 => ?_)
    · exact absurd h11 (by omega)
    · refine g_iload_n 14 dMod_sum_14 rfl ?_
      refine g_aload_n 15 dMod_sum_15 rfl ?_
      refine g_getr 16 10 47 dMod_sum_16 fs_Mod_150 rfl hS.mod hS.R_tableValue ?_
      refine g_bipush 19 (nI 6) dMod_sum_19 rfl ?_
      refine g_iload_n 21 dMod_sum_21 rfl ?_
      refine g_imulN 22 dMod_sum_22 ?_
      refine g_iload_n 23 dMod_sum_23 rfl ?_
      refine g_iaddN 24 dMod_sum_24 ?_
      refine g_ialdN 25 dMod_sum_25 hS.T_tableValue (by omega) (by decide) ?_
      refine g_callS 26 [_] dMod_sum_26 cs_Mod_207 rfl rfl ⟨(Nat.le_of_ble_eq_true rfl), (Nat.le_of_ble_eq_true rfl)⟩ (Nat.le_of_ble_eq_true rfl) (ct_Mod_sizeOf) (Nat.le_of_ble_eq_true rfl) (Nat.le_of_ble_eq_true rfl) ?_
      rintro _ M2 ⟨rfl, hM2⟩
      rw [hM2]
      clear hM2 M2
      refine g_iadd 29 dMod_sum_29 ?_
      refine g_istore_n 30 dMod_sum_30 (by decide) rfl ?_
      refine g_iincN 31 dMod_sum_31 rfl (by decide) rfl ?_
      refine g_goto 34 4 dMod_sum_34 rfl ?_
      exact ih
set_option maxRecDepth 100000 in
set_option maxHeartbeats 4000000 in
theorem cm_sum {X : mX} {l : Launch} {M : mM} {t N : Nat} (hS : Shp M) (ht : t < 4) (hN : Rsize M t = nI N) (hN5 : N ≤ 6) : Ct X l uMod_sum (rk 1 20) [.ref 169, .int (nI t)] M (fun r M' => r = some (.int (suA M t N)) ∧ M' = M) := by
  refine Ct.of (by decide) (Nat.le_of_ble_eq_true rfl) ?_
  show G X l uMod_sum (rk 1 20) 0 0 M 0 [some (.ref 169), some (.int (nI t)), none, none] [] _
  refine g_iconst 0 0 dMod_sum_0 rfl ?_
  refine g_istore_n 1 dMod_sum_1 (by decide) rfl ?_
  refine g_iconst 2 (nI 0) dMod_sum_2 rfl ?_
  refine g_istore_n 3 dMod_sum_3 (by decide) rfl ?_
  exact g_sum hS ht hN hN5 ⟨rfl, rfl⟩ N 0 (by omega)

set_option maxRecDepth 100000 in
set_option maxHeartbeats 4000000 in
theorem cm_table_m2a {X : mX} {l : Launch} {M : mM} {e : Nat} (hS : Shp M) (he : e < 2)  : Ct X l uMod_table (rk 2 43) [.ref 169, .int (nI e), .int 0, .int (-2)] M (fun r M' => r = some (.int (Rmaximum M (2 * e + 0))) ∧ M' = M) := by
  refine Ct.of (by decide) (Nat.le_of_ble_eq_true rfl) ?_
  show G X l uMod_table (rk 2 43) 0 0 M 0 [some (.ref 169), some (.int (nI e)), some (.int 0), some (.int (-2)), none] [] _
  refine g_iload_n 0 dMod_table_0 rfl ?_
  refine g_callS 1 [_] dMod_table_1 cs_Mod_171 rfl rfl ⟨(Nat.le_of_ble_eq_true rfl), (Nat.le_of_ble_eq_true rfl)⟩ (Nat.le_of_ble_eq_true rfl) (ct_isEnd_y he) (Nat.le_of_ble_eq_true rfl) (Nat.le_of_ble_eq_true rfl) ?_
  rintro _ M2 ⟨rfl, hM2⟩
  rw [hM2]
  clear hM2 M2
  refine g_if_eq 4 13 dMod_table_4 rfl (fun h4 => ?_) (fun h4 => ?_)
  · exact absurd h4 (by decide)
  · refine g_iload_n 7 dMod_table_7 rfl ?_
    refine g_bipush 8 (-2) dMod_table_8 rfl ?_
    refine g_icmp_ge 10 15 dMod_table_10 rfl (fun h10 => ?_) (fun h10 => ?_)
    · refine g_iconst 15 (nI 2) dMod_table_15 rfl ?_
      refine g_iload_n 16 dMod_table_16 rfl ?_
      refine g_imulN 17 dMod_table_17 ?_
      refine g_iload_n 18 dMod_table_18 rfl ?_
      refine g_if_eq 19 26 dMod_table_19 rfl (fun h19 => ?_) (fun h19 => ?_)
      · refine g_iconst 26 (nI 0) dMod_table_26 rfl ?_
        refine g_iaddN 27 dMod_table_27 ?_
        refine g_istore 28 dMod_table_28 (by decide) rfl ?_
        refine g_iload_n 30 dMod_table_30 rfl ?_
        refine g_if_ge 31 56 dMod_table_31 rfl (fun h31 => ?_) (fun h31 => ?_)
        · exact absurd h31 (by decide)
        · refine g_iload_n 34 dMod_table_34 rfl ?_
          refine g_iconst 35 (-1) dMod_table_35 rfl ?_
          refine g_icmp_ne 36 48 dMod_table_36 rfl (fun h36 => ?_) (fun h36 => ?_)
          · refine g_aload_n 48 dMod_table_48 rfl ?_
            refine g_getr 49 10 44 dMod_table_49 fs_Mod_141 rfl hS.mod hS.R_maximum ?_
            refine g_iload 52 dMod_table_52 rfl ?_
            refine g_ialdN 54 dMod_table_54 hS.T_maximum (by omega) (by decide) ?_
            exact g_iret 55 dMod_table_55 rfl ⟨rfl, rfl⟩
          · exact absurd h36 (by decide)
      · exact absurd rfl h19
    · exact absurd (by decide) h10

set_option maxRecDepth 100000 in
set_option maxHeartbeats 4000000 in
theorem cm_table_m1a {X : mX} {l : Launch} {M : mM} {e : Nat} (hS : Shp M) (he : e < 2) {N : Nat} (hN : Rsize M (2 * e + 0) = nI N) (hN5 : N ≤ 6) : Ct X l uMod_table (rk 2 43) [.ref 169, .int (nI e), .int 0, .int (-1)] M (fun r M' => r = some (.int (suA M (2 * e + 0) N)) ∧ M' = M) := by
  refine Ct.of (by decide) (Nat.le_of_ble_eq_true rfl) ?_
  show G X l uMod_table (rk 2 43) 0 0 M 0 [some (.ref 169), some (.int (nI e)), some (.int 0), some (.int (-1)), none] [] _
  refine g_iload_n 0 dMod_table_0 rfl ?_
  refine g_callS 1 [_] dMod_table_1 cs_Mod_171 rfl rfl ⟨(Nat.le_of_ble_eq_true rfl), (Nat.le_of_ble_eq_true rfl)⟩ (Nat.le_of_ble_eq_true rfl) (ct_isEnd_y he) (Nat.le_of_ble_eq_true rfl) (Nat.le_of_ble_eq_true rfl) ?_
  rintro _ M2 ⟨rfl, hM2⟩
  rw [hM2]
  clear hM2 M2
  refine g_if_eq 4 13 dMod_table_4 rfl (fun h4 => ?_) (fun h4 => ?_)
  · exact absurd h4 (by decide)
  · refine g_iload_n 7 dMod_table_7 rfl ?_
    refine g_bipush 8 (-2) dMod_table_8 rfl ?_
    refine g_icmp_ge 10 15 dMod_table_10 rfl (fun h10 => ?_) (fun h10 => ?_)
    · refine g_iconst 15 (nI 2) dMod_table_15 rfl ?_
      refine g_iload_n 16 dMod_table_16 rfl ?_
      refine g_imulN 17 dMod_table_17 ?_
      refine g_iload_n 18 dMod_table_18 rfl ?_
      refine g_if_eq 19 26 dMod_table_19 rfl (fun h19 => ?_) (fun h19 => ?_)
      · refine g_iconst 26 (nI 0) dMod_table_26 rfl ?_
        refine g_iaddN 27 dMod_table_27 ?_
        refine g_istore 28 dMod_table_28 (by decide) rfl ?_
        refine g_iload_n 30 dMod_table_30 rfl ?_
        refine g_if_ge 31 56 dMod_table_31 rfl (fun h31 => ?_) (fun h31 => ?_)
        · exact absurd h31 (by decide)
        · refine g_iload_n 34 dMod_table_34 rfl ?_
          refine g_iconst 35 (-1) dMod_table_35 rfl ?_
          refine g_icmp_ne 36 48 dMod_table_36 rfl (fun h36 => ?_) (fun h36 => ?_)
          · exact absurd (by decide) h36
          · refine g_aload_n 39 dMod_table_39 rfl ?_
            refine g_iload 40 dMod_table_40 rfl ?_
            refine g_callV 42 [_] dMod_table_42 cs_Mod_210 rfl (ci := 10) rfl (by decide) hS.mod rfl ⟨(Nat.le_of_ble_eq_true rfl), (Nat.le_of_ble_eq_true rfl)⟩ (Nat.le_of_ble_eq_true rfl) (cm_sum hS (by omega) hN hN5) (Nat.le_of_ble_eq_true rfl) (Nat.le_of_ble_eq_true rfl) ?_
            rintro _ M2 ⟨rfl, hM2⟩
            rw [hM2]
            clear hM2 M2
            refine g_goto 45 55 dMod_table_45 rfl ?_
            exact g_iret 55 dMod_table_55 rfl ⟨rfl, rfl⟩
      · exact absurd rfl h19
    · exact absurd (by decide) h10

set_option maxRecDepth 100000 in
set_option maxHeartbeats 4000000 in
theorem cm_table_hia {X : mX} {l : Launch} {M : mM} {e : Nat} (hS : Shp M) (he : e < 2) {j : Int32} (hj : ¬ j < 0) (hc : Rsize M (2 * e + 0) ≤ j) : Ct X l uMod_table (rk 2 43) [.ref 169, .int (nI e), .int 0, .int j] M (fun r M' => r = some (.int 0) ∧ M' = M) := by
  refine Ct.of (by decide) (Nat.le_of_ble_eq_true rfl) ?_
  show G X l uMod_table (rk 2 43) 0 0 M 0 [some (.ref 169), some (.int (nI e)), some (.int 0), some (.int j), none] [] _
  refine g_iload_n 0 dMod_table_0 rfl ?_
  refine g_callS 1 [_] dMod_table_1 cs_Mod_171 rfl rfl ⟨(Nat.le_of_ble_eq_true rfl), (Nat.le_of_ble_eq_true rfl)⟩ (Nat.le_of_ble_eq_true rfl) (ct_isEnd_y he) (Nat.le_of_ble_eq_true rfl) (Nat.le_of_ble_eq_true rfl) ?_
  rintro _ M2 ⟨rfl, hM2⟩
  rw [hM2]
  clear hM2 M2
  refine g_if_eq 4 13 dMod_table_4 rfl (fun h4 => ?_) (fun h4 => ?_)
  · exact absurd h4 (by decide)
  · refine g_iload_n 7 dMod_table_7 rfl ?_
    refine g_bipush 8 (-2) dMod_table_8 rfl ?_
    refine g_icmp_ge 10 15 dMod_table_10 rfl (fun h10 => ?_) (fun h10 => ?_)
    · refine g_iconst 15 (nI 2) dMod_table_15 rfl ?_
      refine g_iload_n 16 dMod_table_16 rfl ?_
      refine g_imulN 17 dMod_table_17 ?_
      refine g_iload_n 18 dMod_table_18 rfl ?_
      refine g_if_eq 19 26 dMod_table_19 rfl (fun h19 => ?_) (fun h19 => ?_)
      · refine g_iconst 26 (nI 0) dMod_table_26 rfl ?_
        refine g_iaddN 27 dMod_table_27 ?_
        refine g_istore 28 dMod_table_28 (by decide) rfl ?_
        refine g_iload_n 30 dMod_table_30 rfl ?_
        refine g_if_ge 31 56 dMod_table_31 rfl (fun h31 => ?_) (fun h31 => ?_)
        · refine g_iload_n 56 dMod_table_56 rfl ?_
          refine g_aload_n 57 dMod_table_57 rfl ?_
          refine g_getr 58 10 45 dMod_table_58 fs_Mod_144 rfl hS.mod hS.R_size ?_
          refine g_iload 61 dMod_table_61 rfl ?_
          refine g_ialdN 63 dMod_table_63 hS.T_size (by omega) (by decide) ?_
          refine g_icmp_ge 64 82 dMod_table_64 rfl (fun h64 => ?_) (fun h64 => ?_)
          · refine g_iconst 82 0 dMod_table_82 rfl ?_
            exact g_iret 83 dMod_table_83 rfl ⟨rfl, rfl⟩
          · exact absurd hc h64
        · exact absurd (Int32.not_lt.mp hj) h31
      · exact absurd rfl h19
    · exact absurd (Int32.le_trans (by decide) (Int32.not_lt.mp hj)) h10

set_option maxRecDepth 100000 in
set_option maxHeartbeats 4000000 in
theorem cm_table_ina {X : mX} {l : Launch} {M : mM} {e : Nat} (hS : Shp M) (he : e < 2) {j N : Nat} (hN : Rsize M (2 * e + 0) = nI N) (hN5 : N ≤ 6) (hj : j < N) : Ct X l uMod_table (rk 2 43) [.ref 169, .int (nI e), .int 0, .int (nI j)] M (fun r M' => r = some (.int (RtableValue M (6 * (2 * e + 0) + j))) ∧ M' = M) := by
  refine Ct.of (by decide) (Nat.le_of_ble_eq_true rfl) ?_
  show G X l uMod_table (rk 2 43) 0 0 M 0 [some (.ref 169), some (.int (nI e)), some (.int 0), some (.int (nI j)), none] [] _
  refine g_iload_n 0 dMod_table_0 rfl ?_
  refine g_callS 1 [_] dMod_table_1 cs_Mod_171 rfl rfl ⟨(Nat.le_of_ble_eq_true rfl), (Nat.le_of_ble_eq_true rfl)⟩ (Nat.le_of_ble_eq_true rfl) (ct_isEnd_y he) (Nat.le_of_ble_eq_true rfl) (Nat.le_of_ble_eq_true rfl) ?_
  rintro _ M2 ⟨rfl, hM2⟩
  rw [hM2]
  clear hM2 M2
  refine g_if_eq 4 13 dMod_table_4 rfl (fun h4 => ?_) (fun h4 => ?_)
  · exact absurd h4 (by decide)
  · refine g_iload_n 7 dMod_table_7 rfl ?_
    refine g_bipush 8 (-2) dMod_table_8 rfl ?_
    refine g_icmp_ge 10 15 dMod_table_10 rfl (fun h10 => ?_) (fun h10 => ?_)
    · refine g_iconst 15 (nI 2) dMod_table_15 rfl ?_
      refine g_iload_n 16 dMod_table_16 rfl ?_
      refine g_imulN 17 dMod_table_17 ?_
      refine g_iload_n 18 dMod_table_18 rfl ?_
      refine g_if_eq 19 26 dMod_table_19 rfl (fun h19 => ?_) (fun h19 => ?_)
      · refine g_iconst 26 (nI 0) dMod_table_26 rfl ?_
        refine g_iaddN 27 dMod_table_27 ?_
        refine g_istore 28 dMod_table_28 (by decide) rfl ?_
        refine g_iload_n 30 dMod_table_30 rfl ?_
        refine g_if_geN 31 56 dMod_table_31 rfl (by omega) (fun h31 => ?_) (fun h31 => ?_)
        · refine g_iload_n 56 dMod_table_56 rfl ?_
          refine g_aload_n 57 dMod_table_57 rfl ?_
          refine g_getr 58 10 45 dMod_table_58 fs_Mod_144 rfl hS.mod hS.R_size ?_
          refine g_iload 61 dMod_table_61 rfl ?_
          refine g_ialdN 63 dMod_table_63 hS.T_size (by omega) (by decide) ?_
          refine g_top (nI (N)) (hN) ?_
          refine g_icmp_geN 64 82 dMod_table_64 rfl (by omega) (by omega) (fun h64 => ?_) (fun h64 => ?_)
          · exact absurd h64 (by omega)
          · refine g_aload_n 67 dMod_table_67 rfl ?_
            refine g_getr 68 10 47 dMod_table_68 fs_Mod_150 rfl hS.mod hS.R_tableValue ?_
            refine g_bipush 71 (nI 6) dMod_table_71 rfl ?_
            refine g_iload 73 dMod_table_73 rfl ?_
            refine g_imulN 75 dMod_table_75 ?_
            refine g_iload_n 76 dMod_table_76 rfl ?_
            refine g_iaddN 77 dMod_table_77 ?_
            refine g_ialdN 78 dMod_table_78 hS.T_tableValue (by omega) (by decide) ?_
            refine g_goto 79 83 dMod_table_79 rfl ?_
            exact g_iret 83 dMod_table_83 rfl ⟨rfl, rfl⟩
        · exact absurd (Nat.zero_le j) h31
      · exact absurd rfl h19
    · exact absurd (Int32.le_trans (b := 0) (by decide) (nI_pos' (by omega))) h10

set_option maxRecDepth 100000 in
set_option maxHeartbeats 4000000 in
theorem cm_table_m2b {X : mX} {l : Launch} {M : mM} {e : Nat} (hS : Shp M) (he : e < 2)  : Ct X l uMod_table (rk 2 43) [.ref 169, .int (nI e), .int 1, .int (-2)] M (fun r M' => r = some (.int (Rmaximum M (2 * e + 1))) ∧ M' = M) := by
  refine Ct.of (by decide) (Nat.le_of_ble_eq_true rfl) ?_
  show G X l uMod_table (rk 2 43) 0 0 M 0 [some (.ref 169), some (.int (nI e)), some (.int 1), some (.int (-2)), none] [] _
  refine g_iload_n 0 dMod_table_0 rfl ?_
  refine g_callS 1 [_] dMod_table_1 cs_Mod_171 rfl rfl ⟨(Nat.le_of_ble_eq_true rfl), (Nat.le_of_ble_eq_true rfl)⟩ (Nat.le_of_ble_eq_true rfl) (ct_isEnd_y he) (Nat.le_of_ble_eq_true rfl) (Nat.le_of_ble_eq_true rfl) ?_
  rintro _ M2 ⟨rfl, hM2⟩
  rw [hM2]
  clear hM2 M2
  refine g_if_eq 4 13 dMod_table_4 rfl (fun h4 => ?_) (fun h4 => ?_)
  · exact absurd h4 (by decide)
  · refine g_iload_n 7 dMod_table_7 rfl ?_
    refine g_bipush 8 (-2) dMod_table_8 rfl ?_
    refine g_icmp_ge 10 15 dMod_table_10 rfl (fun h10 => ?_) (fun h10 => ?_)
    · refine g_iconst 15 (nI 2) dMod_table_15 rfl ?_
      refine g_iload_n 16 dMod_table_16 rfl ?_
      refine g_imulN 17 dMod_table_17 ?_
      refine g_iload_n 18 dMod_table_18 rfl ?_
      refine g_if_eq 19 26 dMod_table_19 rfl (fun h19 => ?_) (fun h19 => ?_)
      · exact absurd h19 (by decide)
      · refine g_iconst 22 (nI 1) dMod_table_22 rfl ?_
        refine g_goto 23 27 dMod_table_23 rfl ?_
        refine g_iaddN 27 dMod_table_27 ?_
        refine g_istore 28 dMod_table_28 (by decide) rfl ?_
        refine g_iload_n 30 dMod_table_30 rfl ?_
        refine g_if_ge 31 56 dMod_table_31 rfl (fun h31 => ?_) (fun h31 => ?_)
        · exact absurd h31 (by decide)
        · refine g_iload_n 34 dMod_table_34 rfl ?_
          refine g_iconst 35 (-1) dMod_table_35 rfl ?_
          refine g_icmp_ne 36 48 dMod_table_36 rfl (fun h36 => ?_) (fun h36 => ?_)
          · refine g_aload_n 48 dMod_table_48 rfl ?_
            refine g_getr 49 10 44 dMod_table_49 fs_Mod_141 rfl hS.mod hS.R_maximum ?_
            refine g_iload 52 dMod_table_52 rfl ?_
            refine g_ialdN 54 dMod_table_54 hS.T_maximum (by omega) (by decide) ?_
            exact g_iret 55 dMod_table_55 rfl ⟨rfl, rfl⟩
          · exact absurd h36 (by decide)
    · exact absurd (by decide) h10

set_option maxRecDepth 100000 in
set_option maxHeartbeats 4000000 in
theorem cm_table_m1b {X : mX} {l : Launch} {M : mM} {e : Nat} (hS : Shp M) (he : e < 2) {N : Nat} (hN : Rsize M (2 * e + 1) = nI N) (hN5 : N ≤ 6) : Ct X l uMod_table (rk 2 43) [.ref 169, .int (nI e), .int 1, .int (-1)] M (fun r M' => r = some (.int (suA M (2 * e + 1) N)) ∧ M' = M) := by
  refine Ct.of (by decide) (Nat.le_of_ble_eq_true rfl) ?_
  show G X l uMod_table (rk 2 43) 0 0 M 0 [some (.ref 169), some (.int (nI e)), some (.int 1), some (.int (-1)), none] [] _
  refine g_iload_n 0 dMod_table_0 rfl ?_
  refine g_callS 1 [_] dMod_table_1 cs_Mod_171 rfl rfl ⟨(Nat.le_of_ble_eq_true rfl), (Nat.le_of_ble_eq_true rfl)⟩ (Nat.le_of_ble_eq_true rfl) (ct_isEnd_y he) (Nat.le_of_ble_eq_true rfl) (Nat.le_of_ble_eq_true rfl) ?_
  rintro _ M2 ⟨rfl, hM2⟩
  rw [hM2]
  clear hM2 M2
  refine g_if_eq 4 13 dMod_table_4 rfl (fun h4 => ?_) (fun h4 => ?_)
  · exact absurd h4 (by decide)
  · refine g_iload_n 7 dMod_table_7 rfl ?_
    refine g_bipush 8 (-2) dMod_table_8 rfl ?_
    refine g_icmp_ge 10 15 dMod_table_10 rfl (fun h10 => ?_) (fun h10 => ?_)
    · refine g_iconst 15 (nI 2) dMod_table_15 rfl ?_
      refine g_iload_n 16 dMod_table_16 rfl ?_
      refine g_imulN 17 dMod_table_17 ?_
      refine g_iload_n 18 dMod_table_18 rfl ?_
      refine g_if_eq 19 26 dMod_table_19 rfl (fun h19 => ?_) (fun h19 => ?_)
      · exact absurd h19 (by decide)
      · refine g_iconst 22 (nI 1) dMod_table_22 rfl ?_
        refine g_goto 23 27 dMod_table_23 rfl ?_
        refine g_iaddN 27 dMod_table_27 ?_
        refine g_istore 28 dMod_table_28 (by decide) rfl ?_
        refine g_iload_n 30 dMod_table_30 rfl ?_
        refine g_if_ge 31 56 dMod_table_31 rfl (fun h31 => ?_) (fun h31 => ?_)
        · exact absurd h31 (by decide)
        · refine g_iload_n 34 dMod_table_34 rfl ?_
          refine g_iconst 35 (-1) dMod_table_35 rfl ?_
          refine g_icmp_ne 36 48 dMod_table_36 rfl (fun h36 => ?_) (fun h36 => ?_)
          · exact absurd (by decide) h36
          · refine g_aload_n 39 dMod_table_39 rfl ?_
            refine g_iload 40 dMod_table_40 rfl ?_
            refine g_callV 42 [_] dMod_table_42 cs_Mod_210 rfl (ci := 10) rfl (by decide) hS.mod rfl ⟨(Nat.le_of_ble_eq_true rfl), (Nat.le_of_ble_eq_true rfl)⟩ (Nat.le_of_ble_eq_true rfl) (cm_sum hS (by omega) hN hN5) (Nat.le_of_ble_eq_true rfl) (Nat.le_of_ble_eq_true rfl) ?_
            rintro _ M2 ⟨rfl, hM2⟩
            rw [hM2]
            clear hM2 M2
            refine g_goto 45 55 dMod_table_45 rfl ?_
            exact g_iret 55 dMod_table_55 rfl ⟨rfl, rfl⟩
    · exact absurd (by decide) h10

set_option maxRecDepth 100000 in
set_option maxHeartbeats 4000000 in
theorem cm_table_hib {X : mX} {l : Launch} {M : mM} {e : Nat} (hS : Shp M) (he : e < 2) {j : Int32} (hj : ¬ j < 0) (hc : Rsize M (2 * e + 1) ≤ j) : Ct X l uMod_table (rk 2 43) [.ref 169, .int (nI e), .int 1, .int j] M (fun r M' => r = some (.int 0) ∧ M' = M) := by
  refine Ct.of (by decide) (Nat.le_of_ble_eq_true rfl) ?_
  show G X l uMod_table (rk 2 43) 0 0 M 0 [some (.ref 169), some (.int (nI e)), some (.int 1), some (.int j), none] [] _
  refine g_iload_n 0 dMod_table_0 rfl ?_
  refine g_callS 1 [_] dMod_table_1 cs_Mod_171 rfl rfl ⟨(Nat.le_of_ble_eq_true rfl), (Nat.le_of_ble_eq_true rfl)⟩ (Nat.le_of_ble_eq_true rfl) (ct_isEnd_y he) (Nat.le_of_ble_eq_true rfl) (Nat.le_of_ble_eq_true rfl) ?_
  rintro _ M2 ⟨rfl, hM2⟩
  rw [hM2]
  clear hM2 M2
  refine g_if_eq 4 13 dMod_table_4 rfl (fun h4 => ?_) (fun h4 => ?_)
  · exact absurd h4 (by decide)
  · refine g_iload_n 7 dMod_table_7 rfl ?_
    refine g_bipush 8 (-2) dMod_table_8 rfl ?_
    refine g_icmp_ge 10 15 dMod_table_10 rfl (fun h10 => ?_) (fun h10 => ?_)
    · refine g_iconst 15 (nI 2) dMod_table_15 rfl ?_
      refine g_iload_n 16 dMod_table_16 rfl ?_
      refine g_imulN 17 dMod_table_17 ?_
      refine g_iload_n 18 dMod_table_18 rfl ?_
      refine g_if_eq 19 26 dMod_table_19 rfl (fun h19 => ?_) (fun h19 => ?_)
      · exact absurd h19 (by decide)
      · refine g_iconst 22 (nI 1) dMod_table_22 rfl ?_
        refine g_goto 23 27 dMod_table_23 rfl ?_
        refine g_iaddN 27 dMod_table_27 ?_
        refine g_istore 28 dMod_table_28 (by decide) rfl ?_
        refine g_iload_n 30 dMod_table_30 rfl ?_
        refine g_if_ge 31 56 dMod_table_31 rfl (fun h31 => ?_) (fun h31 => ?_)
        · refine g_iload_n 56 dMod_table_56 rfl ?_
          refine g_aload_n 57 dMod_table_57 rfl ?_
          refine g_getr 58 10 45 dMod_table_58 fs_Mod_144 rfl hS.mod hS.R_size ?_
          refine g_iload 61 dMod_table_61 rfl ?_
          refine g_ialdN 63 dMod_table_63 hS.T_size (by omega) (by decide) ?_
          refine g_icmp_ge 64 82 dMod_table_64 rfl (fun h64 => ?_) (fun h64 => ?_)
          · refine g_iconst 82 0 dMod_table_82 rfl ?_
            exact g_iret 83 dMod_table_83 rfl ⟨rfl, rfl⟩
          · exact absurd hc h64
        · exact absurd (Int32.not_lt.mp hj) h31
    · exact absurd (Int32.le_trans (by decide) (Int32.not_lt.mp hj)) h10

set_option maxRecDepth 100000 in
set_option maxHeartbeats 4000000 in
theorem cm_table_inb {X : mX} {l : Launch} {M : mM} {e : Nat} (hS : Shp M) (he : e < 2) {j N : Nat} (hN : Rsize M (2 * e + 1) = nI N) (hN5 : N ≤ 6) (hj : j < N) : Ct X l uMod_table (rk 2 43) [.ref 169, .int (nI e), .int 1, .int (nI j)] M (fun r M' => r = some (.int (RtableValue M (6 * (2 * e + 1) + j))) ∧ M' = M) := by
  refine Ct.of (by decide) (Nat.le_of_ble_eq_true rfl) ?_
  show G X l uMod_table (rk 2 43) 0 0 M 0 [some (.ref 169), some (.int (nI e)), some (.int 1), some (.int (nI j)), none] [] _
  refine g_iload_n 0 dMod_table_0 rfl ?_
  refine g_callS 1 [_] dMod_table_1 cs_Mod_171 rfl rfl ⟨(Nat.le_of_ble_eq_true rfl), (Nat.le_of_ble_eq_true rfl)⟩ (Nat.le_of_ble_eq_true rfl) (ct_isEnd_y he) (Nat.le_of_ble_eq_true rfl) (Nat.le_of_ble_eq_true rfl) ?_
  rintro _ M2 ⟨rfl, hM2⟩
  rw [hM2]
  clear hM2 M2
  refine g_if_eq 4 13 dMod_table_4 rfl (fun h4 => ?_) (fun h4 => ?_)
  · exact absurd h4 (by decide)
  · refine g_iload_n 7 dMod_table_7 rfl ?_
    refine g_bipush 8 (-2) dMod_table_8 rfl ?_
    refine g_icmp_ge 10 15 dMod_table_10 rfl (fun h10 => ?_) (fun h10 => ?_)
    · refine g_iconst 15 (nI 2) dMod_table_15 rfl ?_
      refine g_iload_n 16 dMod_table_16 rfl ?_
      refine g_imulN 17 dMod_table_17 ?_
      refine g_iload_n 18 dMod_table_18 rfl ?_
      refine g_if_eq 19 26 dMod_table_19 rfl (fun h19 => ?_) (fun h19 => ?_)
      · exact absurd h19 (by decide)
      · refine g_iconst 22 (nI 1) dMod_table_22 rfl ?_
        refine g_goto 23 27 dMod_table_23 rfl ?_
        refine g_iaddN 27 dMod_table_27 ?_
        refine g_istore 28 dMod_table_28 (by decide) rfl ?_
        refine g_iload_n 30 dMod_table_30 rfl ?_
        refine g_if_geN 31 56 dMod_table_31 rfl (by omega) (fun h31 => ?_) (fun h31 => ?_)
        · refine g_iload_n 56 dMod_table_56 rfl ?_
          refine g_aload_n 57 dMod_table_57 rfl ?_
          refine g_getr 58 10 45 dMod_table_58 fs_Mod_144 rfl hS.mod hS.R_size ?_
          refine g_iload 61 dMod_table_61 rfl ?_
          refine g_ialdN 63 dMod_table_63 hS.T_size (by omega) (by decide) ?_
          refine g_top (nI (N)) (hN) ?_
          refine g_icmp_geN 64 82 dMod_table_64 rfl (by omega) (by omega) (fun h64 => ?_) (fun h64 => ?_)
          · exact absurd h64 (by omega)
          · refine g_aload_n 67 dMod_table_67 rfl ?_
            refine g_getr 68 10 47 dMod_table_68 fs_Mod_150 rfl hS.mod hS.R_tableValue ?_
            refine g_bipush 71 (nI 6) dMod_table_71 rfl ?_
            refine g_iload 73 dMod_table_73 rfl ?_
            refine g_imulN 75 dMod_table_75 ?_
            refine g_iload_n 76 dMod_table_76 rfl ?_
            refine g_iaddN 77 dMod_table_77 ?_
            refine g_ialdN 78 dMod_table_78 hS.T_tableValue (by omega) (by decide) ?_
            refine g_goto 79 83 dMod_table_79 rfl ?_
            exact g_iret 83 dMod_table_83 rfl ⟨rfl, rfl⟩
        · exact absurd (Nat.zero_le j) h31
    · exact absurd (Int32.le_trans (b := 0) (by decide) (nI_pos' (by omega))) h10

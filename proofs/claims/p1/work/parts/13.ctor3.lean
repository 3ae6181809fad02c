theorem oi_End_3 : Cond.methodLink "InterleavedLink$End" 3 Lib.objectInit ∈ gW := gW_in 113 (by decide +kernel) rfl
theorem ps_End_9 {nm : String} : pS "InterleavedLink$End" nm 9 2 3 .int := ⟨"InterleavedLink$End", T_End, 17, cf_End, by decide, by decide +kernel, Or.inl ⟨rfl, Or.inl (gW_in 305 (by decide +kernel) rfl)⟩⟩
theorem ps_End_15 {nm : String} : pS "InterleavedLink$End" nm 15 2 4 .int := ⟨"InterleavedLink$End", T_End, 17, cf_End, by decide, by decide +kernel, Or.inl ⟨rfl, Or.inl (gW_in 307 (by decide +kernel) rfl)⟩⟩
theorem ps_End_18 {nm : String} : pS "InterleavedLink$End" nm 18 2 5 .int := ⟨"InterleavedLink$End", T_End, 17, cf_End, by decide, by decide +kernel, Or.inl ⟨rfl, Or.inl (gW_in 309 (by decide +kernel) rfl)⟩⟩
theorem ns_End_21 : nS "InterleavedLink$End" 21 3 4 := ⟨"InterleavedLink$FieldList", T_FList, cf_FList, (gW_in 114 (by decide +kernel) rfl), (gW_in 115 (by decide +kernel) rfl), (gW_in 67 (by decide +kernel) rfl)⟩
theorem cs_End_23 : cI "InterleavedLink$End" 23 uFList_init 0 := ⟨⟨Or.inr ⟨"InterleavedLink", (gN_in 116 (by decide +kernel) rfl)⟩, (gW_in 67 (by decide +kernel) rfl), (gW_in 118 (by decide +kernel) rfl), ⟨by decide, by decide⟩, by decide +kernel⟩, (gW_in 117 (by decide +kernel) rfl), rfl, rfl⟩
theorem ps_End_24 : pS "InterleavedLink$End" "<init>" 24 2 6 (.object "InterleavedLink$FieldList") := ⟨"InterleavedLink$End", T_End, 17, cf_End, by decide, by decide +kernel, Or.inr ⟨rfl, rfl, rfl, (gW_in 311 (by decide +kernel) rfl)⟩⟩
theorem ns_End_28 : nS "InterleavedLink$End" 28 4 4 := ⟨"InterleavedLink$Encoder", T_Enc, cf_Enc, (gW_in 143 (by decide +kernel) rfl), (gW_in 144 (by decide +kernel) rfl), (gW_in 68 (by decide +kernel) rfl)⟩
theorem cs_End_30 : cI "InterleavedLink$End" 30 uEnc_init 0 := ⟨⟨Or.inr ⟨"InterleavedLink", (gN_in 145 (by decide +kernel) rfl)⟩, (gW_in 68 (by decide +kernel) rfl), (gW_in 147 (by decide +kernel) rfl), ⟨by decide, by decide⟩, by decide +kernel⟩, (gW_in 146 (by decide +kernel) rfl), rfl, rfl⟩
theorem ps_End_31 : pS "InterleavedLink$End" "<init>" 31 2 7 (.object "InterleavedLink$Encoder") := ⟨"InterleavedLink$End", T_End, 17, cf_End, by decide, by decide +kernel, Or.inr ⟨rfl, rfl, rfl, (gW_in 313 (by decide +kernel) rfl)⟩⟩
theorem ns_End_35 : nS "InterleavedLink$End" 35 6 2 := ⟨"InterleavedLink$Decoder", T_Dec, cf_Dec, (gW_in 193 (by decide +kernel) rfl), (gW_in 194 (by decide +kernel) rfl), (gW_in 70 (by decide +kernel) rfl)⟩
theorem cs_End_37 : cI "InterleavedLink$End" 37 uDec_init 0 := ⟨⟨Or.inr ⟨"InterleavedLink", (gN_in 195 (by decide +kernel) rfl)⟩, (gW_in 70 (by decide +kernel) rfl), (gW_in 197 (by decide +kernel) rfl), ⟨by decide, by decide⟩, by decide +kernel⟩, (gW_in 196 (by decide +kernel) rfl), rfl, rfl⟩
theorem ps_End_38 : pS "InterleavedLink$End" "<init>" 38 2 8 (.object "InterleavedLink$Decoder") := ⟨"InterleavedLink$End", T_End, 17, cf_End, by decide, by decide +kernel, Or.inr ⟨rfl, rfl, rfl, (gW_in 315 (by decide +kernel) rfl)⟩⟩
theorem al_End_42 : Cond.classLink "InterleavedLink$End" 42 (aoC 5) ∈ gW := gW_in 209 (by decide +kernel) rfl
theorem ps_End_44 : pS "InterleavedLink$End" "<init>" 44 2 9 (.array (.object "InterleavedLink$Stream")) := ⟨"InterleavedLink$End", T_End, 17, cf_End, by decide, by decide +kernel, Or.inr ⟨rfl, rfl, rfl, (gW_in 317 (by decide +kernel) rfl)⟩⟩
theorem ns_End_48 : nS "InterleavedLink$End" 48 7 3 := ⟨"InterleavedLink$Settings", T_Sett, cf_Sett, (gW_in 211 (by decide +kernel) rfl), (gW_in 212 (by decide +kernel) rfl), (gW_in 71 (by decide +kernel) rfl)⟩
theorem cs_End_50 : cI "InterleavedLink$End" 50 uSett_init 0 := ⟨⟨Or.inr ⟨"InterleavedLink", (gN_in 213 (by decide +kernel) rfl)⟩, (gW_in 71 (by decide +kernel) rfl), (gW_in 215 (by decide +kernel) rfl), ⟨by decide, by decide⟩, by decide +kernel⟩, (gW_in 214 (by decide +kernel) rfl), rfl, rfl⟩
theorem ps_End_51 : pS "InterleavedLink$End" "<init>" 51 2 10 (.object "InterleavedLink$Settings") := ⟨"InterleavedLink$End", T_End, 17, cf_End, by decide, by decide +kernel, Or.inr ⟨rfl, rfl, rfl, (gW_in 318 (by decide +kernel) rfl)⟩⟩
theorem ps_End_55 : pS "InterleavedLink$End" "<init>" 55 2 11 (.object "InterleavedLink$Settings") := ⟨"InterleavedLink$End", T_End, 17, cf_End, by decide, by decide +kernel, Or.inr ⟨rfl, rfl, rfl, (gW_in 319 (by decide +kernel) rfl)⟩⟩
theorem ps_End_58 : pS "InterleavedLink$End" "<init>" 58 2 12 (.array .int) := ⟨"InterleavedLink$End", T_End, 17, cf_End, by decide, by decide +kernel, Or.inr ⟨rfl, rfl, rfl, (gW_in 320 (by decide +kernel) rfl)⟩⟩
theorem ps_End_62 : pS "InterleavedLink$End" "<init>" 62 2 13 (.array .int) := ⟨"InterleavedLink$End", T_End, 17, cf_End, by decide, by decide +kernel, Or.inr ⟨rfl, rfl, rfl, (gW_in 321 (by decide +kernel) rfl)⟩⟩
theorem ps_End_65 {nm : String} : pS "InterleavedLink$End" nm 65 2 14 .int := ⟨"InterleavedLink$End", T_End, 17, cf_End, by decide, by decide +kernel, Or.inl ⟨rfl, Or.inl (gW_in 322 (by decide +kernel) rfl)⟩⟩
theorem ps_End_68 {nm : String} : pS "InterleavedLink$End" nm 68 2 15 .int := ⟨"InterleavedLink$End", T_End, 17, cf_End, by decide, by decide +kernel, Or.inl ⟨rfl, Or.inl (gW_in 324 (by decide +kernel) rfl)⟩⟩
theorem ps_End_71 {nm : String} : pS "InterleavedLink$End" nm 71 2 16 .int := ⟨"InterleavedLink$End", T_End, 17, cf_End, by decide, by decide +kernel, Or.inl ⟨rfl, Or.inl (gW_in 325 (by decide +kernel) rfl)⟩⟩
theorem ps_End_74 : pS "InterleavedLink$End" "<init>" 74 2 0 .boolean := ⟨"InterleavedLink$End", T_End, 17, cf_End, by decide, by decide +kernel, Or.inr ⟨rfl, rfl, rfl, (gW_in 300 (by decide +kernel) rfl)⟩⟩
theorem ps_End_78 : pS "InterleavedLink$End" "<init>" 78 2 1 (.object "InterleavedLink$Pipe") := ⟨"InterleavedLink$End", T_End, 17, cf_End, by decide, by decide +kernel, Or.inr ⟨rfl, rfl, rfl, (gW_in 301 (by decide +kernel) rfl)⟩⟩
theorem ps_End_82 : pS "InterleavedLink$End" "<init>" 82 2 2 (.object "InterleavedLink$Pipe") := ⟨"InterleavedLink$End", T_End, 17, cf_End, by decide, by decide +kernel, Or.inr ⟨rfl, rfl, rfl, (gW_in 303 (by decide +kernel) rfl)⟩⟩
theorem end9_streams {M : mM} {t i o : Nat} {q : Int32} (hlt : t < mN M) : mR (mkEnd9 M t q i o) t 9 = some (mN M + 14) := by
  show up2 (up2 (mR (mkEnd8 M t)) t 1 (some i)) t 2 (some o) t 9 = _
  rw [up2_k (by decide), up2_k (by decide)]
  show up2 (mR (newM (setR (newM (mkEnd7 M t) 100 8) t 12 (some (mN M + 17))) 100 8)) t 13 (some (mN M + 18)) t 9 = _
  rw [up2_k (by decide)]
  refine oR (show t < mN M + 18 by omega) ?_
  show up2 (mR (newM (mkEnd7 M t) 100 8)) t 12 (some (mN M + 17)) t 9 = _
  rw [up2_k (by decide)]
  refine oR (M := mkEnd7 M t) (show t < mN M + 17 by omega) ?_
  show up2 (mR (newM (mkEnd6 M t) 7 3)) t 11 (some (mN M + 16)) t 9 = _
  rw [up2_k (by decide)]
  refine oR (M := mkEnd6 M t) (show t < mN M + 16 by omega) ?_
  show up2 (mR (newM (mkEnd5 M t) 7 3)) t 10 (some (mN M + 15)) t 9 = _
  rw [up2_k (by decide)]
  refine oR (M := mkEnd5 M t) (show t < mN M + 15 by omega) ?_
  show up2 (mR (newM (mkEnd4 M t) 105 12)) t 9 (some (mN M + 14)) t 9 = _
  rw [up2_same]
theorem end9_arr {M : mM} {t i o : Nat} {q : Int32} : mT (mkEnd9 M t q i o) (mN M + 14) = (105, 12) := by
  show mT (newM (setR (newM (mkEnd7 M t) 100 8) t 12 (some (mN M + 17))) 100 8) (mN M + 14) = _
  refine oTT (show mN M + 14 < mN M + 18 by omega) (oTT (M := mkEnd7 M t) (show mN M + 14 < mN M + 17 by omega) (oTT (M := mkEnd6 M t) (show mN M + 14 < mN M + 16 by omega) (oTT (M := mkEnd5 M t) (show mN M + 14 < mN M + 15 by omega) ?_)))
  exact mT_new (mkEnd4 M t) 105 12

set_option maxRecDepth 100000 in
set_option maxHeartbeats 4000000 in
theorem ct_End_init {X : mX} {l : Launch} {M : mM} {t i o : Nat} {q : Int32} (hp : (mT M t).1 = 2) (hz : q = 0 ∨ q = 1) : Ct X l uEnd_init (rn 3 54 79 1232) [.ref t, .int q, .ref i, .ref o] M (fun r M' => r = none ∧ M' = mkEnd M t q i o) := by
  refine Ct.of (by decide) (Nat.le_of_ble_eq_true rfl) ?_
  show G X l uEnd_init (rn 3 54 79 1232) 79 1232 M 0 [some (.ref t), some (.int q), some (.ref i), some (.ref o), none] [] _
  refine G.wf fun hw => ?_
  have hlt := (hw.lt (a := t) (by rw [hp]; decide)).2
  refine g_aload_n 0 dEnd_init_0 rfl ?_
  refine g_objInit 1 dEnd_init_1 oi_End_3 oi_m oi_c ⟨(Nat.le_of_ble_eq_true rfl), (Nat.le_of_ble_eq_true rfl)⟩ ?_
  refine g_aload_n 4 dEnd_init_4 rfl ?_
  refine g_iconst 5 0 dEnd_init_5 rfl ?_
  refine g_puti 6 2 3 dEnd_init_6 ps_End_9 rfl hp ?_
  refine g_aload_n 9 dEnd_init_9 rfl ?_
  refine g_bipush 10 40 dEnd_init_10 rfl ?_
  refine g_puti 12 2 4 dEnd_init_12 ps_End_15 rfl hp ?_
  refine g_aload_n 15 dEnd_init_15 rfl ?_
  refine g_bipush 16 40 dEnd_init_16 rfl ?_
  refine g_puti 18 2 5 dEnd_init_18 ps_End_18 rfl hp ?_
  refine g_aload_n 21 dEnd_init_21 rfl ?_
  refine g_new 22 3 4 dEnd_init_22 ns_End_21 (Nat.le_of_ble_eq_true rfl) (Nat.le_of_ble_eq_true rfl) ?_
  refine g_dup 25 dEnd_init_25 rfl ?_
  refine g_callI 26 [] dEnd_init_26 cs_End_23 rfl rfl ⟨(Nat.le_of_ble_eq_true rfl), (Nat.le_of_ble_eq_true rfl)⟩ (Nat.le_of_ble_eq_true rfl) (ct_FL_init nT) (Nat.le_of_ble_eq_true rfl) (Nat.le_of_ble_eq_true rfl) ?_
  rintro _ _ ⟨rfl, rfl⟩
  refine g_putr 29 2 6 dEnd_init_29 ps_End_24 rfl rfl (oT (Nat.lt_add_right 3 hlt) (oT (Nat.lt_add_right 2 hlt) (oT (Nat.lt_add_right 1 hlt) (oT (Nat.lt_add_right 0 hlt) hp)))) ?_
  refine g_aload_n 32 dEnd_init_32 rfl ?_
  refine g_new 33 4 4 dEnd_init_33 ns_End_28 (Nat.le_of_ble_eq_true rfl) (Nat.le_of_ble_eq_true rfl) ?_
  refine g_dup 36 dEnd_init_36 rfl ?_
  refine g_callI 37 [] dEnd_init_37 cs_End_30 rfl rfl ⟨(Nat.le_of_ble_eq_true rfl), (Nat.le_of_ble_eq_true rfl)⟩ (Nat.le_of_ble_eq_true rfl) (ct_Enc_init nT) (Nat.le_of_ble_eq_true rfl) (Nat.le_of_ble_eq_true rfl) ?_
  rintro _ _ ⟨rfl, rfl⟩
  refine g_putr 40 2 7 dEnd_init_40 ps_End_31 rfl rfl (oT (Nat.lt_add_right 8 hlt) (oT (Nat.lt_add_right 7 hlt) (oT (Nat.lt_add_right 6 hlt) (oT (Nat.lt_add_right 5 hlt) (oT (Nat.lt_add_right 4 hlt) (oT (Nat.lt_add_right 3 hlt) (oT (Nat.lt_add_right 2 hlt) (oT (Nat.lt_add_right 1 hlt) (oT (Nat.lt_add_right 0 hlt) hp))))))))) ?_
  refine g_aload_n 43 dEnd_init_43 rfl ?_
  refine g_new 44 6 2 dEnd_init_44 ns_End_35 (Nat.le_of_ble_eq_true rfl) (Nat.le_of_ble_eq_true rfl) ?_
  refine g_dup 47 dEnd_init_47 rfl ?_
  refine g_callI 48 [] dEnd_init_48 cs_End_37 rfl rfl ⟨(Nat.le_of_ble_eq_true rfl), (Nat.le_of_ble_eq_true rfl)⟩ (Nat.le_of_ble_eq_true rfl) (ct_Dec_init nT) (Nat.le_of_ble_eq_true rfl) (Nat.le_of_ble_eq_true rfl) ?_
  rintro _ _ ⟨rfl, rfl⟩
  refine g_putr 51 2 8 dEnd_init_51 ps_End_38 rfl rfl (oT (Nat.lt_add_right 13 hlt) (oT (Nat.lt_add_right 12 hlt) (oT (Nat.lt_add_right 11 hlt) (oT (Nat.lt_add_right 10 hlt) (oT (Nat.lt_add_right 9 hlt) (oT (Nat.lt_add_right 8 hlt) (oT (Nat.lt_add_right 7 hlt) (oT (Nat.lt_add_right 6 hlt) (oT (Nat.lt_add_right 5 hlt) (oT (Nat.lt_add_right 4 hlt) (oT (Nat.lt_add_right 3 hlt) (oT (Nat.lt_add_right 2 hlt) (oT (Nat.lt_add_right 1 hlt) (oT (Nat.lt_add_right 0 hlt) hp)))))))))))))) ?_
  refine g_aload_n 54 dEnd_init_54 rfl ?_
  refine g_bipush 55 12 dEnd_init_55 rfl ?_
  refine g_anew 57 5 12 dEnd_init_57 al_End_42 rfl (by decide) (by decide) (by decide) (by decide) (Nat.le_of_ble_eq_true rfl) (Nat.le_of_ble_eq_true rfl) ?_
  refine g_putr 60 2 9 dEnd_init_60 ps_End_44 rfl rfl (oT (Nat.lt_add_right 14 hlt) (oT (Nat.lt_add_right 13 hlt) (oT (Nat.lt_add_right 12 hlt) (oT (Nat.lt_add_right 11 hlt) (oT (Nat.lt_add_right 10 hlt) (oT (Nat.lt_add_right 9 hlt) (oT (Nat.lt_add_right 8 hlt) (oT (Nat.lt_add_right 7 hlt) (oT (Nat.lt_add_right 6 hlt) (oT (Nat.lt_add_right 5 hlt) (oT (Nat.lt_add_right 4 hlt) (oT (Nat.lt_add_right 3 hlt) (oT (Nat.lt_add_right 2 hlt) (oT (Nat.lt_add_right 1 hlt) (oT (Nat.lt_add_right 0 hlt) hp))))))))))))))) ?_
  refine g_aload_n 63 dEnd_init_63 rfl ?_
  refine g_new 64 7 3 dEnd_init_64 ns_End_48 (Nat.le_of_ble_eq_true rfl) (Nat.le_of_ble_eq_true rfl) ?_
  refine g_dup 67 dEnd_init_67 rfl ?_
  refine g_callI 68 [] dEnd_init_68 cs_End_50 rfl rfl ⟨(Nat.le_of_ble_eq_true rfl), (Nat.le_of_ble_eq_true rfl)⟩ (Nat.le_of_ble_eq_true rfl) (ct_Sett_init nT) (Nat.le_of_ble_eq_true rfl) (Nat.le_of_ble_eq_true rfl) ?_
  rintro _ _ ⟨rfl, rfl⟩
  refine g_putr 71 2 10 dEnd_init_71 ps_End_51 rfl rfl (oT (Nat.lt_add_right 15 hlt) (oT (Nat.lt_add_right 14 hlt) (oT (Nat.lt_add_right 13 hlt) (oT (Nat.lt_add_right 12 hlt) (oT (Nat.lt_add_right 11 hlt) (oT (Nat.lt_add_right 10 hlt) (oT (Nat.lt_add_right 9 hlt) (oT (Nat.lt_add_right 8 hlt) (oT (Nat.lt_add_right 7 hlt) (oT (Nat.lt_add_right 6 hlt) (oT (Nat.lt_add_right 5 hlt) (oT (Nat.lt_add_right 4 hlt) (oT (Nat.lt_add_right 3 hlt) (oT (Nat.lt_add_right 2 hlt) (oT (Nat.lt_add_right 1 hlt) (oT (Nat.lt_add_right 0 hlt) hp)))))))))))))))) ?_
  refine g_aload_n 74 dEnd_init_74 rfl ?_
  refine g_new 75 7 3 dEnd_init_75 ns_End_48 (Nat.le_of_ble_eq_true rfl) (Nat.le_of_ble_eq_true rfl) ?_
  refine g_dup 78 dEnd_init_78 rfl ?_
  refine g_callI 79 [] dEnd_init_79 cs_End_50 rfl rfl ⟨(Nat.le_of_ble_eq_true rfl), (Nat.le_of_ble_eq_true rfl)⟩ (Nat.le_of_ble_eq_true rfl) (ct_Sett_init nT) (Nat.le_of_ble_eq_true rfl) (Nat.le_of_ble_eq_true rfl) ?_
  rintro _ _ ⟨rfl, rfl⟩
  refine g_putr 82 2 11 dEnd_init_82 ps_End_55 rfl rfl (oT (Nat.lt_add_right 16 hlt) (oT (Nat.lt_add_right 15 hlt) (oT (Nat.lt_add_right 14 hlt) (oT (Nat.lt_add_right 13 hlt) (oT (Nat.lt_add_right 12 hlt) (oT (Nat.lt_add_right 11 hlt) (oT (Nat.lt_add_right 10 hlt) (oT (Nat.lt_add_right 9 hlt) (oT (Nat.lt_add_right 8 hlt) (oT (Nat.lt_add_right 7 hlt) (oT (Nat.lt_add_right 6 hlt) (oT (Nat.lt_add_right 5 hlt) (oT (Nat.lt_add_right 4 hlt) (oT (Nat.lt_add_right 3 hlt) (oT (Nat.lt_add_right 2 hlt) (oT (Nat.lt_add_right 1 hlt) (oT (Nat.lt_add_right 0 hlt) hp))))))))))))))))) ?_
  refine g_aload_n 85 dEnd_init_85 rfl ?_
  refine g_bipush 86 8 dEnd_init_86 rfl ?_
  refine g_newa 88 0 8 dEnd_init_88 aw_int rfl rfl (fun _ => rfl) (fun _ _ h => h) (by decide) (by decide) (by decide) (by decide) (Nat.le_of_ble_eq_true rfl) (Nat.le_of_ble_eq_true rfl) ?_
  refine g_putr 90 2 12 dEnd_init_90 ps_End_58 rfl rfl (oT (Nat.lt_add_right 17 hlt) (oT (Nat.lt_add_right 16 hlt) (oT (Nat.lt_add_right 15 hlt) (oT (Nat.lt_add_right 14 hlt) (oT (Nat.lt_add_right 13 hlt) (oT (Nat.lt_add_right 12 hlt) (oT (Nat.lt_add_right 11 hlt) (oT (Nat.lt_add_right 10 hlt) (oT (Nat.lt_add_right 9 hlt) (oT (Nat.lt_add_right 8 hlt) (oT (Nat.lt_add_right 7 hlt) (oT (Nat.lt_add_right 6 hlt) (oT (Nat.lt_add_right 5 hlt) (oT (Nat.lt_add_right 4 hlt) (oT (Nat.lt_add_right 3 hlt) (oT (Nat.lt_add_right 2 hlt) (oT (Nat.lt_add_right 1 hlt) (oT (Nat.lt_add_right 0 hlt) hp)))))))))))))))))) ?_
  refine g_aload_n 93 dEnd_init_93 rfl ?_
  refine g_bipush 94 8 dEnd_init_94 rfl ?_
  refine g_newa 96 0 8 dEnd_init_96 aw_int rfl rfl (fun _ => rfl) (fun _ _ h => h) (by decide) (by decide) (by decide) (by decide) (Nat.le_of_ble_eq_true rfl) (Nat.le_of_ble_eq_true rfl) ?_
  refine g_putr 98 2 13 dEnd_init_98 ps_End_62 rfl rfl (oT (Nat.lt_add_right 18 hlt) (oT (Nat.lt_add_right 17 hlt) (oT (Nat.lt_add_right 16 hlt) (oT (Nat.lt_add_right 15 hlt) (oT (Nat.lt_add_right 14 hlt) (oT (Nat.lt_add_right 13 hlt) (oT (Nat.lt_add_right 12 hlt) (oT (Nat.lt_add_right 11 hlt) (oT (Nat.lt_add_right 10 hlt) (oT (Nat.lt_add_right 9 hlt) (oT (Nat.lt_add_right 8 hlt) (oT (Nat.lt_add_right 7 hlt) (oT (Nat.lt_add_right 6 hlt) (oT (Nat.lt_add_right 5 hlt) (oT (Nat.lt_add_right 4 hlt) (oT (Nat.lt_add_right 3 hlt) (oT (Nat.lt_add_right 2 hlt) (oT (Nat.lt_add_right 1 hlt) (oT (Nat.lt_add_right 0 hlt) hp))))))))))))))))))) ?_
  refine g_aload_n 101 dEnd_init_101 rfl ?_
  refine g_iconst 102 0 dEnd_init_102 rfl ?_
  refine g_puti 103 2 14 dEnd_init_103 ps_End_65 rfl (oT (Nat.lt_add_right 18 hlt) (oT (Nat.lt_add_right 17 hlt) (oT (Nat.lt_add_right 16 hlt) (oT (Nat.lt_add_right 15 hlt) (oT (Nat.lt_add_right 14 hlt) (oT (Nat.lt_add_right 13 hlt) (oT (Nat.lt_add_right 12 hlt) (oT (Nat.lt_add_right 11 hlt) (oT (Nat.lt_add_right 10 hlt) (oT (Nat.lt_add_right 9 hlt) (oT (Nat.lt_add_right 8 hlt) (oT (Nat.lt_add_right 7 hlt) (oT (Nat.lt_add_right 6 hlt) (oT (Nat.lt_add_right 5 hlt) (oT (Nat.lt_add_right 4 hlt) (oT (Nat.lt_add_right 3 hlt) (oT (Nat.lt_add_right 2 hlt) (oT (Nat.lt_add_right 1 hlt) (oT (Nat.lt_add_right 0 hlt) hp))))))))))))))))))) ?_
  refine g_aload_n 106 dEnd_init_106 rfl ?_
  refine g_iconst 107 1 dEnd_init_107 rfl ?_
  refine g_puti 108 2 15 dEnd_init_108 ps_End_68 rfl (oT (Nat.lt_add_right 18 hlt) (oT (Nat.lt_add_right 17 hlt) (oT (Nat.lt_add_right 16 hlt) (oT (Nat.lt_add_right 15 hlt) (oT (Nat.lt_add_right 14 hlt) (oT (Nat.lt_add_right 13 hlt) (oT (Nat.lt_add_right 12 hlt) (oT (Nat.lt_add_right 11 hlt) (oT (Nat.lt_add_right 10 hlt) (oT (Nat.lt_add_right 9 hlt) (oT (Nat.lt_add_right 8 hlt) (oT (Nat.lt_add_right 7 hlt) (oT (Nat.lt_add_right 6 hlt) (oT (Nat.lt_add_right 5 hlt) (oT (Nat.lt_add_right 4 hlt) (oT (Nat.lt_add_right 3 hlt) (oT (Nat.lt_add_right 2 hlt) (oT (Nat.lt_add_right 1 hlt) (oT (Nat.lt_add_right 0 hlt) hp))))))))))))))))))) ?_
  refine g_aload_n 111 dEnd_init_111 rfl ?_
  refine g_iconst 112 (-1) dEnd_init_112 rfl ?_
  refine g_puti 113 2 16 dEnd_init_113 ps_End_71 rfl (oT (Nat.lt_add_right 18 hlt) (oT (Nat.lt_add_right 17 hlt) (oT (Nat.lt_add_right 16 hlt) (oT (Nat.lt_add_right 15 hlt) (oT (Nat.lt_add_right 14 hlt) (oT (Nat.lt_add_right 13 hlt) (oT (Nat.lt_add_right 12 hlt) (oT (Nat.lt_add_right 11 hlt) (oT (Nat.lt_add_right 10 hlt) (oT (Nat.lt_add_right 9 hlt) (oT (Nat.lt_add_right 8 hlt) (oT (Nat.lt_add_right 7 hlt) (oT (Nat.lt_add_right 6 hlt) (oT (Nat.lt_add_right 5 hlt) (oT (Nat.lt_add_right 4 hlt) (oT (Nat.lt_add_right 3 hlt) (oT (Nat.lt_add_right 2 hlt) (oT (Nat.lt_add_right 1 hlt) (oT (Nat.lt_add_right 0 hlt) hp))))))))))))))))))) ?_
  refine g_aload_n 116 dEnd_init_116 rfl ?_
  refine g_iload_n 117 dEnd_init_117 rfl ?_
  refine g_putz 118 2 0 dEnd_init_118 ps_End_74 rfl hz (oT (Nat.lt_add_right 18 hlt) (oT (Nat.lt_add_right 17 hlt) (oT (Nat.lt_add_right 16 hlt) (oT (Nat.lt_add_right 15 hlt) (oT (Nat.lt_add_right 14 hlt) (oT (Nat.lt_add_right 13 hlt) (oT (Nat.lt_add_right 12 hlt) (oT (Nat.lt_add_right 11 hlt) (oT (Nat.lt_add_right 10 hlt) (oT (Nat.lt_add_right 9 hlt) (oT (Nat.lt_add_right 8 hlt) (oT (Nat.lt_add_right 7 hlt) (oT (Nat.lt_add_right 6 hlt) (oT (Nat.lt_add_right 5 hlt) (oT (Nat.lt_add_right 4 hlt) (oT (Nat.lt_add_right 3 hlt) (oT (Nat.lt_add_right 2 hlt) (oT (Nat.lt_add_right 1 hlt) (oT (Nat.lt_add_right 0 hlt) hp))))))))))))))))))) ?_
  refine g_aload_n 121 dEnd_init_121 rfl ?_
  refine g_aload_n 122 dEnd_init_122 rfl ?_
  refine g_putr 123 2 1 dEnd_init_123 ps_End_78 rfl rfl (oT (Nat.lt_add_right 18 hlt) (oT (Nat.lt_add_right 17 hlt) (oT (Nat.lt_add_right 16 hlt) (oT (Nat.lt_add_right 15 hlt) (oT (Nat.lt_add_right 14 hlt) (oT (Nat.lt_add_right 13 hlt) (oT (Nat.lt_add_right 12 hlt) (oT (Nat.lt_add_right 11 hlt) (oT (Nat.lt_add_right 10 hlt) (oT (Nat.lt_add_right 9 hlt) (oT (Nat.lt_add_right 8 hlt) (oT (Nat.lt_add_right 7 hlt) (oT (Nat.lt_add_right 6 hlt) (oT (Nat.lt_add_right 5 hlt) (oT (Nat.lt_add_right 4 hlt) (oT (Nat.lt_add_right 3 hlt) (oT (Nat.lt_add_right 2 hlt) (oT (Nat.lt_add_right 1 hlt) (oT (Nat.lt_add_right 0 hlt) hp))))))))))))))))))) ?_
  refine g_aload_n 126 dEnd_init_126 rfl ?_
  refine g_aload_n 127 dEnd_init_127 rfl ?_
  refine g_putr 128 2 2 dEnd_init_128 ps_End_82 rfl rfl (oT (Nat.lt_add_right 18 hlt) (oT (Nat.lt_add_right 17 hlt) (oT (Nat.lt_add_right 16 hlt) (oT (Nat.lt_add_right 15 hlt) (oT (Nat.lt_add_right 14 hlt) (oT (Nat.lt_add_right 13 hlt) (oT (Nat.lt_add_right 12 hlt) (oT (Nat.lt_add_right 11 hlt) (oT (Nat.lt_add_right 10 hlt) (oT (Nat.lt_add_right 9 hlt) (oT (Nat.lt_add_right 8 hlt) (oT (Nat.lt_add_right 7 hlt) (oT (Nat.lt_add_right 6 hlt) (oT (Nat.lt_add_right 5 hlt) (oT (Nat.lt_add_right 4 hlt) (oT (Nat.lt_add_right 3 hlt) (oT (Nat.lt_add_right 2 hlt) (oT (Nat.lt_add_right 1 hlt) (oT (Nat.lt_add_right 0 hlt) hp))))))))))))))))))) ?_
  refine g_iconst 131 0 dEnd_init_131 rfl ?_
  refine g_istore 132 dEnd_init_132 (by decide) rfl ?_
  refine G.wf fun hw2 => ?_
  exact g_End_loop (M := mkEnd9 M t q i o) (t := t) (arr := mN M + 14) (i := i) (o := o) (q := q) (oT (Nat.lt_add_right 18 hlt) (oT (Nat.lt_add_right 17 hlt) (oT (Nat.lt_add_right 16 hlt) (oT (Nat.lt_add_right 15 hlt) (oT (Nat.lt_add_right 14 hlt) (oT (Nat.lt_add_right 13 hlt) (oT (Nat.lt_add_right 12 hlt) (oT (Nat.lt_add_right 11 hlt) (oT (Nat.lt_add_right 10 hlt) (oT (Nat.lt_add_right 9 hlt) (oT (Nat.lt_add_right 8 hlt) (oT (Nat.lt_add_right 7 hlt) (oT (Nat.lt_add_right 6 hlt) (oT (Nat.lt_add_right 5 hlt) (oT (Nat.lt_add_right 4 hlt) (oT (Nat.lt_add_right 3 hlt) (oT (Nat.lt_add_right 2 hlt) (oT (Nat.lt_add_right 1 hlt) (oT (Nat.lt_add_right 0 hlt) hp))))))))))))))))))) (end9_streams hlt) (Nat.ne_of_lt (Nat.lt_add_right 14 hlt)) end9_arr hw2 ⟨rfl, rfl⟩ 12 0 rfl

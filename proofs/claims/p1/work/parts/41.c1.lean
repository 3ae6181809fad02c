theorem dLink_isWithin_0 : decode uLink_isWithin.2.1 0 = .ok (.iload_n 0, 1) := by decide +kernel
theorem dLink_isWithin_1 : decode uLink_isWithin.2.1 1 = .ok (.iload_n 1, 1) := by decide +kernel
theorem dLink_isWithin_2 : decode uLink_isWithin.2.1 2 = .ok (.if_icmp .lt 12, 3) := by decide +kernel
theorem dLink_isWithin_5 : decode uLink_isWithin.2.1 5 = .ok (.iload_n 0, 1) := by decide +kernel
theorem dLink_isWithin_6 : decode uLink_isWithin.2.1 6 = .ok (.iload_n 2, 1) := by decide +kernel
theorem dLink_isWithin_7 : decode uLink_isWithin.2.1 7 = .ok (.if_icmp .gt 7, 3) := by decide +kernel
theorem dLink_isWithin_10 : decode uLink_isWithin.2.1 10 = .ok (.iconst 1, 1) := by decide +kernel
theorem dLink_isWithin_11 : decode uLink_isWithin.2.1 11 = .ok (.goto 4, 3) := by decide +kernel
theorem dLink_isWithin_14 : decode uLink_isWithin.2.1 14 = .ok (.iconst 0, 1) := by decide +kernel
theorem dLink_isWithin_15 : decode uLink_isWithin.2.1 15 = .ok (.ireturn, 1) := by decide +kernel
theorem dLink_endOf_0 : decode uLink_endOf.2.1 0 = .ok (.iload_n 1, 1) := by decide +kernel
theorem dLink_endOf_1 : decode uLink_endOf.2.1 1 = .ok (.ifCond .eq 8, 3) := by decide +kernel
theorem dLink_endOf_4 : decode uLink_endOf.2.1 4 = .ok (.iload_n 1, 1) := by decide +kernel
theorem dLink_endOf_5 : decode uLink_endOf.2.1 5 = .ok (.iconst 1, 1) := by decide +kernel
theorem dLink_endOf_6 : decode uLink_endOf.2.1 6 = .ok (.if_icmp .ne 12, 3) := by decide +kernel
theorem dLink_endOf_9 : decode uLink_endOf.2.1 9 = .ok (.aload_n 0, 1) := by decide +kernel
theorem dLink_endOf_10 : decode uLink_endOf.2.1 10 = .ok (.getfield 12, 3) := by decide +kernel
theorem dLink_endOf_13 : decode uLink_endOf.2.1 13 = .ok (.iload_n 1, 1) := by decide +kernel
theorem dLink_endOf_14 : decode uLink_endOf.2.1 14 = .ok (.aaload, 1) := by decide +kernel
theorem dLink_endOf_15 : decode uLink_endOf.2.1 15 = .ok (.goto 4, 3) := by decide +kernel
theorem dLink_endOf_18 : decode uLink_endOf.2.1 18 = .ok (.aconst_null, 1) := by decide +kernel
theorem dLink_endOf_19 : decode uLink_endOf.2.1 19 = .ok (.areturn, 1) := by decide +kernel
theorem dLink_upEndOf_0 : decode uLink_upEndOf.2.1 0 = .ok (.aload_n 0, 1) := by decide +kernel
theorem dLink_upEndOf_1 : decode uLink_upEndOf.2.1 1 = .ok (.iload_n 1, 1) := by decide +kernel
theorem dLink_upEndOf_2 : decode uLink_upEndOf.2.1 2 = .ok (.invokevirtual 128, 3) := by decide +kernel
theorem dLink_upEndOf_5 : decode uLink_upEndOf.2.1 5 = .ok (.astore_n 2, 1) := by decide +kernel
theorem dLink_upEndOf_6 : decode uLink_upEndOf.2.1 6 = .ok (.aload_n 2, 1) := by decide +kernel
theorem dLink_upEndOf_7 : decode uLink_upEndOf.2.1 7 = .ok (.ifnull 10, 3) := by decide +kernel
theorem dLink_upEndOf_10 : decode uLink_upEndOf.2.1 10 = .ok (.aload_n 2, 1) := by decide +kernel
theorem dLink_upEndOf_11 : decode uLink_upEndOf.2.1 11 = .ok (.getfield 135, 3) := by decide +kernel
theorem dLink_upEndOf_14 : decode uLink_upEndOf.2.1 14 = .ok (.ifCond .eq 7, 3) := by decide +kernel
theorem dLink_upEndOf_17 : decode uLink_upEndOf.2.1 17 = .ok (.aconst_null, 1) := by decide +kernel
theorem dLink_upEndOf_18 : decode uLink_upEndOf.2.1 18 = .ok (.goto 4, 3) := by decide +kernel
theorem dLink_upEndOf_21 : decode uLink_upEndOf.2.1 21 = .ok (.aload_n 2, 1) := by decide +kernel
theorem dLink_upEndOf_22 : decode uLink_upEndOf.2.1 22 = .ok (.areturn, 1) := by decide +kernel
theorem dStream_isActive_0 : decode uStream_isActive.2.1 0 = .ok (.aload_n 0, 1) := by decide +kernel
theorem dStream_isActive_1 : decode uStream_isActive.2.1 1 = .ok (.getfield 9, 3) := by decide +kernel
theorem dStream_isActive_4 : decode uStream_isActive.2.1 4 = .ok (.iconst 1, 1) := by decide +kernel
theorem dStream_isActive_5 : decode uStream_isActive.2.1 5 = .ok (.if_icmp .eq 19, 3) := by decide +kernel
theorem dStream_isActive_8 : decode uStream_isActive.2.1 8 = .ok (.aload_n 0, 1) := by decide +kernel
theorem dStream_isActive_9 : decode uStream_isActive.2.1 9 = .ok (.getfield 9, 3) := by decide +kernel
theorem dStream_isActive_12 : decode uStream_isActive.2.1 12 = .ok (.iconst 2, 1) := by decide +kernel
theorem dStream_isActive_13 : decode uStream_isActive.2.1 13 = .ok (.if_icmp .eq 11, 3) := by decide +kernel
theorem dStream_isActive_16 : decode uStream_isActive.2.1 16 = .ok (.aload_n 0, 1) := by decide +kernel
theorem dStream_isActive_17 : decode uStream_isActive.2.1 17 = .ok (.getfield 9, 3) := by decide +kernel
theorem dStream_isActive_20 : decode uStream_isActive.2.1 20 = .ok (.iconst 3, 1) := by decide +kernel
theorem dStream_isActive_21 : decode uStream_isActive.2.1 21 = .ok (.if_icmp .ne 7, 3) := by decide +kernel
theorem dStream_isActive_24 : decode uStream_isActive.2.1 24 = .ok (.iconst 1, 1) := by decide +kernel
theorem dStream_isActive_25 : decode uStream_isActive.2.1 25 = .ok (.goto 4, 3) := by decide +kernel
theorem dStream_isActive_28 : decode uStream_isActive.2.1 28 = .ok (.iconst 0, 1) := by decide +kernel
theorem dStream_isActive_29 : decode uStream_isActive.2.1 29 = .ok (.ireturn, 1) := by decide +kernel
theorem dStream_maySend_0 : decode uStream_maySend.2.1 0 = .ok (.aload_n 0, 1) := by decide +kernel
theorem dStream_maySend_1 : decode uStream_maySend.2.1 1 = .ok (.getfield 9, 3) := by decide +kernel
theorem dStream_maySend_4 : decode uStream_maySend.2.1 4 = .ok (.iconst 1, 1) := by decide +kernel
theorem dStream_maySend_5 : decode uStream_maySend.2.1 5 = .ok (.if_icmp .eq 11, 3) := by decide +kernel
theorem dStream_maySend_8 : decode uStream_maySend.2.1 8 = .ok (.aload_n 0, 1) := by decide +kernel
theorem dStream_maySend_9 : decode uStream_maySend.2.1 9 = .ok (.getfield 9, 3) := by decide +kernel
theorem dStream_maySend_12 : decode uStream_maySend.2.1 12 = .ok (.iconst 3, 1) := by decide +kernel
theorem dStream_maySend_13 : decode uStream_maySend.2.1 13 = .ok (.if_icmp .ne 7, 3) := by decide +kernel
theorem dStream_maySend_16 : decode uStream_maySend.2.1 16 = .ok (.iconst 1, 1) := by decide +kernel
theorem dStream_maySend_17 : decode uStream_maySend.2.1 17 = .ok (.goto 4, 3) := by decide +kernel
theorem dStream_maySend_20 : decode uStream_maySend.2.1 20 = .ok (.iconst 0, 1) := by decide +kernel
theorem dStream_maySend_21 : decode uStream_maySend.2.1 21 = .ok (.ireturn, 1) := by decide +kernel
theorem dStream_mayGet_0 : decode uStream_mayGet.2.1 0 = .ok (.aload_n 0, 1) := by decide +kernel
theorem dStream_mayGet_1 : decode uStream_mayGet.2.1 1 = .ok (.getfield 9, 3) := by decide +kernel
theorem dStream_mayGet_4 : decode uStream_mayGet.2.1 4 = .ok (.iconst 1, 1) := by decide +kernel
theorem dStream_mayGet_5 : decode uStream_mayGet.2.1 5 = .ok (.if_icmp .eq 11, 3) := by decide +kernel
theorem dStream_mayGet_8 : decode uStream_mayGet.2.1 8 = .ok (.aload_n 0, 1) := by decide +kernel
theorem dStream_mayGet_9 : decode uStream_mayGet.2.1 9 = .ok (.getfield 9, 3) := by decide +kernel
theorem dStream_mayGet_12 : decode uStream_mayGet.2.1 12 = .ok (.iconst 2, 1) := by decide +kernel
theorem dStream_mayGet_13 : decode uStream_mayGet.2.1 13 = .ok (.if_icmp .ne 7, 3) := by decide +kernel
theorem dStream_mayGet_16 : decode uStream_mayGet.2.1 16 = .ok (.iconst 1, 1) := by decide +kernel
theorem dStream_mayGet_17 : decode uStream_mayGet.2.1 17 = .ok (.goto 4, 3) := by decide +kernel
theorem dStream_mayGet_20 : decode uStream_mayGet.2.1 20 = .ok (.iconst 0, 1) := by decide +kernel
theorem dStream_mayGet_21 : decode uStream_mayGet.2.1 21 = .ok (.ireturn, 1) := by decide +kernel
theorem dSett_isKnown_0 : decode uSett_isKnown.2.1 0 = .ok (.iload_n 0, 1) := by decide +kernel
theorem dSett_isKnown_1 : decode uSett_isKnown.2.1 1 = .ok (.iconst 1, 1) := by decide +kernel
theorem dSett_isKnown_2 : decode uSett_isKnown.2.1 2 = .ok (.if_icmp .eq 13, 3) := by decide +kernel
theorem dSett_isKnown_5 : decode uSett_isKnown.2.1 5 = .ok (.iload_n 0, 1) := by decide +kernel
theorem dSett_isKnown_6 : decode uSett_isKnown.2.1 6 = .ok (.iconst 3, 1) := by decide +kernel
theorem dSett_isKnown_7 : decode uSett_isKnown.2.1 7 = .ok (.if_icmp .eq 8, 3) := by decide +kernel
theorem dSett_isKnown_10 : decode uSett_isKnown.2.1 10 = .ok (.iload_n 0, 1) := by decide +kernel
theorem dSett_isKnown_11 : decode uSett_isKnown.2.1 11 = .ok (.iconst 4, 1) := by decide +kernel
theorem dSett_isKnown_12 : decode uSett_isKnown.2.1 12 = .ok (.if_icmp .ne 7, 3) := by decide +kernel
theorem dSett_isKnown_15 : decode uSett_isKnown.2.1 15 = .ok (.iconst 1, 1) := by decide +kernel
theorem dSett_isKnown_16 : decode uSett_isKnown.2.1 16 = .ok (.goto 4, 3) := by decide +kernel
theorem dSett_isKnown_19 : decode uSett_isKnown.2.1 19 = .ok (.iconst 0, 1) := by decide +kernel
theorem dSett_isKnown_20 : decode uSett_isKnown.2.1 20 = .ok (.ireturn, 1) := by decide +kernel
theorem dSett_isInRange_0 : decode uSett_isInRange.2.1 0 = .ok (.iload_n 0, 1) := by decide +kernel
theorem dSett_isInRange_1 : decode uSett_isInRange.2.1 1 = .ok (.tableswitch 56 1 4 #[31, 56, 40, 48], 31) := by decide +kernel
theorem dSett_isInRange_32 : decode uSett_isInRange.2.1 32 = .ok (.iload_n 1, 1) := by decide +kernel
theorem dSett_isInRange_33 : decode uSett_isInRange.2.1 33 = .ok (.iconst 0, 1) := by decide +kernel
theorem dSett_isInRange_34 : decode uSett_isInRange.2.1 34 = .ok (.sipush 200, 3) := by decide +kernel
theorem dSett_isInRange_37 : decode uSett_isInRange.2.1 37 = .ok (.invokestatic 21, 3) := by decide +kernel
theorem dSett_isInRange_40 : decode uSett_isInRange.2.1 40 = .ok (.ireturn, 1) := by decide +kernel
theorem dSett_isInRange_41 : decode uSett_isInRange.2.1 41 = .ok (.iload_n 1, 1) := by decide +kernel
theorem dSett_isInRange_42 : decode uSett_isInRange.2.1 42 = .ok (.iconst 0, 1) := by decide +kernel
theorem dSett_isInRange_43 : decode uSett_isInRange.2.1 43 = .ok (.bipush 12, 2) := by decide +kernel
theorem dSett_isInRange_45 : decode uSett_isInRange.2.1 45 = .ok (.invokestatic 21, 3) := by decide +kernel
theorem dSett_isInRange_48 : decode uSett_isInRange.2.1 48 = .ok (.ireturn, 1) := by decide +kernel
theorem dSett_isInRange_49 : decode uSett_isInRange.2.1 49 = .ok (.iload_n 1, 1) := by decide +kernel
theorem dSett_isInRange_50 : decode uSett_isInRange.2.1 50 = .ok (.iconst 0, 1) := by decide +kernel
theorem dSett_isInRange_51 : decode uSett_isInRange.2.1 51 = .ok (.bipush 64, 2) := by decide +kernel
theorem dSett_isInRange_53 : decode uSett_isInRange.2.1 53 = .ok (.invokestatic 21, 3) := by decide +kernel
theorem dSett_isInRange_56 : decode uSett_isInRange.2.1 56 = .ok (.ireturn, 1) := by decide +kernel
theorem dSett_isInRange_57 : decode uSett_isInRange.2.1 57 = .ok (.iconst 1, 1) := by decide +kernel
theorem dSett_isInRange_58 : decode uSett_isInRange.2.1 58 = .ok (.ireturn, 1) := by decide +kernel
theorem dEnd_streamOf_0 : decode uEnd_streamOf.2.1 0 = .ok (.iload_n 1, 1) := by decide +kernel
theorem dEnd_streamOf_1 : decode uEnd_streamOf.2.1 1 = .ok (.iconst 1, 1) := by decide +kernel
theorem dEnd_streamOf_2 : decode uEnd_streamOf.2.1 2 = .ok (.bipush 23, 2) := by decide +kernel
theorem dEnd_streamOf_4 : decode uEnd_streamOf.2.1 4 = .ok (.invokestatic 88, 3) := by decide +kernel
theorem dEnd_streamOf_7 : decode uEnd_streamOf.2.1 7 = .ok (.ifCond .eq 9, 3) := by decide +kernel
theorem dEnd_streamOf_10 : decode uEnd_streamOf.2.1 10 = .ok (.iload_n 1, 1) := by decide +kernel
theorem dEnd_streamOf_11 : decode uEnd_streamOf.2.1 11 = .ok (.iconst 2, 1) := by decide +kernel
theorem dEnd_streamOf_12 : decode uEnd_streamOf.2.1 12 = .ok (.irem, 1) := by decide +kernel
theorem dEnd_streamOf_13 : decode uEnd_streamOf.2.1 13 = .ok (.ifCond .ne 5, 3) := by decide +kernel
theorem dEnd_streamOf_16 : decode uEnd_streamOf.2.1 16 = .ok (.aconst_null, 1) := by decide +kernel
theorem dEnd_streamOf_17 : decode uEnd_streamOf.2.1 17 = .ok (.areturn, 1) := by decide +kernel
theorem dEnd_streamOf_18 : decode uEnd_streamOf.2.1 18 = .ok (.aload_n 0, 1) := by decide +kernel
theorem dEnd_streamOf_19 : decode uEnd_streamOf.2.1 19 = .ok (.getfield 44, 3) := by decide +kernel
theorem dEnd_streamOf_22 : decode uEnd_streamOf.2.1 22 = .ok (.iload_n 1, 1) := by decide +kernel
theorem dEnd_streamOf_23 : decode uEnd_streamOf.2.1 23 = .ok (.iconst 2, 1) := by decide +kernel
theorem dEnd_streamOf_24 : decode uEnd_streamOf.2.1 24 = .ok (.idiv, 1) := by decide +kernel
theorem dEnd_streamOf_25 : decode uEnd_streamOf.2.1 25 = .ok (.aaload, 1) := by decide +kernel
theorem dEnd_streamOf_26 : decode uEnd_streamOf.2.1 26 = .ok (.areturn, 1) := by decide +kernel
theorem dLink_streamOf_0 : decode uLink_streamOf.2.1 0 = .ok (.aload_n 0, 1) := by decide +kernel
theorem dLink_streamOf_1 : decode uLink_streamOf.2.1 1 = .ok (.ifnonnull 7, 3) := by decide +kernel
theorem dLink_streamOf_4 : decode uLink_streamOf.2.1 4 = .ok (.aconst_null, 1) := by decide +kernel
theorem dLink_streamOf_5 : decode uLink_streamOf.2.1 5 = .ok (.goto 8, 3) := by decide +kernel
theorem dLink_streamOf_8 : decode uLink_streamOf.2.1 8 = .ok (.aload_n 0, 1) := by decide +kernel
theorem dLink_streamOf_9 : decode uLink_streamOf.2.1 9 = .ok (.iload_n 1, 1) := by decide +kernel
theorem dLink_streamOf_10 : decode uLink_streamOf.2.1 10 = .ok (.invokevirtual 210, 3) := by decide +kernel
theorem dLink_streamOf_13 : decode uLink_streamOf.2.1 13 = .ok (.areturn, 1) := by decide +kernel
theorem dLink_down_0 : decode uLink_down.2.1 0 = .ok (.aload_n 0, 1) := by decide +kernel
theorem dLink_down_1 : decode uLink_down.2.1 1 = .ok (.iload_n 1, 1) := by decide +kernel
theorem dLink_down_2 : decode uLink_down.2.1 2 = .ok (.invokevirtual 128, 3) := by decide +kernel
theorem dLink_down_5 : decode uLink_down.2.1 5 = .ok (.astore_n 2, 1) := by decide +kernel
theorem dLink_down_6 : decode uLink_down.2.1 6 = .ok (.aload_n 2, 1) := by decide +kernel
theorem dLink_down_7 : decode uLink_down.2.1 7 = .ok (.ifnonnull 7, 3) := by decide +kernel
theorem dLink_down_10 : decode uLink_down.2.1 10 = .ok (.iconst (-1), 1) := by decide +kernel
theorem dLink_down_11 : decode uLink_down.2.1 11 = .ok (.goto 7, 3) := by decide +kernel
theorem dLink_down_14 : decode uLink_down.2.1 14 = .ok (.aload_n 2, 1) := by decide +kernel
theorem dLink_down_15 : decode uLink_down.2.1 15 = .ok (.getfield 135, 3) := by decide +kernel
theorem dLink_down_18 : decode uLink_down.2.1 18 = .ok (.ireturn, 1) := by decide +kernel
theorem dLink_state_0 : decode uLink_state.2.1 0 = .ok (.aload_n 0, 1) := by decide +kernel
theorem dLink_state_1 : decode uLink_state.2.1 1 = .ok (.iload_n 1, 1) := by decide +kernel
theorem dLink_state_2 : decode uLink_state.2.1 2 = .ok (.invokevirtual 128, 3) := by decide +kernel
theorem dLink_state_5 : decode uLink_state.2.1 5 = .ok (.iload_n 2, 1) := by decide +kernel
theorem dLink_state_6 : decode uLink_state.2.1 6 = .ok (.invokestatic 58, 3) := by decide +kernel
theorem dLink_state_9 : decode uLink_state.2.1 9 = .ok (.astore_n 3, 1) := by decide +kernel
theorem dLink_state_10 : decode uLink_state.2.1 10 = .ok (.aload_n 3, 1) := by decide +kernel
theorem dLink_state_11 : decode uLink_state.2.1 11 = .ok (.ifnonnull 7, 3) := by decide +kernel
theorem dLink_state_14 : decode uLink_state.2.1 14 = .ok (.iconst (-1), 1) := by decide +kernel
theorem dLink_state_15 : decode uLink_state.2.1 15 = .ok (.goto 7, 3) := by decide +kernel
theorem dLink_state_18 : decode uLink_state.2.1 18 = .ok (.aload_n 3, 1) := by decide +kernel
theorem dLink_state_19 : decode uLink_state.2.1 19 = .ok (.getfield 93, 3) := by decide +kernel
theorem dLink_state_22 : decode uLink_state.2.1 22 = .ok (.ireturn, 1) := by decide +kernel
theorem cs_Link_128 : cV "InterleavedLink" 128 uLink_endOf 1 := ⟨⟨Or.inl (gW_in 373 (by decide +kernel) rfl), (gW_in 64 (by decide +kernel) rfl), (gW_in 376 (by decide +kernel) rfl), ⟨by decide, by decide⟩, by decide +kernel⟩, (gW_in 375 (by decide +kernel) rfl), (gW_in 1 (by decide +kernel) rfl)⟩
theorem fs_Link_135 : fS "InterleavedLink" 135 2 3 := ⟨"InterleavedLink$End", T_End, 17, cf_End, by decide, Or.inl (gW_in 306 (by decide +kernel) rfl)⟩
theorem fs_Stream_9 : fS "InterleavedLink$Stream" 9 8 1 := ⟨"InterleavedLink$Stream", T_Stream, 10, cf_Stream, by decide, Or.inl (gW_in 253 (by decide +kernel) rfl)⟩
theorem cs_Sett_21 : cSt "InterleavedLink$Settings" 21 uLink_isWithin 3 := ⟨⟨Or.inr ⟨"InterleavedLink", (gN_in 679 (by decide +kernel) rfl)⟩, (gW_in 64 (by decide +kernel) rfl), (gW_in 379 (by decide +kernel) rfl), ⟨by decide, by decide⟩, by decide +kernel⟩, (gW_in 378 (by decide +kernel) rfl)⟩
theorem cs_End_88 : cSt "InterleavedLink$End" 88 uLink_isWithin 3 := ⟨⟨Or.inr ⟨"InterleavedLink", (gN_in 412 (by decide +kernel) rfl)⟩, (gW_in 64 (by decide +kernel) rfl), (gW_in 379 (by decide +kernel) rfl), ⟨by decide, by decide⟩, by decide +kernel⟩, (gW_in 378 (by decide +kernel) rfl)⟩
theorem cs_Link_210 : cV "InterleavedLink" 210 uEnd_streamOf 1 := ⟨⟨Or.inl (gW_in 563 (by decide +kernel) rfl), (gW_in 66 (by decide +kernel) rfl), (gW_in 411 (by decide +kernel) rfl), ⟨by decide, by decide⟩, by decide +kernel⟩, (gW_in 409 (by decide +kernel) rfl), (gW_in 410 (by decide +kernel) rfl)⟩
theorem cs_Link_58 : cSt "InterleavedLink" 58 uLink_streamOf 2 := ⟨⟨Or.inl (gW_in 560 (by decide +kernel) rfl), (gW_in 64 (by decide +kernel) rfl), (gW_in 562 (by decide +kernel) rfl), ⟨by decide, by decide⟩, by decide +kernel⟩, (gW_in 561 (by decide +kernel) rfl)⟩
theorem fs_Link_93 : fS "InterleavedLink" 93 8 1 := ⟨"InterleavedLink$Stream", T_Stream, 10, cf_Stream, by decide, Or.inl (gW_in 254 (by decide +kernel) rfl)⟩
/-! ===== the class: small reads ===== -/
def wi (x a b : Int32) : Int32 := if x < a then 0 else if b < x then 0 else 1
theorem wi_z (x a b : Int32) : wi x a b = 0 ∨ wi x a b = 1 := by unfold wi; split; exact Or.inl rfl; split; exact Or.inl rfl; exact Or.inr rfl
abbrev Kdown (M : mM) (e : Nat) : Int32 := mI M (9 + 80 * e) 3
abbrev Kstate (M : mM) (e k : Nat) : Int32 := mI M (29 + 80 * e + 5 * k) 1
def acC (M : mM) (e k : Nat) : Int32 := if Kstate M e k = 1 then 1 else if Kstate M e k = 2 then 1 else if ¬ Kstate M e k = 3 then 0 else 1
def msC (M : mM) (e k : Nat) : Int32 := if Kstate M e k = 1 then 1 else if ¬ Kstate M e k = 3 then 0 else 1
def mgC (M : mM) (e k : Nat) : Int32 := if Kstate M e k = 1 then 1 else if ¬ Kstate M e k = 2 then 0 else 1
def knC (x : Int32) : Int32 := if x = 1 then 1 else if x = 3 then 1 else if ¬ x = 4 then 0 else 1
def rgC (x v : Int32) : Int32 := if x = 1 then wi v 0 200 else if x = 3 then wi v 0 12 else if x = 4 then wi v 0 64 else 1
theorem rgC_z (x v : Int32) : rgC x v = 0 ∨ rgC x v = 1 := by unfold rgC; split; exact wi_z _ _ _; split; exact wi_z _ _ _; split; exact wi_z _ _ _; exact Or.inr rfl
set_option maxRecDepth 100000 in
set_option maxHeartbeats 4000000 in
theorem ct_isWithin {X : mX} {l : Launch} {M : mM} {x a b : Int32} : Ct X l uLink_isWithin (rk 0 0) [.int x, .int a, .int b] M (fun r M' => r = some (.int (wi x a b)) ∧ M' = M) := by
  refine Ct.of (by decide) (Nat.le_of_ble_eq_true rfl) ?_
  show G X l uLink_isWithin (rk 0 0) 0 0 M 0 [some (.int x), some (.int a), some (.int b)] [] _
  refine g_iload_n 0 dLink_isWithin_0 rfl ?_
  refine g_iload_n 1 dLink_isWithin_1 rfl ?_
  refine g_icmp_lt 2 14 dLink_isWithin_2 rfl (fun h2 => ?_) (fun h2 => ?_)
  · refine g_iconst 14 0 dLink_isWithin_14 rfl ?_
    exact g_zret 15 dLink_isWithin_15 rfl (by decide) ⟨by first | (simp only [wi, *, if_true, if_false, not_true_eq_false, not_false_eq_true, and_true, true_and, and_false, false_and, and_self, reduceIte]; done) | (simp_all [wi]; done), rfl⟩
  · refine g_iload_n 5 dLink_isWithin_5 rfl ?_
    refine g_iload_n 6 dLink_isWithin_6 rfl ?_
    refine g_icmp_gt 7 14 dLink_isWithin_7 rfl (fun h7 => ?_) (fun h7 => ?_)
    · refine g_iconst 14 0 dLink_isWithin_14 rfl ?_
      exact g_zret 15 dLink_isWithin_15 rfl (by decide) ⟨by first | (simp only [wi, *, if_true, if_false, not_true_eq_false, not_false_eq_true, and_true, true_and, and_false, false_and, and_self, reduceIte]; done) | (simp_all [wi]; done), rfl⟩
    · refine g_iconst 10 1 dLink_isWithin_10 rfl ?_
      refine g_goto 11 15 dLink_isWithin_11 rfl ?_
      exact g_zret 15 dLink_isWithin_15 rfl (by decide) ⟨by first | (simp only [wi, *, if_true, if_false, not_true_eq_false, not_false_eq_true, and_true, true_and, and_false, false_and, and_self, reduceIte]; done) | (simp_all [wi]; done), rfl⟩

set_option maxRecDepth 100000 in
set_option maxHeartbeats 4000000 in
theorem ct_endOf {X : mX} {l : Launch} {M : mM} {e : Nat} (hS : Shp M) (he : e < 2) : Ct X l uLink_endOf (rk 0 0) [.ref 3, .int (nI e)] M (fun r M' => r = some (.ref (9 + 80 * e)) ∧ M' = M) := by
  refine Ct.of (by decide) (Nat.le_of_ble_eq_true rfl) ?_
  show G X l uLink_endOf (rk 0 0) 0 0 M 0 [some (.ref 3), some (.int (nI e))] [] _
  refine g_iload_n 0 dLink_endOf_0 rfl ?_
  refine g_if_eqN 1 9 dLink_endOf_1 rfl (by omega) (fun h1 => ?_) (fun h1 => ?_)
  · refine g_aload_n 9 dLink_endOf_9 rfl ?_
    refine g_getr 10 0 0 dLink_endOf_10 fs_Link_12 rfl hS.link hS.rLink ?_
    refine g_iload_n 13 dLink_endOf_13 rfl ?_
    refine g_aaldN 14 6 (o := some _) dLink_endOf_14 rfl (by decide) hS.TEnds (by omega) (by decide) (hS.rEnds he) ?_
    refine g_goto 15 19 dLink_endOf_15 rfl ?_
    exact g_aret 19 dLink_endOf_19 rfl (Or.inl ⟨_, rfl⟩) ⟨rfl, rfl⟩
  · refine g_iload_n 4 dLink_endOf_4 rfl ?_
    refine g_iconst 5 (nI 1) dLink_endOf_5 rfl ?_
    refine g_icmp_neN 6 18 dLink_endOf_6 rfl (by omega) (by omega) (fun h6 => ?_) (fun h6 => ?_)
    · exact absurd h6 (by omega)
    · refine g_aload_n 9 dLink_endOf_9 rfl ?_
      refine g_getr 10 0 0 dLink_endOf_10 fs_Link_12 rfl hS.link hS.rLink ?_
      refine g_iload_n 13 dLink_endOf_13 rfl ?_
      refine g_aaldN 14 6 (o := some _) dLink_endOf_14 rfl (by decide) hS.TEnds (by omega) (by decide) (hS.rEnds he) ?_
      refine g_goto 15 19 dLink_endOf_15 rfl ?_
      exact g_aret 19 dLink_endOf_19 rfl (Or.inl ⟨_, rfl⟩) ⟨rfl, rfl⟩

set_option maxRecDepth 100000 in
set_option maxHeartbeats 4000000 in
theorem ct_endOf_no {X : mX} {l : Launch} {M : mM} {x : Int32} (h0 : ¬ x = 0) (h1 : ¬ x = 1) : Ct X l uLink_endOf (rk 0 0) [.ref 3, .int x] M (fun r M' => r = some (.null) ∧ M' = M) := by
  refine Ct.of (by decide) (Nat.le_of_ble_eq_true rfl) ?_
  show G X l uLink_endOf (rk 0 0) 0 0 M 0 [some (.ref 3), some (.int x)] [] _
  refine g_iload_n 0 dLink_endOf_0 rfl ?_
  refine g_if_eq 1 9 dLink_endOf_1 rfl (fun h1_ => ?_) (fun h1_ => ?_)
  · exact absurd h1_ h0
  · refine g_iload_n 4 dLink_endOf_4 rfl ?_
    refine g_iconst 5 1 dLink_endOf_5 rfl ?_
    refine g_icmp_ne 6 18 dLink_endOf_6 rfl (fun h6 => ?_) (fun h6 => ?_)
    · refine g_null 18 dLink_endOf_18 ?_
      exact g_aretN 19 dLink_endOf_19 rfl (Or.inl ⟨_, rfl⟩) ⟨rfl, rfl⟩
    · exact absurd h6 h1

set_option maxRecDepth 100000 in
set_option maxHeartbeats 4000000 in
theorem ct_upEndOf {X : mX} {l : Launch} {M : mM} {e : Nat} (hS : Shp M) (he : e < 2) (hu : Kdown M e = 0) : Ct X l uLink_upEndOf (rk 1 21) [.ref 3, .int (nI e)] M (fun r M' => r = some (.ref (9 + 80 * e)) ∧ M' = M) := by
  refine Ct.of (by decide) (Nat.le_of_ble_eq_true rfl) ?_
  show G X l uLink_upEndOf (rk 1 21) 0 0 M 0 [some (.ref 3), some (.int (nI e)), none] [] _
  refine g_aload_n 0 dLink_upEndOf_0 rfl ?_
  refine g_iload_n 1 dLink_upEndOf_1 rfl ?_
  refine g_callV 2 [_] dLink_upEndOf_2 cs_Link_128 rfl (ci := 0) rfl (by decide) hS.link rfl ⟨(Nat.le_of_ble_eq_true rfl), (Nat.le_of_ble_eq_true rfl)⟩ (Nat.le_of_ble_eq_true rfl) (ct_endOf hS he) (Nat.le_of_ble_eq_true rfl) (Nat.le_of_ble_eq_true rfl) ?_
  rintro _ M2 ⟨rfl, hM2⟩
  rw [hM2]
  clear hM2 M2
  refine g_astore_n 5 dLink_upEndOf_5 (by decide) rfl ?_
  refine g_aload_n 6 dLink_upEndOf_6 rfl ?_
  refine g_ifnull 7 dLink_upEndOf_7 ?_
  refine g_aload_n 10 dLink_upEndOf_10 rfl ?_
  refine g_geti 11 2 3 dLink_upEndOf_11 fs_Link_135 rfl (hS.tEnd he) ?_
  refine g_if_eq 14 21 dLink_upEndOf_14 rfl (fun h14 => ?_) (fun h14 => ?_)
  · refine g_aload_n 21 dLink_upEndOf_21 rfl ?_
    exact g_aret 22 dLink_upEndOf_22 rfl (Or.inl ⟨_, rfl⟩) ⟨rfl, rfl⟩
  · exact absurd hu h14

set_option maxRecDepth 100000 in
set_option maxHeartbeats 4000000 in
theorem ct_upEndOf_dn {X : mX} {l : Launch} {M : mM} {e : Nat} (hS : Shp M) (he : e < 2) (hu : ¬ Kdown M e = 0) : Ct X l uLink_upEndOf (rk 1 21) [.ref 3, .int (nI e)] M (fun r M' => r = some (.null) ∧ M' = M) := by
  refine Ct.of (by decide) (Nat.le_of_ble_eq_true rfl) ?_
  show G X l uLink_upEndOf (rk 1 21) 0 0 M 0 [some (.ref 3), some (.int (nI e)), none] [] _
  refine g_aload_n 0 dLink_upEndOf_0 rfl ?_
  refine g_iload_n 1 dLink_upEndOf_1 rfl ?_
  refine g_callV 2 [_] dLink_upEndOf_2 cs_Link_128 rfl (ci := 0) rfl (by decide) hS.link rfl ⟨(Nat.le_of_ble_eq_true rfl), (Nat.le_of_ble_eq_true rfl)⟩ (Nat.le_of_ble_eq_true rfl) (ct_endOf hS he) (Nat.le_of_ble_eq_true rfl) (Nat.le_of_ble_eq_true rfl) ?_
  rintro _ M2 ⟨rfl, hM2⟩
  rw [hM2]
  clear hM2 M2
  refine g_astore_n 5 dLink_upEndOf_5 (by decide) rfl ?_
  refine g_aload_n 6 dLink_upEndOf_6 rfl ?_
  refine g_ifnull 7 dLink_upEndOf_7 ?_
  refine g_aload_n 10 dLink_upEndOf_10 rfl ?_
  refine g_geti 11 2 3 dLink_upEndOf_11 fs_Link_135 rfl (hS.tEnd he) ?_
  refine g_if_eq 14 21 dLink_upEndOf_14 rfl (fun h14 => ?_) (fun h14 => ?_)
  · exact absurd h14 hu
  · refine g_null 17 dLink_upEndOf_17 ?_
    refine g_goto 18 22 dLink_upEndOf_18 rfl ?_
    exact g_aretN 22 dLink_upEndOf_22 rfl (Or.inl ⟨_, rfl⟩) ⟨rfl, rfl⟩

set_option maxRecDepth 100000 in
set_option maxHeartbeats 4000000 in
theorem ct_upEndOf_no {X : mX} {l : Launch} {M : mM} {x : Int32} (hS : Shp M) (h0 : ¬ x = 0) (h1 : ¬ x = 1) : Ct X l uLink_upEndOf (rk 1 21) [.ref 3, .int x] M (fun r M' => r = some (.null) ∧ M' = M) := by
  refine Ct.of (by decide) (Nat.le_of_ble_eq_true rfl) ?_
  show G X l uLink_upEndOf (rk 1 21) 0 0 M 0 [some (.ref 3), some (.int x), none] [] _
  refine g_aload_n 0 dLink_upEndOf_0 rfl ?_
  refine g_iload_n 1 dLink_upEndOf_1 rfl ?_
  refine g_callV 2 [_] dLink_upEndOf_2 cs_Link_128 rfl (ci := 0) rfl (by decide) hS.link rfl ⟨(Nat.le_of_ble_eq_true rfl), (Nat.le_of_ble_eq_true rfl)⟩ (Nat.le_of_ble_eq_true rfl) (ct_endOf_no h0 h1) (Nat.le_of_ble_eq_true rfl) (Nat.le_of_ble_eq_true rfl) ?_
  rintro _ M2 ⟨rfl, hM2⟩
  rw [hM2]
  clear hM2 M2
  refine g_astore_nN 5 dLink_upEndOf_5 (by decide) rfl ?_
  refine g_aload_nN 6 dLink_upEndOf_6 rfl ?_
  refine g_ifnullN 7 17 dLink_upEndOf_7 rfl ?_
  refine g_null 17 dLink_upEndOf_17 ?_
  refine g_goto 18 22 dLink_upEndOf_18 rfl ?_
  exact g_aretN 22 dLink_upEndOf_22 rfl (Or.inl ⟨_, rfl⟩) ⟨rfl, rfl⟩

set_option maxRecDepth 100000 in
set_option maxHeartbeats 4000000 in
theorem ct_Str_isActive {X : mX} {l : Launch} {M : mM} {e k : Nat} (hS : Shp M) (he : e < 2) (hk : k < 12) : Ct X l uStream_isActive (rk 0 0) [.ref (29 + 80 * e + 5 * k)] M (fun r M' => r = some (.int (acC M e k)) ∧ M' = M) := by
  refine Ct.of (by decide) (Nat.le_of_ble_eq_true rfl) ?_
  show G X l uStream_isActive (rk 0 0) 0 0 M 0 [some (.ref (29 + 80 * e + 5 * k))] [] _
  refine g_aload_n 0 dStream_isActive_0 rfl ?_
  refine g_geti 1 8 1 dStream_isActive_1 fs_Stream_9 rfl (hS.tStr he hk) ?_
  refine g_iconst 4 1 dStream_isActive_4 rfl ?_
  refine g_icmp_eq 5 24 dStream_isActive_5 rfl (fun h5 => ?_) (fun h5 => ?_)
  · refine g_iconst 24 1 dStream_isActive_24 rfl ?_
    refine g_goto 25 29 dStream_isActive_25 rfl ?_
    exact g_zret 29 dStream_isActive_29 rfl (by decide) ⟨by first | (simp only [acC, *, if_true, if_false, not_true_eq_false, not_false_eq_true, and_true, true_and, and_false, false_and, and_self, reduceIte]; done) | (simp_all [acC]; done), rfl⟩
  · refine g_aload_n 8 dStream_isActive_8 rfl ?_
    refine g_geti 9 8 1 dStream_isActive_9 fs_Stream_9 rfl (hS.tStr he hk) ?_
    refine g_iconst 12 2 dStream_isActive_12 rfl ?_
    refine g_icmp_eq 13 24 dStream_isActive_13 rfl (fun h13 => ?_) (fun h13 => ?_)
    · refine g_iconst 24 1 dStream_isActive_24 rfl ?_
      refine g_goto 25 29 dStream_isActive_25 rfl ?_
      exact g_zret 29 dStream_isActive_29 rfl (by decide) ⟨by first | (simp only [acC, *, if_true, if_false, not_true_eq_false, not_false_eq_true, and_true, true_and, and_false, false_and, and_self, reduceIte]; done) | (simp_all [acC]; done), rfl⟩
    · refine g_aload_n 16 dStream_isActive_16 rfl ?_
      refine g_geti 17 8 1 dStream_isActive_17 fs_Stream_9 rfl (hS.tStr he hk) ?_
      refine g_iconst 20 3 dStream_isActive_20 rfl ?_
      refine g_icmp_ne 21 28 dStream_isActive_21 rfl (fun h21 => ?_) (fun h21 => ?_)
      · refine g_iconst 28 0 dStream_isActive_28 rfl ?_
        exact g_zret 29 dStream_isActive_29 rfl (by decide) ⟨by first | (simp only [acC, *, if_true, if_false, not_true_eq_false, not_false_eq_true, and_true, true_and, and_false, false_and, and_self, reduceIte]; done) | (simp_all [acC]; done), rfl⟩
      · refine g_iconst 24 1 dStream_isActive_24 rfl ?_
        refine g_goto 25 29 dStream_isActive_25 rfl ?_
        exact g_zret 29 dStream_isActive_29 rfl (by decide) ⟨by first | (simp only [acC, *, if_true, if_false, not_true_eq_false, not_false_eq_true, and_true, true_and, and_false, false_and, and_self, reduceIte]; done) | (simp_all [acC]; done), rfl⟩

set_option maxRecDepth 100000 in
set_option maxHeartbeats 4000000 in
theorem ct_Str_maySend {X : mX} {l : Launch} {M : mM} {e k : Nat} (hS : Shp M) (he : e < 2) (hk : k < 12) : Ct X l uStream_maySend (rk 0 0) [.ref (29 + 80 * e + 5 * k)] M (fun r M' => r = some (.int (msC M e k)) ∧ M' = M) := by
  refine Ct.of (by decide) (Nat.le_of_ble_eq_true rfl) ?_
  show G X l uStream_maySend (rk 0 0) 0 0 M 0 [some (.ref (29 + 80 * e + 5 * k))] [] _
  refine g_aload_n 0 dStream_maySend_0 rfl ?_
  refine g_geti 1 8 1 dStream_maySend_1 fs_Stream_9 rfl (hS.tStr he hk) ?_
  refine g_iconst 4 1 dStream_maySend_4 rfl ?_
  refine g_icmp_eq 5 16 dStream_maySend_5 rfl (fun h5 => ?_) (fun h5 => ?_)
  · refine g_iconst 16 1 dStream_maySend_16 rfl ?_
    refine g_goto 17 21 dStream_maySend_17 rfl ?_
    exact g_zret 21 dStream_maySend_21 rfl (by decide) ⟨by first | (simp only [msC, *, if_true, if_false, not_true_eq_false, not_false_eq_true, and_true, true_and, and_false, false_and, and_self, reduceIte]; done) | (simp_all [msC]; done), rfl⟩
  · refine g_aload_n 8 dStream_maySend_8 rfl ?_
    refine g_geti 9 8 1 dStream_maySend_9 fs_Stream_9 rfl (hS.tStr he hk) ?_
    refine g_iconst 12 3 dStream_maySend_12 rfl ?_
    refine g_icmp_ne 13 20 dStream_maySend_13 rfl (fun h13 => ?_) (fun h13 => ?_)
    · refine g_iconst 20 0 dStream_maySend_20 rfl ?_
      exact g_zret 21 dStream_maySend_21 rfl (by decide) ⟨by first | (simp only [msC, *, if_true, if_false, not_true_eq_false, not_false_eq_true, and_true, true_and, and_false, false_and, and_self, reduceIte]; done) | (simp_all [msC]; done), rfl⟩
    · refine g_iconst 16 1 dStream_maySend_16 rfl ?_
      refine g_goto 17 21 dStream_maySend_17 rfl ?_
      exact g_zret 21 dStream_maySend_21 rfl (by decide) ⟨by first | (simp only [msC, *, if_true, if_false, not_true_eq_false, not_false_eq_true, and_true, true_and, and_false, false_and, and_self, reduceIte]; done) | (simp_all [msC]; done), rfl⟩

set_option maxRecDepth 100000 in
set_option maxHeartbeats 4000000 in
theorem ct_Str_mayGet {X : mX} {l : Launch} {M : mM} {e k : Nat} (hS : Shp M) (he : e < 2) (hk : k < 12) : Ct X l uStream_mayGet (rk 0 0) [.ref (29 + 80 * e + 5 * k)] M (fun r M' => r = some (.int (mgC M e k)) ∧ M' = M) := by
  refine Ct.of (by decide) (Nat.le_of_ble_eq_true rfl) ?_
  show G X l uStream_mayGet (rk 0 0) 0 0 M 0 [some (.ref (29 + 80 * e + 5 * k))] [] _
  refine g_aload_n 0 dStream_mayGet_0 rfl ?_
  refine g_geti 1 8 1 dStream_mayGet_1 fs_Stream_9 rfl (hS.tStr he hk) ?_
  refine g_iconst 4 1 dStream_mayGet_4 rfl ?_
  refine g_icmp_eq 5 16 dStream_mayGet_5 rfl (fun h5 => ?_) (fun h5 => ?_)
  · refine g_iconst 16 1 dStream_mayGet_16 rfl ?_
    refine g_goto 17 21 dStream_mayGet_17 rfl ?_
    exact g_zret 21 dStream_mayGet_21 rfl (by decide) ⟨by first | (simp only [mgC, *, if_true, if_false, not_true_eq_false, not_false_eq_true, and_true, true_and, and_false, false_and, and_self, reduceIte]; done) | (simp_all [mgC]; done), rfl⟩
  · refine g_aload_n 8 dStream_mayGet_8 rfl ?_
    refine g_geti 9 8 1 dStream_mayGet_9 fs_Stream_9 rfl (hS.tStr he hk) ?_
    refine g_iconst 12 2 dStream_mayGet_12 rfl ?_
    refine g_icmp_ne 13 20 dStream_mayGet_13 rfl (fun h13 => ?_) (fun h13 => ?_)
    · refine g_iconst 20 0 dStream_mayGet_20 rfl ?_
      exact g_zret 21 dStream_mayGet_21 rfl (by decide) ⟨by first | (simp only [mgC, *, if_true, if_false, not_true_eq_false, not_false_eq_true, and_true, true_and, and_false, false_and, and_self, reduceIte]; done) | (simp_all [mgC]; done), rfl⟩
    · refine g_iconst 16 1 dStream_mayGet_16 rfl ?_
      refine g_goto 17 21 dStream_mayGet_17 rfl ?_
      exact g_zret 21 dStream_mayGet_21 rfl (by decide) ⟨by first | (simp only [mgC, *, if_true, if_false, not_true_eq_false, not_false_eq_true, and_true, true_and, and_false, false_and, and_self, reduceIte]; done) | (simp_all [mgC]; done), rfl⟩

set_option maxRecDepth 100000 in
set_option maxHeartbeats 4000000 in
theorem ct_Sett_isKnown {X : mX} {l : Launch} {M : mM} {x : Int32} : Ct X l uSett_isKnown (rk 0 0) [.int x] M (fun r M' => r = some (.int (knC x)) ∧ M' = M) := by
  refine Ct.of (by decide) (Nat.le_of_ble_eq_true rfl) ?_
  show G X l uSett_isKnown (rk 0 0) 0 0 M 0 [some (.int x)] [] _
  refine g_iload_n 0 dSett_isKnown_0 rfl ?_
  refine g_iconst 1 1 dSett_isKnown_1 rfl ?_
  refine g_icmp_eq 2 15 dSett_isKnown_2 rfl (fun h2 => ?_) (fun h2 => ?_)
  · refine g_iconst 15 1 dSett_isKnown_15 rfl ?_
    refine g_goto 16 20 dSett_isKnown_16 rfl ?_
    exact g_zret 20 dSett_isKnown_20 rfl (by decide) ⟨by first | (simp only [knC, *, if_true, if_false, not_true_eq_false, not_false_eq_true, and_true, true_and, and_false, false_and, and_self, reduceIte]; done) | (simp_all [knC]; done), rfl⟩
  · refine g_iload_n 5 dSett_isKnown_5 rfl ?_
    refine g_iconst 6 3 dSett_isKnown_6 rfl ?_
    refine g_icmp_eq 7 15 dSett_isKnown_7 rfl (fun h7 => ?_) (fun h7 => ?_)
    · refine g_iconst 15 1 dSett_isKnown_15 rfl ?_
      refine g_goto 16 20 dSett_isKnown_16 rfl ?_
      exact g_zret 20 dSett_isKnown_20 rfl (by decide) ⟨by first | (simp only [knC, *, if_true, if_false, not_true_eq_false, not_false_eq_true, and_true, true_and, and_false, false_and, and_self, reduceIte]; done) | (simp_all [knC]; done), rfl⟩
    · refine g_iload_n 10 dSett_isKnown_10 rfl ?_
      refine g_iconst 11 4 dSett_isKnown_11 rfl ?_
      refine g_icmp_ne 12 19 dSett_isKnown_12 rfl (fun h12 => ?_) (fun h12 => ?_)
      · refine g_iconst 19 0 dSett_isKnown_19 rfl ?_
        exact g_zret 20 dSett_isKnown_20 rfl (by decide) ⟨by first | (simp only [knC, *, if_true, if_false, not_true_eq_false, not_false_eq_true, and_true, true_and, and_false, false_and, and_self, reduceIte]; done) | (simp_all [knC]; done), rfl⟩
      · refine g_iconst 15 1 dSett_isKnown_15 rfl ?_
        refine g_goto 16 20 dSett_isKnown_16 rfl ?_
        exact g_zret 20 dSett_isKnown_20 rfl (by decide) ⟨by first | (simp only [knC, *, if_true, if_false, not_true_eq_false, not_false_eq_true, and_true, true_and, and_false, false_and, and_self, reduceIte]; done) | (simp_all [knC]; done), rfl⟩

set_option maxRecDepth 100000 in
set_option maxHeartbeats 4000000 in
theorem ct_Sett_isInRange {X : mX} {l : Launch} {M : mM} {x v : Int32} : Ct X l uSett_isInRange (rk 1 22) [.int x, .int v] M (fun r M' => r = some (.int (rgC x v)) ∧ M' = M) := by
  refine Ct.of (by decide) (Nat.le_of_ble_eq_true rfl) ?_
  show G X l uSett_isInRange (rk 1 22) 0 0 M 0 [some (.int x), some (.int v)] [] _
  refine g_iload_n 0 dSett_isInRange_0 rfl ?_
  by_cases s1_1 : x = 1
  · refine g_top 1 s1_1 ?_
    refine g_tableIn 1 32 dSett_isInRange_1 (by decide) (by decide) rfl rfl ?_
    refine g_iload_n 32 dSett_isInRange_32 rfl ?_
    refine g_iconst 33 0 dSett_isInRange_33 rfl ?_
    refine g_sipush 34 200 dSett_isInRange_34 rfl ?_
    refine g_callS 37 [_, _, _] dSett_isInRange_37 cs_Sett_21 rfl rfl ⟨(Nat.le_of_ble_eq_true rfl), (Nat.le_of_ble_eq_true rfl)⟩ (Nat.le_of_ble_eq_true rfl) (ct_isWithin) (Nat.le_of_ble_eq_true rfl) (Nat.le_of_ble_eq_true rfl) ?_
    rintro _ M2 ⟨rfl, hM2⟩
    rw [hM2]
    clear hM2 M2
    exact g_zret 40 dSett_isInRange_40 rfl (wi_z _ _ _) ⟨by simp_all [rgC], rfl⟩
  by_cases s1_2 : x = 2
  · refine g_top 2 s1_2 ?_
    refine g_tableIn 1 57 dSett_isInRange_1 (by decide) (by decide) rfl rfl ?_
    refine g_iconst 57 1 dSett_isInRange_57 rfl ?_
    exact g_zret 58 dSett_isInRange_58 rfl (by decide) ⟨by simp_all [rgC], rfl⟩
  by_cases s1_3 : x = 3
  · refine g_top 3 s1_3 ?_
    refine g_tableIn 1 41 dSett_isInRange_1 (by decide) (by decide) rfl rfl ?_
    refine g_iload_n 41 dSett_isInRange_41 rfl ?_
    refine g_iconst 42 0 dSett_isInRange_42 rfl ?_
    refine g_bipush 43 12 dSett_isInRange_43 rfl ?_
    refine g_callS 45 [_, _, _] dSett_isInRange_45 cs_Sett_21 rfl rfl ⟨(Nat.le_of_ble_eq_true rfl), (Nat.le_of_ble_eq_true rfl)⟩ (Nat.le_of_ble_eq_true rfl) (ct_isWithin) (Nat.le_of_ble_eq_true rfl) (Nat.le_of_ble_eq_true rfl) ?_
    rintro _ M2 ⟨rfl, hM2⟩
    rw [hM2]
    clear hM2 M2
    exact g_zret 48 dSett_isInRange_48 rfl (wi_z _ _ _) ⟨by simp_all [rgC], rfl⟩
  by_cases s1_4 : x = 4
  · refine g_top 4 s1_4 ?_
    refine g_tableIn 1 49 dSett_isInRange_1 (by decide) (by decide) rfl rfl ?_
    refine g_iload_n 49 dSett_isInRange_49 rfl ?_
    refine g_iconst 50 0 dSett_isInRange_50 rfl ?_
    refine g_bipush 51 64 dSett_isInRange_51 rfl ?_
    refine g_callS 53 [_, _, _] dSett_isInRange_53 cs_Sett_21 rfl rfl ⟨(Nat.le_of_ble_eq_true rfl), (Nat.le_of_ble_eq_true rfl)⟩ (Nat.le_of_ble_eq_true rfl) (ct_isWithin) (Nat.le_of_ble_eq_true rfl) (Nat.le_of_ble_eq_true rfl) ?_
    rintro _ M2 ⟨rfl, hM2⟩
    rw [hM2]
    clear hM2 M2
    exact g_zret 56 dSett_isInRange_56 rfl (wi_z _ _ _) ⟨by simp_all [rgC], rfl⟩
  refine g_tableOut 1 57 dSett_isInRange_1 (by have q0 := lv_neT s1_1 (a := 1) rfl; have q1 := lv_neT s1_2 (a := 2) rfl; have q2 := lv_neT s1_3 (a := 3) rfl; have q3 := lv_neT s1_4 (a := 4) rfl; omega) rfl ?_
  refine g_iconst 57 1 dSett_isInRange_57 rfl ?_
  exact g_zret 58 dSett_isInRange_58 rfl (by decide) ⟨by simp_all [rgC], rfl⟩

theorem odd_of {x : Int32} (h1 : ¬ x < 1) (h2 : ¬ 23 < x) : ∃ j : Nat, 1 ≤ j ∧ j ≤ 23 ∧ x = nI j := by
  obtain ⟨j, hj, e⟩ := nI_of2 (x := x) (M := 23) (n := 23) rfl (fun q => h1 (by rw [Int32.lt_iff_toInt_lt] at q ⊢; have : (1 : Int32).toInt = 1 := rfl; have : (0 : Int32).toInt = 0 := rfl; omega)) (Int32.not_lt.mp h2)
  subst e
  refine ⟨j, Nat.pos_of_ne_zero fun q => ?_, hj, rfl⟩
  subst q
  exact h1 (by decide)
/-- the number of a stream -/
def isStr (x : Int32) : Prop := ∃ k, k < 12 ∧ x = nI (2 * k + 1)
set_option maxRecDepth 100000 in
set_option maxHeartbeats 4000000 in
theorem ct_End_streamOf {X : mX} {l : Launch} {M : mM} {e k : Nat} (hS : Shp M) (he : e < 2) (hk : k < 12) : Ct X l uEnd_streamOf (rk 1 22) [.ref (9 + 80 * e), .int (nI (2 * k + 1))] M (fun r M' => r = some (.ref (29 + 80 * e + 5 * k)) ∧ M' = M) := by
  refine Ct.of (by decide) (Nat.le_of_ble_eq_true rfl) ?_
  show G X l uEnd_streamOf (rk 1 22) 0 0 M 0 [some (.ref (9 + 80 * e)), some (.int (nI (2 * k + 1)))] [] _
  refine g_iload_n 0 dEnd_streamOf_0 rfl ?_
  refine g_iconst 1 1 dEnd_streamOf_1 rfl ?_
  refine g_bipush 2 23 dEnd_streamOf_2 rfl ?_
  refine g_callS 4 [_, _, _] dEnd_streamOf_4 cs_End_88 rfl rfl ⟨(Nat.le_of_ble_eq_true rfl), (Nat.le_of_ble_eq_true rfl)⟩ (Nat.le_of_ble_eq_true rfl) (ct_isWithin) (Nat.le_of_ble_eq_true rfl) (Nat.le_of_ble_eq_true rfl) ?_
  rintro _ M2 ⟨rfl, hM2⟩
  rw [hM2]
  clear hM2 M2
  refine g_if_eq 7 16 dEnd_streamOf_7 rfl (fun h7 => ?_) (fun h7 => ?_)
  · exact absurd h7 (by rcases (by omega : k = 0 ∨ k = 1 ∨ k = 2 ∨ k = 3 ∨ k = 4 ∨ k = 5 ∨ k = 6 ∨ k = 7 ∨ k = 8 ∨ k = 9 ∨ k = 10 ∨ k = 11) with rfl | rfl | rfl | rfl | rfl | rfl | rfl | rfl | rfl | rfl | rfl | rfl <;> decide)
  · refine g_iload_n 10 dEnd_streamOf_10 rfl ?_
    refine g_iconst 11 (nI 2) dEnd_streamOf_11 rfl ?_
    refine g_iremN 12 dEnd_streamOf_12 (by omega) (by decide) (by decide) ?_
    refine g_if_neN 13 18 dEnd_streamOf_13 rfl (by omega) (fun h13 => ?_) (fun h13 => ?_)
    · refine g_aload_n 18 dEnd_streamOf_18 rfl ?_
      refine g_getr 19 2 9 dEnd_streamOf_19 fs_End_44 rfl (hS.tEnd he) (hS.rEnd9 he) ?_
      refine g_iload_n 22 dEnd_streamOf_22 rfl ?_
      refine g_iconst 23 (nI 2) dEnd_streamOf_23 rfl ?_
      refine g_idivN 24 dEnd_streamOf_24 (by omega) (by decide) (by decide) ?_
      refine g_top (nI (k)) (by rw [show (2 * k + 1) / 2 = k by omega]) ?_
      refine g_aaldN 25 5 (o := some _) dEnd_streamOf_25 rfl (by decide) (hS.TStrs he) (by omega) (by decide) (hS.rStrs he hk) ?_
      exact g_aret 26 dEnd_streamOf_26 rfl (Or.inl ⟨_, rfl⟩) ⟨rfl, rfl⟩
    · exact absurd h13 (by omega)

set_option maxRecDepth 100000 in
set_option maxHeartbeats 4000000 in
theorem ct_End_streamOf_no {X : mX} {l : Launch} {M : mM} {e : Nat} {x : Int32} (hS : Shp M) (he : e < 2) (hx : ¬ isStr x) : Ct X l uEnd_streamOf (rk 1 22) [.ref (9 + 80 * e), .int x] M (fun r M' => r = some (.null) ∧ M' = M) := by
  refine Ct.of (by decide) (Nat.le_of_ble_eq_true rfl) ?_
  show G X l uEnd_streamOf (rk 1 22) 0 0 M 0 [some (.ref (9 + 80 * e)), some (.int x)] [] _
  refine g_iload_n 0 dEnd_streamOf_0 rfl ?_
  refine g_iconst 1 1 dEnd_streamOf_1 rfl ?_
  refine g_bipush 2 23 dEnd_streamOf_2 rfl ?_
  refine g_callS 4 [_, _, _] dEnd_streamOf_4 cs_End_88 rfl rfl ⟨(Nat.le_of_ble_eq_true rfl), (Nat.le_of_ble_eq_true rfl)⟩ (Nat.le_of_ble_eq_true rfl) (ct_isWithin) (Nat.le_of_ble_eq_true rfl) (Nat.le_of_ble_eq_true rfl) ?_
  rintro _ M2 ⟨rfl, hM2⟩
  rw [hM2]
  clear hM2 M2
  refine g_if_eq 7 16 dEnd_streamOf_7 rfl (fun h7 => ?_) (fun h7 => ?_)
  · refine g_null 16 dEnd_streamOf_16 ?_
    exact g_aretN 17 dEnd_streamOf_17 rfl (Or.inl ⟨_, rfl⟩) ⟨rfl, rfl⟩
  · obtain ⟨j, hj1, hj2, rfl⟩ := odd_of (x := x) (fun q => h7 (by simp [wi, q])) (fun q => h7 (by simp [wi, q]))
    refine g_iload_n 10 dEnd_streamOf_10 rfl ?_
    
    refine g_iconst 11 2 dEnd_streamOf_11 rfl ?_
    refine g_irem 12 dEnd_streamOf_12 (by decide) ?_
    refine g_if_ne 13 18 dEnd_streamOf_13 rfl (fun h13 => ?_) (fun h13 => ?_)
    · exact absurd ⟨j / 2, by omega, by rw [show 2 * (j / 2) + 1 = j by (have := h13; have hr : nI j - nI j / 2 * 2 = nI (j % 2) := pk_rem (by omega) (by decide) (by decide); rw [hr] at h13; have : j % 2 ≠ 0 := fun q => h13 (by rw [q]; rfl); omega)]⟩ hx
    · refine g_null 16 dEnd_streamOf_16 ?_
      exact g_aretN 17 dEnd_streamOf_17 rfl (Or.inl ⟨_, rfl⟩) ⟨rfl, rfl⟩

set_option maxRecDepth 100000 in
set_option maxHeartbeats 4000000 in
theorem ct_streamOf {X : mX} {l : Launch} {M : mM} {e k : Nat} (hS : Shp M) (he : e < 2) (hk : k < 12) : Ct X l uLink_streamOf (rk 2 43) [.ref (9 + 80 * e), .int (nI (2 * k + 1))] M (fun r M' => r = some (.ref (29 + 80 * e + 5 * k)) ∧ M' = M) := by
  refine Ct.of (by decide) (Nat.le_of_ble_eq_true rfl) ?_
  show G X l uLink_streamOf (rk 2 43) 0 0 M 0 [some (.ref (9 + 80 * e)), some (.int (nI (2 * k + 1)))] [] _
  refine g_aload_n 0 dLink_streamOf_0 rfl ?_
  refine g_ifnonnull 1 8 dLink_streamOf_1 rfl ?_
  refine g_aload_n 8 dLink_streamOf_8 rfl ?_
  refine g_iload_n 9 dLink_streamOf_9 rfl ?_
  refine g_callV 10 [_] dLink_streamOf_10 cs_Link_210 rfl (ci := 2) rfl (by decide) (hS.tEnd he) rfl ⟨(Nat.le_of_ble_eq_true rfl), (Nat.le_of_ble_eq_true rfl)⟩ (Nat.le_of_ble_eq_true rfl) (ct_End_streamOf hS he hk) (Nat.le_of_ble_eq_true rfl) (Nat.le_of_ble_eq_true rfl) ?_
  rintro _ M2 ⟨rfl, hM2⟩
  rw [hM2]
  clear hM2 M2
  exact g_aret 13 dLink_streamOf_13 rfl (Or.inl ⟨_, rfl⟩) ⟨rfl, rfl⟩

set_option maxRecDepth 100000 in
set_option maxHeartbeats 4000000 in
theorem ct_streamOf_no {X : mX} {l : Launch} {M : mM} {e : Nat} {x : Int32} (hS : Shp M) (he : e < 2) (hx : ¬ isStr x) : Ct X l uLink_streamOf (rk 2 43) [.ref (9 + 80 * e), .int x] M (fun r M' => r = some (.null) ∧ M' = M) := by
  refine Ct.of (by decide) (Nat.le_of_ble_eq_true rfl) ?_
  show G X l uLink_streamOf (rk 2 43) 0 0 M 0 [some (.ref (9 + 80 * e)), some (.int x)] [] _
  refine g_aload_n 0 dLink_streamOf_0 rfl ?_
  refine g_ifnonnull 1 8 dLink_streamOf_1 rfl ?_
  refine g_aload_n 8 dLink_streamOf_8 rfl ?_
  refine g_iload_n 9 dLink_streamOf_9 rfl ?_
  refine g_callV 10 [_] dLink_streamOf_10 cs_Link_210 rfl (ci := 2) rfl (by decide) (hS.tEnd he) rfl ⟨(Nat.le_of_ble_eq_true rfl), (Nat.le_of_ble_eq_true rfl)⟩ (Nat.le_of_ble_eq_true rfl) (ct_End_streamOf_no hS he hx) (Nat.le_of_ble_eq_true rfl) (Nat.le_of_ble_eq_true rfl) ?_
  rintro _ M2 ⟨rfl, hM2⟩
  rw [hM2]
  clear hM2 M2
  exact g_aretN 13 dLink_streamOf_13 rfl (Or.inl ⟨_, rfl⟩) ⟨rfl, rfl⟩

set_option maxRecDepth 100000 in
set_option maxHeartbeats 4000000 in
theorem ct_streamOf_N {X : mX} {l : Launch} {M : mM} {x : Int32} : Ct X l uLink_streamOf (rk 2 43) [.null, .int x] M (fun r M' => r = some (.null) ∧ M' = M) := by
  refine Ct.of (by decide) (Nat.le_of_ble_eq_true rfl) ?_
  show G X l uLink_streamOf (rk 2 43) 0 0 M 0 [some (.null), some (.int x)] [] _
  refine g_aload_nN 0 dLink_streamOf_0 rfl ?_
  refine g_ifnonnullN 1 dLink_streamOf_1 ?_
  refine g_null 4 dLink_streamOf_4 ?_
  refine g_goto 5 13 dLink_streamOf_5 rfl ?_
  exact g_aretN 13 dLink_streamOf_13 rfl (Or.inl ⟨_, rfl⟩) ⟨rfl, rfl⟩

set_option maxRecDepth 100000 in
set_option maxHeartbeats 4000000 in
theorem ct_Link_down {X : mX} {l : Launch} {M : mM} {e : Nat} (hS : Shp M) (he : e < 2) : Ct X l uLink_down (rk 1 21) [.ref 3, .int (nI e)] M (fun r M' => r = some (.int (Kdown M e)) ∧ M' = M) := by
  refine Ct.of (by decide) (Nat.le_of_ble_eq_true rfl) ?_
  show G X l uLink_down (rk 1 21) 0 0 M 0 [some (.ref 3), some (.int (nI e)), none] [] _
  refine g_aload_n 0 dLink_down_0 rfl ?_
  refine g_iload_n 1 dLink_down_1 rfl ?_
  refine g_callV 2 [_] dLink_down_2 cs_Link_128 rfl (ci := 0) rfl (by decide) hS.link rfl ⟨(Nat.le_of_ble_eq_true rfl), (Nat.le_of_ble_eq_true rfl)⟩ (Nat.le_of_ble_eq_true rfl) (ct_endOf hS he) (Nat.le_of_ble_eq_true rfl) (Nat.le_of_ble_eq_true rfl) ?_
  rintro _ M2 ⟨rfl, hM2⟩
  rw [hM2]
  clear hM2 M2
  refine g_astore_n 5 dLink_down_5 (by decide) rfl ?_
  refine g_aload_n 6 dLink_down_6 rfl ?_
  refine g_ifnonnull 7 14 dLink_down_7 rfl ?_
  refine g_aload_n 14 dLink_down_14 rfl ?_
  refine g_geti 15 2 3 dLink_down_15 fs_Link_135 rfl (hS.tEnd he) ?_
  exact g_iret 18 dLink_down_18 rfl ⟨rfl, rfl⟩

set_option maxRecDepth 100000 in
set_option maxHeartbeats 4000000 in
theorem ct_Link_down_no {X : mX} {l : Launch} {M : mM} {x : Int32} (h0 : ¬ x = 0) (h1 : ¬ x = 1) (hl : (mT M 3).1 = 0) : Ct X l uLink_down (rk 1 21) [.ref 3, .int x] M (fun r M' => r = some (.int (-1)) ∧ M' = M) := by
  refine Ct.of (by decide) (Nat.le_of_ble_eq_true rfl) ?_
  show G X l uLink_down (rk 1 21) 0 0 M 0 [some (.ref 3), some (.int x), none] [] _
  refine g_aload_n 0 dLink_down_0 rfl ?_
  refine g_iload_n 1 dLink_down_1 rfl ?_
  refine g_callV 2 [_] dLink_down_2 cs_Link_128 rfl (ci := 0) rfl (by decide) hl rfl ⟨(Nat.le_of_ble_eq_true rfl), (Nat.le_of_ble_eq_true rfl)⟩ (Nat.le_of_ble_eq_true rfl) (ct_endOf_no h0 h1) (Nat.le_of_ble_eq_true rfl) (Nat.le_of_ble_eq_true rfl) ?_
  rintro _ M2 ⟨rfl, hM2⟩
  rw [hM2]
  clear hM2 M2
  refine g_astore_nN 5 dLink_down_5 (by decide) rfl ?_
  refine g_aload_nN 6 dLink_down_6 rfl ?_
  refine g_ifnonnullN 7 dLink_down_7 ?_
  refine g_iconst 10 (-1) dLink_down_10 rfl ?_
  refine g_goto 11 18 dLink_down_11 rfl ?_
  exact g_iret 18 dLink_down_18 rfl ⟨rfl, rfl⟩

set_option maxRecDepth 100000 in
set_option maxHeartbeats 4000000 in
theorem ct_Link_state {X : mX} {l : Launch} {M : mM} {e k : Nat} (hS : Shp M) (he : e < 2) (hk : k < 12) : Ct X l uLink_state (rk 3 64) [.ref 3, .int (nI e), .int (nI (2 * k + 1))] M (fun r M' => r = some (.int (Kstate M e k)) ∧ M' = M) := by
  refine Ct.of (by decide) (Nat.le_of_ble_eq_true rfl) ?_
  show G X l uLink_state (rk 3 64) 0 0 M 0 [some (.ref 3), some (.int (nI e)), some (.int (nI (2 * k + 1))), none] [] _
  refine g_aload_n 0 dLink_state_0 rfl ?_
  refine g_iload_n 1 dLink_state_1 rfl ?_
  refine g_callV 2 [_] dLink_state_2 cs_Link_128 rfl (ci := 0) rfl (by decide) hS.link rfl ⟨(Nat.le_of_ble_eq_true rfl), (Nat.le_of_ble_eq_true rfl)⟩ (Nat.le_of_ble_eq_true rfl) (ct_endOf hS he) (Nat.le_of_ble_eq_true rfl) (Nat.le_of_ble_eq_true rfl) ?_
  rintro _ M2 ⟨rfl, hM2⟩
  rw [hM2]
  clear hM2 M2
  refine g_iload_n 5 dLink_state_5 rfl ?_
  refine g_callS 6 [_, _] dLink_state_6 cs_Link_58 rfl rfl ⟨(Nat.le_of_ble_eq_true rfl), (Nat.le_of_ble_eq_true rfl)⟩ (Nat.le_of_ble_eq_true rfl) (ct_streamOf hS he hk) (Nat.le_of_ble_eq_true rfl) (Nat.le_of_ble_eq_true rfl) ?_
  rintro _ M2 ⟨rfl, hM2⟩
  rw [hM2]
  clear hM2 M2
  refine g_astore_n 9 dLink_state_9 (by decide) rfl ?_
  refine g_aload_n 10 dLink_state_10 rfl ?_
  refine g_ifnonnull 11 18 dLink_state_11 rfl ?_
  refine g_aload_n 18 dLink_state_18 rfl ?_
  refine g_geti 19 8 1 dLink_state_19 fs_Link_93 rfl (hS.tStr he hk) ?_
  exact g_iret 22 dLink_state_22 rfl ⟨rfl, rfl⟩

set_option maxRecDepth 100000 in
set_option maxHeartbeats 4000000 in
theorem ct_Link_state_ns {X : mX} {l : Launch} {M : mM} {e : Nat} {x : Int32} (hS : Shp M) (he : e < 2) (hx : ¬ isStr x) : Ct X l uLink_state (rk 3 64) [.ref 3, .int (nI e), .int x] M (fun r M' => r = some (.int (-1)) ∧ M' = M) := by
  refine Ct.of (by decide) (Nat.le_of_ble_eq_true rfl) ?_
  show G X l uLink_state (rk 3 64) 0 0 M 0 [some (.ref 3), some (.int (nI e)), some (.int x), none] [] _
  refine g_aload_n 0 dLink_state_0 rfl ?_
  refine g_iload_n 1 dLink_state_1 rfl ?_
  refine g_callV 2 [_] dLink_state_2 cs_Link_128 rfl (ci := 0) rfl (by decide) hS.link rfl ⟨(Nat.le_of_ble_eq_true rfl), (Nat.le_of_ble_eq_true rfl)⟩ (Nat.le_of_ble_eq_true rfl) (ct_endOf hS he) (Nat.le_of_ble_eq_true rfl) (Nat.le_of_ble_eq_true rfl) ?_
  rintro _ M2 ⟨rfl, hM2⟩
  rw [hM2]
  clear hM2 M2
  refine g_iload_n 5 dLink_state_5 rfl ?_
  refine g_callS 6 [_, _] dLink_state_6 cs_Link_58 rfl rfl ⟨(Nat.le_of_ble_eq_true rfl), (Nat.le_of_ble_eq_true rfl)⟩ (Nat.le_of_ble_eq_true rfl) (ct_streamOf_no hS he hx) (Nat.le_of_ble_eq_true rfl) (Nat.le_of_ble_eq_true rfl) ?_
  rintro _ M2 ⟨rfl, hM2⟩
  rw [hM2]
  clear hM2 M2
  refine g_astore_nN 9 dLink_state_9 (by decide) rfl ?_
  refine g_aload_nN 10 dLink_state_10 rfl ?_
  refine g_ifnonnullN 11 dLink_state_11 ?_
  refine g_iconst 14 (-1) dLink_state_14 rfl ?_
  refine g_goto 15 22 dLink_state_15 rfl ?_
  exact g_iret 22 dLink_state_22 rfl ⟨rfl, rfl⟩

set_option maxRecDepth 100000 in
set_option maxHeartbeats 4000000 in
theorem ct_Link_state_no {X : mX} {l : Launch} {M : mM} {x y : Int32} (hS : Shp M) (h0 : ¬ x = 0) (h1 : ¬ x = 1) : Ct X l uLink_state (rk 3 64) [.ref 3, .int x, .int y] M (fun r M' => r = some (.int (-1)) ∧ M' = M) := by
  refine Ct.of (by decide) (Nat.le_of_ble_eq_true rfl) ?_
  show G X l uLink_state (rk 3 64) 0 0 M 0 [some (.ref 3), some (.int x), some (.int y), none] [] _
  refine g_aload_n 0 dLink_state_0 rfl ?_
  refine g_iload_n 1 dLink_state_1 rfl ?_
  refine g_callV 2 [_] dLink_state_2 cs_Link_128 rfl (ci := 0) rfl (by decide) hS.link rfl ⟨(Nat.le_of_ble_eq_true rfl), (Nat.le_of_ble_eq_true rfl)⟩ (Nat.le_of_ble_eq_true rfl) (ct_endOf_no h0 h1) (Nat.le_of_ble_eq_true rfl) (Nat.le_of_ble_eq_true rfl) ?_
  rintro _ M2 ⟨rfl, hM2⟩
  rw [hM2]
  clear hM2 M2
  refine g_iload_n 5 dLink_state_5 rfl ?_
  refine g_callS 6 [_, _] dLink_state_6 cs_Link_58 rfl rfl ⟨(Nat.le_of_ble_eq_true rfl), (Nat.le_of_ble_eq_true rfl)⟩ (Nat.le_of_ble_eq_true rfl) (ct_streamOf_N) (Nat.le_of_ble_eq_true rfl) (Nat.le_of_ble_eq_true rfl) ?_
  rintro _ M2 ⟨rfl, hM2⟩
  rw [hM2]
  clear hM2 M2
  refine g_astore_nN 9 dLink_state_9 (by decide) rfl ?_
  refine g_aload_nN 10 dLink_state_10 rfl ?_
  refine g_ifnonnullN 11 dLink_state_11 ?_
  refine g_iconst 14 (-1) dLink_state_14 rfl ?_
  refine g_goto 15 22 dLink_state_15 rfl ?_
  exact g_iret 22 dLink_state_22 rfl ⟨rfl, rfl⟩

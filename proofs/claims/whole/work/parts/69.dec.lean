theorem dDec_decodeField_0 : decode uDec_decodeField.2.1 0 = .ok (.aload_n 1, 1) := by decide +kernel
theorem dDec_decodeField_1 : decode uDec_decodeField.2.1 1 = .ok (.getfield 34, 3) := by decide +kernel
theorem dDec_decodeField_4 : decode uDec_decodeField.2.1 4 = .ok (.iload_n 2, 1) := by decide +kernel
theorem dDec_decodeField_5 : decode uDec_decodeField.2.1 5 = .ok (.iaload, 1) := by decide +kernel
theorem dDec_decodeField_6 : decode uDec_decodeField.2.1 6 = .ok (.istore 4, 2) := by decide +kernel
theorem dDec_decodeField_8 : decode uDec_decodeField.2.1 8 = .ok (.aload_n 1, 1) := by decide +kernel
theorem dDec_decodeField_9 : decode uDec_decodeField.2.1 9 = .ok (.getfield 38, 3) := by decide +kernel
theorem dDec_decodeField_12 : decode uDec_decodeField.2.1 12 = .ok (.iload_n 2, 1) := by decide +kernel
theorem dDec_decodeField_13 : decode uDec_decodeField.2.1 13 = .ok (.iaload, 1) := by decide +kernel
theorem dDec_decodeField_14 : decode uDec_decodeField.2.1 14 = .ok (.istore 5, 2) := by decide +kernel
theorem dDec_decodeField_16 : decode uDec_decodeField.2.1 16 = .ok (.iload 5, 2) := by decide +kernel
theorem dDec_decodeField_18 : decode uDec_decodeField.2.1 18 = .ok (.ifCond .ne 13, 3) := by decide +kernel
theorem dDec_decodeField_21 : decode uDec_decodeField.2.1 21 = .ok (.iload 4, 2) := by decide +kernel
theorem dDec_decodeField_23 : decode uDec_decodeField.2.1 23 = .ok (.iconst 1, 1) := by decide +kernel
theorem dDec_decodeField_24 : decode uDec_decodeField.2.1 24 = .ok (.if_icmp .eq 7, 3) := by decide +kernel
theorem dDec_decodeField_27 : decode uDec_decodeField.2.1 27 = .ok (.iconst 1, 1) := by decide +kernel
theorem dDec_decodeField_28 : decode uDec_decodeField.2.1 28 = .ok (.goto 4, 3) := by decide +kernel
theorem dDec_decodeField_31 : decode uDec_decodeField.2.1 31 = .ok (.iconst 0, 1) := by decide +kernel
theorem dDec_decodeField_32 : decode uDec_decodeField.2.1 32 = .ok (.istore 6, 2) := by decide +kernel
theorem dDec_decodeField_34 : decode uDec_decodeField.2.1 34 = .ok (.iload 6, 2) := by decide +kernel
theorem dDec_decodeField_36 : decode uDec_decodeField.2.1 36 = .ok (.ifCond .ne 17, 3) := by decide +kernel
theorem dDec_decodeField_39 : decode uDec_decodeField.2.1 39 = .ok (.aload_n 0, 1) := by decide +kernel
theorem dDec_decodeField_40 : decode uDec_decodeField.2.1 40 = .ok (.getfield 12, 3) := by decide +kernel
theorem dDec_decodeField_43 : decode uDec_decodeField.2.1 43 = .ok (.iload 5, 2) := by decide +kernel
theorem dDec_decodeField_45 : decode uDec_decodeField.2.1 45 = .ok (.invokevirtual 49, 3) := by decide +kernel
theorem dDec_decodeField_48 : decode uDec_decodeField.2.1 48 = .ok (.ifCond .ne 5, 3) := by decide +kernel
theorem dDec_decodeField_51 : decode uDec_decodeField.2.1 51 = .ok (.iconst 0, 1) := by decide +kernel
theorem dDec_decodeField_52 : decode uDec_decodeField.2.1 52 = .ok (.ireturn, 1) := by decide +kernel
theorem dDec_decodeField_53 : decode uDec_decodeField.2.1 53 = .ok (.iload 6, 2) := by decide +kernel
theorem dDec_decodeField_55 : decode uDec_decodeField.2.1 55 = .ok (.ifCond .eq 12, 3) := by decide +kernel
theorem dDec_decodeField_58 : decode uDec_decodeField.2.1 58 = .ok (.aload_n 1, 1) := by decide +kernel
theorem dDec_decodeField_59 : decode uDec_decodeField.2.1 59 = .ok (.getfield 53, 3) := by decide +kernel
theorem dDec_decodeField_62 : decode uDec_decodeField.2.1 62 = .ok (.iload_n 2, 1) := by decide +kernel
theorem dDec_decodeField_63 : decode uDec_decodeField.2.1 63 = .ok (.iaload, 1) := by decide +kernel
theorem dDec_decodeField_64 : decode uDec_decodeField.2.1 64 = .ok (.goto 12, 3) := by decide +kernel
theorem dDec_decodeField_67 : decode uDec_decodeField.2.1 67 = .ok (.aload_n 0, 1) := by decide +kernel
theorem dDec_decodeField_68 : decode uDec_decodeField.2.1 68 = .ok (.getfield 12, 3) := by decide +kernel
theorem dDec_decodeField_71 : decode uDec_decodeField.2.1 71 = .ok (.iload 5, 2) := by decide +kernel
theorem dDec_decodeField_73 : decode uDec_decodeField.2.1 73 = .ok (.invokevirtual 56, 3) := by decide +kernel
theorem dDec_decodeField_76 : decode uDec_decodeField.2.1 76 = .ok (.istore 7, 2) := by decide +kernel
theorem dDec_decodeField_78 : decode uDec_decodeField.2.1 78 = .ok (.iload 4, 2) := by decide +kernel
theorem dDec_decodeField_80 : decode uDec_decodeField.2.1 80 = .ok (.iconst 1, 1) := by decide +kernel
theorem dDec_decodeField_81 : decode uDec_decodeField.2.1 81 = .ok (.if_icmp .ne 15, 3) := by decide +kernel
theorem dDec_decodeField_84 : decode uDec_decodeField.2.1 84 = .ok (.aload_n 0, 1) := by decide +kernel
theorem dDec_decodeField_85 : decode uDec_decodeField.2.1 85 = .ok (.getfield 12, 3) := by decide +kernel
theorem dDec_decodeField_88 : decode uDec_decodeField.2.1 88 = .ok (.iload 5, 2) := by decide +kernel
theorem dDec_decodeField_90 : decode uDec_decodeField.2.1 90 = .ok (.invokevirtual 60, 3) := by decide +kernel
theorem dDec_decodeField_93 : decode uDec_decodeField.2.1 93 = .ok (.goto 9, 3) := by decide +kernel
theorem dDec_decodeField_96 : decode uDec_decodeField.2.1 96 = .ok (.aload_n 1, 1) := by decide +kernel
theorem dDec_decodeField_97 : decode uDec_decodeField.2.1 97 = .ok (.getfield 63, 3) := by decide +kernel
theorem dDec_decodeField_100 : decode uDec_decodeField.2.1 100 = .ok (.iload_n 2, 1) := by decide +kernel
theorem dDec_decodeField_101 : decode uDec_decodeField.2.1 101 = .ok (.iaload, 1) := by decide +kernel
theorem dDec_decodeField_102 : decode uDec_decodeField.2.1 102 = .ok (.istore 8, 2) := by decide +kernel
theorem dDec_decodeField_104 : decode uDec_decodeField.2.1 104 = .ok (.aload_n 3, 1) := by decide +kernel
theorem dDec_decodeField_105 : decode uDec_decodeField.2.1 105 = .ok (.iload 7, 2) := by decide +kernel
theorem dDec_decodeField_107 : decode uDec_decodeField.2.1 107 = .ok (.iload 8, 2) := by decide +kernel
theorem dDec_decodeField_109 : decode uDec_decodeField.2.1 109 = .ok (.iload 4, 2) := by decide +kernel
theorem dDec_decodeField_111 : decode uDec_decodeField.2.1 111 = .ok (.iconst 3, 1) := by decide +kernel
theorem dDec_decodeField_112 : decode uDec_decodeField.2.1 112 = .ok (.if_icmp .ne 7, 3) := by decide +kernel
theorem dDec_decodeField_115 : decode uDec_decodeField.2.1 115 = .ok (.iconst 1, 1) := by decide +kernel
theorem dDec_decodeField_116 : decode uDec_decodeField.2.1 116 = .ok (.goto 4, 3) := by decide +kernel
theorem dDec_decodeField_119 : decode uDec_decodeField.2.1 119 = .ok (.iconst 0, 1) := by decide +kernel
theorem dDec_decodeField_120 : decode uDec_decodeField.2.1 120 = .ok (.invokevirtual 66, 3) := by decide +kernel
theorem dDec_decodeField_123 : decode uDec_decodeField.2.1 123 = .ok (.iload 4, 2) := by decide +kernel
theorem dDec_decodeField_125 : decode uDec_decodeField.2.1 125 = .ok (.iconst 2, 1) := by decide +kernel
theorem dDec_decodeField_126 : decode uDec_decodeField.2.1 126 = .ok (.if_icmp .ne 14, 3) := by decide +kernel
theorem dDec_decodeField_129 : decode uDec_decodeField.2.1 129 = .ok (.aload_n 0, 1) := by decide +kernel
theorem dDec_decodeField_130 : decode uDec_decodeField.2.1 130 = .ok (.getfield 12, 3) := by decide +kernel
theorem dDec_decodeField_133 : decode uDec_decodeField.2.1 133 = .ok (.iload 7, 2) := by decide +kernel
theorem dDec_decodeField_135 : decode uDec_decodeField.2.1 135 = .ok (.iload 8, 2) := by decide +kernel
theorem dDec_decodeField_137 : decode uDec_decodeField.2.1 137 = .ok (.invokevirtual 70, 3) := by decide +kernel
theorem dDec_decodeField_140 : decode uDec_decodeField.2.1 140 = .ok (.iconst 1, 1) := by decide +kernel
theorem dDec_decodeField_141 : decode uDec_decodeField.2.1 141 = .ok (.ireturn, 1) := by decide +kernel
theorem dDec_decode_0 : decode uDec_decode.2.1 0 = .ok (.new 26, 3) := by decide +kernel
theorem dDec_decode_3 : decode uDec_decode.2.1 3 = .ok (.dup, 1) := by decide +kernel
theorem dDec_decode_4 : decode uDec_decode.2.1 4 = .ok (.invokespecial 28, 3) := by decide +kernel
theorem dDec_decode_7 : decode uDec_decode.2.1 7 = .ok (.astore_n 3, 1) := by decide +kernel
theorem dDec_decode_8 : decode uDec_decode.2.1 8 = .ok (.iconst 1, 1) := by decide +kernel
theorem dDec_decode_9 : decode uDec_decode.2.1 9 = .ok (.istore 4, 2) := by decide +kernel
theorem dDec_decode_11 : decode uDec_decode.2.1 11 = .ok (.iconst 0, 1) := by decide +kernel
theorem dDec_decode_12 : decode uDec_decode.2.1 12 = .ok (.istore 5, 2) := by decide +kernel
theorem dDec_decode_14 : decode uDec_decode.2.1 14 = .ok (.iload 5, 2) := by decide +kernel
theorem dDec_decode_16 : decode uDec_decode.2.1 16 = .ok (.aload_n 1, 1) := by decide +kernel
theorem dDec_decode_17 : decode uDec_decode.2.1 17 = .ok (.getfield 29, 3) := by decide +kernel
theorem dDec_decode_20 : decode uDec_decode.2.1 20 = .ok (.if_icmp .ge 82, 3) := by decide +kernel
theorem dDec_decode_23 : decode uDec_decode.2.1 23 = .ok (.aload_n 1, 1) := by decide +kernel
theorem dDec_decode_24 : decode uDec_decode.2.1 24 = .ok (.getfield 34, 3) := by decide +kernel
theorem dDec_decode_27 : decode uDec_decode.2.1 27 = .ok (.iload 5, 2) := by decide +kernel
theorem dDec_decode_29 : decode uDec_decode.2.1 29 = .ok (.iaload, 1) := by decide +kernel
theorem dDec_decode_30 : decode uDec_decode.2.1 30 = .ok (.ifCond .ne 38, 3) := by decide +kernel
theorem dDec_decode_33 : decode uDec_decode.2.1 33 = .ok (.iload 4, 2) := by decide +kernel
theorem dDec_decode_35 : decode uDec_decode.2.1 35 = .ok (.ifCond .eq 14, 3) := by decide +kernel
theorem dDec_decode_38 : decode uDec_decode.2.1 38 = .ok (.aload_n 1, 1) := by decide +kernel
theorem dDec_decode_39 : decode uDec_decode.2.1 39 = .ok (.getfield 38, 3) := by decide +kernel
theorem dDec_decode_42 : decode uDec_decode.2.1 42 = .ok (.iload 5, 2) := by decide +kernel
theorem dDec_decode_44 : decode uDec_decode.2.1 44 = .ok (.iaload, 1) := by decide +kernel
theorem dDec_decode_45 : decode uDec_decode.2.1 45 = .ok (.iload_n 2, 1) := by decide +kernel
theorem dDec_decode_46 : decode uDec_decode.2.1 46 = .ok (.if_icmp .le 5, 3) := by decide +kernel
theorem dDec_decode_49 : decode uDec_decode.2.1 49 = .ok (.aconst_null, 1) := by decide +kernel
theorem dDec_decode_50 : decode uDec_decode.2.1 50 = .ok (.areturn, 1) := by decide +kernel
theorem dDec_decode_51 : decode uDec_decode.2.1 51 = .ok (.aload_n 0, 1) := by decide +kernel
theorem dDec_decode_52 : decode uDec_decode.2.1 52 = .ok (.getfield 12, 3) := by decide +kernel
theorem dDec_decode_55 : decode uDec_decode.2.1 55 = .ok (.aload_n 1, 1) := by decide +kernel
theorem dDec_decode_56 : decode uDec_decode.2.1 56 = .ok (.getfield 38, 3) := by decide +kernel
theorem dDec_decode_59 : decode uDec_decode.2.1 59 = .ok (.iload 5, 2) := by decide +kernel
theorem dDec_decode_61 : decode uDec_decode.2.1 61 = .ok (.iaload, 1) := by decide +kernel
theorem dDec_decode_62 : decode uDec_decode.2.1 62 = .ok (.invokevirtual 41, 3) := by decide +kernel
theorem dDec_decode_65 : decode uDec_decode.2.1 65 = .ok (.goto 31, 3) := by decide +kernel
theorem dDec_decode_68 : decode uDec_decode.2.1 68 = .ok (.iload 5, 2) := by decide +kernel
theorem dDec_decode_70 : decode uDec_decode.2.1 70 = .ok (.ifCond .ne 10, 3) := by decide +kernel
theorem dDec_decode_73 : decode uDec_decode.2.1 73 = .ok (.aload_n 0, 1) := by decide +kernel
theorem dDec_decode_74 : decode uDec_decode.2.1 74 = .ok (.getfield 18, 3) := by decide +kernel
theorem dDec_decode_77 : decode uDec_decode.2.1 77 = .ok (.ifCond .ne 14, 3) := by decide +kernel
theorem dDec_decode_80 : decode uDec_decode.2.1 80 = .ok (.aload_n 0, 1) := by decide +kernel
theorem dDec_decode_81 : decode uDec_decode.2.1 81 = .ok (.aload_n 1, 1) := by decide +kernel
theorem dDec_decode_82 : decode uDec_decode.2.1 82 = .ok (.iload 5, 2) := by decide +kernel
theorem dDec_decode_84 : decode uDec_decode.2.1 84 = .ok (.aload_n 3, 1) := by decide +kernel
theorem dDec_decode_85 : decode uDec_decode.2.1 85 = .ok (.invokevirtual 45, 3) := by decide +kernel
theorem dDec_decode_88 : decode uDec_decode.2.1 88 = .ok (.ifCond .ne 5, 3) := by decide +kernel
theorem dDec_decode_91 : decode uDec_decode.2.1 91 = .ok (.aconst_null, 1) := by decide +kernel
theorem dDec_decode_92 : decode uDec_decode.2.1 92 = .ok (.areturn, 1) := by decide +kernel
theorem dDec_decode_93 : decode uDec_decode.2.1 93 = .ok (.iconst 0, 1) := by decide +kernel
theorem dDec_decode_94 : decode uDec_decode.2.1 94 = .ok (.istore 4, 2) := by decide +kernel
theorem dDec_decode_96 : decode uDec_decode.2.1 96 = .ok (.iinc 5 1, 3) := by decide +kernel
theorem dDec_decode_99 : decode uDec_decode.2.1 99 = .ok (.goto (-85), 3) := by decide +kernel
theorem dDec_decode_102 : decode uDec_decode.2.1 102 = .ok (.aload_n 0, 1) := by decide +kernel
theorem dDec_decode_103 : decode uDec_decode.2.1 103 = .ok (.iconst 0, 1) := by decide +kernel
theorem dDec_decode_104 : decode uDec_decode.2.1 104 = .ok (.putfield 18, 3) := by decide +kernel
theorem dDec_decode_107 : decode uDec_decode.2.1 107 = .ok (.aload_n 3, 1) := by decide +kernel
theorem dDec_decode_108 : decode uDec_decode.2.1 108 = .ok (.areturn, 1) := by decide +kernel
theorem fs_Dec_34 : fS "InterleavedLink$Decoder" 34 11 0 := ⟨"InterleavedLink$Block", T_Block, 6, cf_Block, by decide, Or.inl (gW_in 432 (by decide +kernel) rfl)⟩
theorem fs_Dec_38 : fS "InterleavedLink$Decoder" 38 11 1 := ⟨"InterleavedLink$Block", T_Block, 6, cf_Block, by decide, Or.inl (gW_in 434 (by decide +kernel) rfl)⟩
theorem cs_Dec_49 : cV "InterleavedLink$Decoder" 49 uTable_hasIndex 1 := ⟨⟨Or.inl (gW_in 738 (by decide +kernel) rfl), (gW_in 69 (by decide +kernel) rfl), (gW_in 488 (by decide +kernel) rfl), ⟨by decide, by decide⟩, by decide +kernel⟩, (gW_in 486 (by decide +kernel) rfl), (gW_in 487 (by decide +kernel) rfl)⟩
theorem fs_Dec_53 : fS "InterleavedLink$Decoder" 53 11 2 := ⟨"InterleavedLink$Block", T_Block, 6, cf_Block, by decide, Or.inl (gW_in 436 (by decide +kernel) rfl)⟩
theorem fs_Dec_63 : fS "InterleavedLink$Decoder" 63 11 3 := ⟨"InterleavedLink$Block", T_Block, 6, cf_Block, by decide, Or.inl (gW_in 438 (by decide +kernel) rfl)⟩
theorem cs_Dec_66 : cV "InterleavedLink$Decoder" 66 uFList_add 3 := ⟨⟨Or.inl (gW_in 741 (by decide +kernel) rfl), (gW_in 67 (by decide +kernel) rfl), (gW_in 383 (by decide +kernel) rfl), ⟨by decide, by decide⟩, by decide +kernel⟩, (gW_in 381 (by decide +kernel) rfl), (gW_in 382 (by decide +kernel) rfl)⟩
theorem cs_Dec_70 : cV "InterleavedLink$Decoder" 70 uTable_add 2 := ⟨⟨Or.inl (gW_in 742 (by decide +kernel) rfl), (gW_in 69 (by decide +kernel) rfl), (gW_in 504 (by decide +kernel) rfl), ⟨by decide, by decide⟩, by decide +kernel⟩, (gW_in 502 (by decide +kernel) rfl), (gW_in 503 (by decide +kernel) rfl)⟩
theorem cs_Dec_56 : cV "InterleavedLink$Decoder" 56 uTable_nameOf 1 := ⟨⟨Or.inl (gW_in 739 (by decide +kernel) rfl), (gW_in 69 (by decide +kernel) rfl), (gW_in 484 (by decide +kernel) rfl), ⟨by decide, by decide⟩, by decide +kernel⟩, (gW_in 482 (by decide +kernel) rfl), (gW_in 483 (by decide +kernel) rfl)⟩
theorem cs_Dec_60 : cV "InterleavedLink$Decoder" 60 uTable_valueOf 1 := ⟨⟨Or.inl (gW_in 740 (by decide +kernel) rfl), (gW_in 69 (by decide +kernel) rfl), (gW_in 498 (by decide +kernel) rfl), ⟨by decide, by decide⟩, by decide +kernel⟩, (gW_in 496 (by decide +kernel) rfl), (gW_in 497 (by decide +kernel) rfl)⟩
theorem cs_Dec_45 : cV "InterleavedLink$Decoder" 45 uDec_decodeField 3 := ⟨⟨Or.inl (gW_in 734 (by decide +kernel) rfl), (gW_in 70 (by decide +kernel) rfl), (gW_in 737 (by decide +kernel) rfl), ⟨by decide, by decide⟩, by decide +kernel⟩, (gW_in 736 (by decide +kernel) rfl), (gW_in 13 (by decide +kernel) rfl)⟩
theorem fs_Dec_29 : fS "InterleavedLink$Decoder" 29 11 4 := ⟨"InterleavedLink$Block", T_Block, 6, cf_Block, by decide, Or.inl (gW_in 441 (by decide +kernel) rfl)⟩
theorem fs_Dec_18 : fS "InterleavedLink$Decoder" 18 6 1 := ⟨"InterleavedLink$Decoder", T_Dec, 2, cf_Dec, by decide, Or.inl (gW_in 203 (by decide +kernel) rfl)⟩
theorem cs_Dec_41 : cV "InterleavedLink$Decoder" 41 uTable_setMaximum 1 := ⟨⟨Or.inl (gW_in 733 (by decide +kernel) rfl), (gW_in 69 (by decide +kernel) rfl), (gW_in 468 (by decide +kernel) rfl), ⟨by decide, by decide⟩, by decide +kernel⟩, (gW_in 466 (by decide +kernel) rfl), (gW_in 467 (by decide +kernel) rfl)⟩
theorem ns_Dec_26 : nS "InterleavedLink$Decoder" 26 3 4 := ⟨"InterleavedLink$FieldList", T_FList, cf_FList, (gW_in 731 (by decide +kernel) rfl), (gW_in 115 (by decide +kernel) rfl), (gW_in 67 (by decide +kernel) rfl)⟩
theorem cs_Dec_28 : cI "InterleavedLink$Decoder" 28 uFList_init 0 := ⟨⟨Or.inr ⟨"InterleavedLink", (gN_in 732 (by decide +kernel) rfl)⟩, (gW_in 67 (by decide +kernel) rfl), (gW_in 118 (by decide +kernel) rfl), ⟨by decide, by decide⟩, by decide +kernel⟩, (gW_in 117 (by decide +kernel) rfl), rfl, rfl⟩
/-! ===== a block decoded ===== -/
/-- a list with its rows from c on -/
def FK (M : mM) (a c : Nat) (L : List (Int32 × Int32)) : Prop := (mT M a).1 = 3 ∧ mI M a 3 = nI L.length ∧ L.length ≤ 6 ∧ (a < c ∧ c + 2 < mN M) ∧ (mT M c = (100, 6) ∧ mR M a 0 = some c) ∧ (mT M (c + 1) = (100, 6) ∧ mR M a 1 = some (c + 1)) ∧ (mT M (c + 2) = (102, 6) ∧ mR M a 2 = some (c + 2)) ∧ ∀ j x, L[j]? = some x → mI M c j = x.1 ∧ mI M (c + 1) j = x.2
theorem FK.fl {m : Nat} {M : mM} {a c : Nat} {L : List (Int32 × Int32)} (h : FK M a c L) (hm : m ≤ a) : FlC m M a L := ⟨h.1, h.2.1, h.2.2.1, c, ⟨hm, h.2.2.2.1.1, h.2.2.2.1.2⟩, h.2.2.2.2.1, h.2.2.2.2.2.1, h.2.2.2.2.2.2.1, h.2.2.2.2.2.2.2⟩
theorem FK.mv {M M' : mM} {b d : Nat} {L : List (Int32 × Int32)} {PI PR : Nat → Nat → Prop} (h : FK M b d L) (c : Chg M M' PI PR) (n1 : ∀ a k, PI a k → a < b) (n2 : ∀ a k, PR a k → a < b) : FK M' b d L := by
  obtain ⟨h1, h2, h3, ⟨p2, p3⟩, ⟨a1, a2⟩, ⟨b1, b2⟩, ⟨c1, c2⟩, h5⟩ := h
  have hI : ∀ a k, b ≤ a → a < mN M → mI M' a k = mI M a k := fun a k ha hb => c.2.2.1 a k hb fun q => by have := n1 _ _ q; omega
  have hR : ∀ a k, b ≤ a → a < mN M → mR M' a k = mR M a k := fun a k ha hb => c.2.2.2.2 a k hb fun q => by have := n2 _ _ q; omega
  refine ⟨by rw [c.2.1 b (by omega)]; exact h1, by rw [hI b 3 (by omega) (by omega)]; exact h2, h3, ⟨p2, Nat.lt_of_lt_of_le p3 c.1⟩, ⟨by rw [c.2.1 _ (by omega)]; exact a1, by rw [hR _ _ (by omega) (by omega)]; exact a2⟩, ⟨by rw [c.2.1 _ (by omega)]; exact b1, by rw [hR _ _ (by omega) (by omega)]; exact b2⟩, ⟨by rw [c.2.1 _ (by omega)]; exact c1, by rw [hR _ _ (by omega) (by omega)]; exact c2⟩, fun j x hx => ?_⟩
  rw [hI d j (by omega) (by omega), hI (d + 1) j (by omega) (by omega)]
  exact h5 j x hx
theorem FK.new {M : mM} : FK (mkFL (newM M 3 4) (mN M)) (mN M) (mN M + 1) [] ∧ Chg M (mkFL (newM M 3 4) (mN M)) no2 no2 := by
  have hlt : mN M < mN (newM M 3 4) := Nat.lt_succ_self _
  refine ⟨⟨?_, ?_, Nat.zero_le _, ⟨Nat.lt_succ_self _, by show mN M + 1 + 2 < mN M + 1 + 1 + 1 + 1; omega⟩, ⟨?_, ?_⟩, ⟨?_, ?_⟩, ⟨?_, ?_⟩, fun j s hs => by simp at hs⟩, ?_⟩
  · exact oT (Nat.lt_add_right 2 hlt) (oT (Nat.lt_add_right 1 hlt) (oT hlt nT))
  · exact up2_same
  · exact oTT (show mN M + 1 < mN M + 1 + 2 by omega) (oTT (show mN M + 1 < mN M + 1 + 1 by omega) (nTS (N := newM M 3 4) rfl))
  · exact rR (N := setR (newM (setR (newM (newM M 3 4) 100 6) (mN M) 0 (some (mN M + 1))) 100 6) (mN M) 1 (some (mN M + 1 + 1))) (Nat.lt_add_right 2 hlt) (by decide) (rR (N := setR (newM (newM M 3 4) 100 6) (mN M) 0 (some (mN M + 1))) (Nat.lt_add_right 1 hlt) (by decide) rS)
  · exact oTT (show mN M + 1 + 1 < mN M + 1 + 2 by omega) (nTS (N := setR (newM (newM M 3 4) 100 6) (mN M) 0 (some (mN M + 1))) rfl)
  · exact rR (N := setR (newM (setR (newM (newM M 3 4) 100 6) (mN M) 0 (some (mN M + 1))) 100 6) (mN M) 1 (some (mN M + 1 + 1))) (Nat.lt_add_right 2 hlt) (by decide) rS
  · exact nTS (N := setR (newM (setR (newM (newM M 3 4) 100 6) (mN M) 0 (some (mN M + 1))) 100 6) (mN M) 1 (some (mN M + 1 + 1))) (b := mN M) (s := 2) (v := some (mN M + 1 + 2)) rfl
  · exact rS
  · have q : ∀ P : Prop, P ∨ mN M ≤ mN M := fun _ => Or.inr (Nat.le_refl _)
    exact ((((((Chg.rf.new.new).setR (q _)).new).setR (q _)).new).setR (q _)).setI (q _)
theorem ct_FK_add {X : mX} {l : Launch} {M : mM} {a c : Nat} {L : List (Int32 × Int32)} {na va z : Int32} (h : FK M a c L) (h6 : L.length < 6) (hz : z = 0 ∨ z = 1) : Ct X l uFList_add (rk 0 0) [.ref a, .int na, .int va, .int z] M (fun v M' => v = none ∧ FK M' a c (L ++ [(na, va)]) ∧ Chg M M' (fun x _ => x = a ∨ (c ≤ x ∧ x ≤ c + 2)) no2) := by
  obtain ⟨h1, h2, h3, ⟨p2, p3⟩, ⟨a1, a2⟩, ⟨b1, b2⟩, ⟨c1, c2⟩, h5⟩ := h
  refine (ct_FL_add h1 a2 b2 c2 a1 b1 c1 h2 h6 hz).post ?_
  rintro v M' ⟨rfl, rfl⟩
  refine ⟨rfl, ⟨h1, ?_, by rw [List.length_append]; exact h6, ⟨p2, p3⟩, ⟨a1, a2⟩, ⟨b1, b2⟩, ⟨c1, c2⟩, fun j s hs => ?_⟩, ?_⟩
  · rw [mI_setI, up2_same, List.length_append]
    rfl
  · by_cases hj : j < L.length
    · rw [List.getElem?_append_left hj] at hs
      obtain ⟨g0, g1⟩ := h5 j s hs
      refine ⟨?_, ?_⟩
      · rw [sI_a (by omega), sI_a (by omega), sI_a (by omega), sI_k (by omega)]; exact g0
      · rw [sI_a (by omega), sI_a (by omega), sI_k (by omega), sI_a (by omega)]; exact g1
    · rw [List.getElem?_append_right (by omega)] at hs
      have h6 := (List.getElem?_eq_some_iff.mp hs).1
      have hj2 : j = L.length := by simp at h6; omega
      subst hj2
      simp at hs
      subst hs
      refine ⟨?_, ?_⟩
      · rw [sI_a (by omega), sI_a (by omega), sI_a (by omega), sI_s]
      · rw [sI_a (by omega), sI_a (by omega), sI_s]
  · exact (((Chg.rf.setI (Or.inl (Or.inr (by omega)))).setI (Or.inl (Or.inr (by omega)))).setI (Or.inl (Or.inr (by omega)))).setI (Or.inl (Or.inl rfl))
/-- the cells that a decoder changes: its table, the list in the making -/
def PD (e a c : Nat) (x _ : Nat) : Prop := (20 + 80 * e ≤ x ∧ x ≤ 23 + 80 * e) ∨ x = a ∨ (c ≤ x ∧ x ≤ c + 2)
def decV (L : List (Int32 × Int32)) (s : zS) (i : Nat) : Int32 := if s.1 = 1 then vlT L i else s.2.2.2
def decL (L : List (Int32 × Int32)) (mx k n v : Int32) : List (Int32 × Int32) := if k = 2 then addT L mx n v else L
set_option maxRecDepth 100000 in
set_option maxHeartbeats 4000000 in
theorem ct_df_no {X : mX} {l : Launch} {M : mM} {e a d b c r k : Nat} {L acc : List (Int32 × Int32)} {mx : Int32} {S : List zS} {s : zS} (hS : Shp M) (he : e < 2) (hB : TabG M (20 + 80 * e) L mx) (hK : BK M b c r S) (hks : S[k]? = some s) (hF : FK M a d acc) (h6 : acc.length < 6) (hb : 223 ≤ b) (hba : c + 3 < a) (hn : ¬ (s.2.1 = 0 ∧ ¬ s.1 = 1)) (hi : hiT L s.2.1 = 0) : Ct X l uDec_decodeField (rk 2 45) [.ref (19 + 80 * e), .ref b, .int (nI k), .ref a] M (fun r M' => r = some (.int 0) ∧ M' = M) := by
  refine Ct.of (by decide) (Nat.le_of_ble_eq_true rfl) ?_
  show G X l uDec_decodeField (rk 2 45) 0 0 M 0 [some (.ref (19 + 80 * e)), some (.ref b), some (.int (nI k)), some (.ref a), none, none, none, none, none] [] _
  have hkl := (List.getElem?_eq_some_iff.mp hks).1
  have hr8 := hK.2.2.2.1
  have hv := hK.2.2.2.2.2 k s hks
  refine g_aload_n 0 dDec_decodeField_0 rfl ?_
  refine g_getr 1 11 0 dDec_decodeField_1 fs_Dec_34 rfl hK.1 (hK.2.2.2.2.1 0 (by decide)).2 ?_
  refine g_iload_n 4 dDec_decodeField_4 rfl ?_
  refine g_ialdN 5 dDec_decodeField_5 (hK.2.2.2.2.1 0 (by decide)).1 (by omega) (by omega) ?_
  refine g_top (s.1) (hv.1) ?_
  refine g_istore 6 dDec_decodeField_6 (by decide) rfl ?_
  refine g_aload_n 8 dDec_decodeField_8 rfl ?_
  refine g_getr 9 11 1 dDec_decodeField_9 fs_Dec_38 rfl hK.1 (hK.2.2.2.2.1 1 (by decide)).2 ?_
  refine g_iload_n 12 dDec_decodeField_12 rfl ?_
  refine g_ialdN 13 dDec_decodeField_13 (hK.2.2.2.2.1 1 (by decide)).1 (by omega) (by omega) ?_
  refine g_top (s.2.1) (hv.2.1) ?_
  refine g_istore 14 dDec_decodeField_14 (by decide) rfl ?_
  refine g_iload 16 dDec_decodeField_16 rfl ?_
  refine g_if_ne 18 31 dDec_decodeField_18 rfl (fun h18 => ?_) (fun h18 => ?_)
  · refine g_iconst 31 0 dDec_decodeField_31 rfl ?_
    refine g_istore 32 dDec_decodeField_32 (by decide) rfl ?_
    refine g_iload 34 dDec_decodeField_34 rfl ?_
    refine g_if_ne 36 53 dDec_decodeField_36 rfl (fun h36 => ?_) (fun h36 => ?_)
    · exact absurd rfl h36
    · refine g_aload_n 39 dDec_decodeField_39 rfl ?_
      refine g_getr 40 6 0 dDec_decodeField_40 fs_Dec_12 rfl (hS.tDec he) (hS.rDec0 he) ?_
      refine g_iload 43 dDec_decodeField_43 rfl ?_
      refine g_callV 45 [_] dDec_decodeField_45 cs_Dec_49 rfl (ci := 5) rfl (by decide) (hS.tTabD he) rfl ⟨(Nat.le_of_ble_eq_true rfl), (Nat.le_of_ble_eq_true rfl)⟩ (Nat.le_of_ble_eq_true rfl) (ct_T_hi (hS.tg1 he) hB) (Nat.le_of_ble_eq_true rfl) (Nat.le_of_ble_eq_true rfl) ?_
      rintro _ M2 ⟨rfl, hM2⟩
      rw [hM2]
      clear hM2 M2
      refine g_if_ne 48 53 dDec_decodeField_48 rfl (fun h48 => ?_) (fun h48 => ?_)
      · exact absurd hi h48
      · refine g_iconst 51 0 dDec_decodeField_51 rfl ?_
        exact g_zret 52 dDec_decodeField_52 rfl (by decide) ⟨rfl, rfl⟩
  · refine g_iload 21 dDec_decodeField_21 rfl ?_
    refine g_iconst 23 1 dDec_decodeField_23 rfl ?_
    refine g_icmp_eq 24 31 dDec_decodeField_24 rfl (fun h24 => ?_) (fun h24 => ?_)
    · refine g_iconst 31 0 dDec_decodeField_31 rfl ?_
      refine g_istore 32 dDec_decodeField_32 (by decide) rfl ?_
      refine g_iload 34 dDec_decodeField_34 rfl ?_
      refine g_if_ne 36 53 dDec_decodeField_36 rfl (fun h36 => ?_) (fun h36 => ?_)
      · exact absurd rfl h36
      · refine g_aload_n 39 dDec_decodeField_39 rfl ?_
        refine g_getr 40 6 0 dDec_decodeField_40 fs_Dec_12 rfl (hS.tDec he) (hS.rDec0 he) ?_
        refine g_iload 43 dDec_decodeField_43 rfl ?_
        refine g_callV 45 [_] dDec_decodeField_45 cs_Dec_49 rfl (ci := 5) rfl (by decide) (hS.tTabD he) rfl ⟨(Nat.le_of_ble_eq_true rfl), (Nat.le_of_ble_eq_true rfl)⟩ (Nat.le_of_ble_eq_true rfl) (ct_T_hi (hS.tg1 he) hB) (Nat.le_of_ble_eq_true rfl) (Nat.le_of_ble_eq_true rfl) ?_
        rintro _ M2 ⟨rfl, hM2⟩
        rw [hM2]
        clear hM2 M2
        refine g_if_ne 48 53 dDec_decodeField_48 rfl (fun h48 => ?_) (fun h48 => ?_)
        · exact absurd hi h48
        · refine g_iconst 51 0 dDec_decodeField_51 rfl ?_
          exact g_zret 52 dDec_decodeField_52 rfl (by decide) ⟨rfl, rfl⟩
    · exact absurd ⟨h18, h24⟩ hn

set_option maxRecDepth 100000 in
set_option maxHeartbeats 4000000 in
theorem ct_df_named {X : mX} {l : Launch} {M : mM} {e a d b c r k : Nat} {L acc : List (Int32 × Int32)} {mx : Int32} {S : List zS} {s : zS} (hS : Shp M) (he : e < 2) (hB : TabG M (20 + 80 * e) L mx) (hK : BK M b c r S) (hks : S[k]? = some s) (hF : FK M a d acc) (h6 : acc.length < 6) (hb : 223 ≤ b) (hba : c + 3 < a) (hn0 : s.2.1 = 0) (hn1 : ¬ s.1 = 1) : Ct X l uDec_decodeField (rk 2 45) [.ref (19 + 80 * e), .ref b, .int (nI k), .ref a] M (fun r M' => r = some (.int 1) ∧ TabG M' (20 + 80 * e) (decL L mx s.1 (s.2.2.1) (s.2.2.2)) mx ∧ FK M' a d (acc ++ [(s.2.2.1, s.2.2.2)]) ∧ Chg M M' (PD e a d) no2) := by
  refine Ct.of (by decide) (Nat.le_of_ble_eq_true rfl) ?_
  show G X l uDec_decodeField (rk 2 45) 0 0 M 0 [some (.ref (19 + 80 * e)), some (.ref b), some (.int (nI k)), some (.ref a), none, none, none, none, none] [] _
  have hkl := (List.getElem?_eq_some_iff.mp hks).1
  have hr8 := hK.2.2.2.1
  have hv := hK.2.2.2.2.2 k s hks
  refine g_aload_n 0 dDec_decodeField_0 rfl ?_
  refine g_getr 1 11 0 dDec_decodeField_1 fs_Dec_34 rfl hK.1 (hK.2.2.2.2.1 0 (by decide)).2 ?_
  refine g_iload_n 4 dDec_decodeField_4 rfl ?_
  refine g_ialdN 5 dDec_decodeField_5 (hK.2.2.2.2.1 0 (by decide)).1 (by omega) (by omega) ?_
  refine g_top (s.1) (hv.1) ?_
  refine g_istore 6 dDec_decodeField_6 (by decide) rfl ?_
  refine g_aload_n 8 dDec_decodeField_8 rfl ?_
  refine g_getr 9 11 1 dDec_decodeField_9 fs_Dec_38 rfl hK.1 (hK.2.2.2.2.1 1 (by decide)).2 ?_
  refine g_iload_n 12 dDec_decodeField_12 rfl ?_
  refine g_ialdN 13 dDec_decodeField_13 (hK.2.2.2.2.1 1 (by decide)).1 (by omega) (by omega) ?_
  refine g_top (s.2.1) (hv.2.1) ?_
  refine g_istore 14 dDec_decodeField_14 (by decide) rfl ?_
  refine g_iload 16 dDec_decodeField_16 rfl ?_
  refine g_if_ne 18 31 dDec_decodeField_18 rfl (fun h18 => ?_) (fun h18 => ?_)
  · exact absurd hn0 h18
  · refine g_iload 21 dDec_decodeField_21 rfl ?_
    refine g_iconst 23 1 dDec_decodeField_23 rfl ?_
    refine g_icmp_eq 24 31 dDec_decodeField_24 rfl (fun h24 => ?_) (fun h24 => ?_)
    · exact absurd h24 hn1
    · refine g_iconst 27 1 dDec_decodeField_27 rfl ?_
      refine g_goto 28 32 dDec_decodeField_28 rfl ?_
      refine g_istore 32 dDec_decodeField_32 (by decide) rfl ?_
      refine g_iload 34 dDec_decodeField_34 rfl ?_
      refine g_if_ne 36 53 dDec_decodeField_36 rfl (fun h36 => ?_) (fun h36 => ?_)
      · refine g_iload 53 dDec_decodeField_53 rfl ?_
        refine g_if_eq 55 67 dDec_decodeField_55 rfl (fun h55 => ?_) (fun h55 => ?_)
        · exact absurd h55 (by decide)
        · refine g_aload_n 58 dDec_decodeField_58 rfl ?_
          refine g_getr 59 11 2 dDec_decodeField_59 fs_Dec_53 rfl hK.1 (hK.2.2.2.2.1 2 (by decide)).2 ?_
          refine g_iload_n 62 dDec_decodeField_62 rfl ?_
          refine g_ialdN 63 dDec_decodeField_63 (hK.2.2.2.2.1 2 (by decide)).1 (by omega) (by omega) ?_
          refine g_top (s.2.2.1) (hv.2.2.1) ?_
          refine g_goto 64 76 dDec_decodeField_64 rfl ?_
          refine g_istore 76 dDec_decodeField_76 (by decide) rfl ?_
          refine g_iload 78 dDec_decodeField_78 rfl ?_
          refine g_iconst 80 1 dDec_decodeField_80 rfl ?_
          refine g_icmp_ne 81 96 dDec_decodeField_81 rfl (fun h81 => ?_) (fun h81 => ?_)
          · refine g_aload_n 96 dDec_decodeField_96 rfl ?_
            refine g_getr 97 11 3 dDec_decodeField_97 fs_Dec_63 rfl hK.1 (hK.2.2.2.2.1 3 (by decide)).2 ?_
            refine g_iload_n 100 dDec_decodeField_100 rfl ?_
            refine g_ialdN 101 dDec_decodeField_101 (hK.2.2.2.2.1 3 (by decide)).1 (by omega) (by omega) ?_
            refine g_top (s.2.2.2) (hv.2.2.2) ?_
            refine g_istore 102 dDec_decodeField_102 (by decide) rfl ?_
            refine g_aload_n 104 dDec_decodeField_104 rfl ?_
            refine g_iload 105 dDec_decodeField_105 rfl ?_
            refine g_iload 107 dDec_decodeField_107 rfl ?_
            refine g_iload 109 dDec_decodeField_109 rfl ?_
            refine g_iconst 111 3 dDec_decodeField_111 rfl ?_
            refine g_icmp_ne 112 119 dDec_decodeField_112 rfl (fun h112 => ?_) (fun h112 => ?_)
            · refine g_iconst 119 0 dDec_decodeField_119 rfl ?_
              refine g_callV 120 [_, _, _] dDec_decodeField_120 cs_Dec_66 rfl (ci := 3) rfl (by decide) hF.1 rfl ⟨(Nat.le_of_ble_eq_true rfl), (Nat.le_of_ble_eq_true rfl)⟩ (Nat.le_of_ble_eq_true rfl) (ct_FK_add hF h6 (by decide)) (Nat.le_of_ble_eq_true rfl) (Nat.le_of_ble_eq_true rfl) ?_
              rintro _ M1 ⟨rfl, hF1, hc1⟩
              have hS1 := hS.mv hc1 (fun _ _ q => q.elim)
              have hB1 := hB.mv hc1 (hS.tg1 he).2.1 (fun x j q => by have := hF.2.2.2.1.1; omega)
              have hC1 : Chg M M1 (PD e a d) no2 := hc1.mono (fun x j q => Or.inr q) fun _ _ q => q
              refine g_iload 123 dDec_decodeField_123 rfl ?_
              refine g_iconst 125 2 dDec_decodeField_125 rfl ?_
              refine g_icmp_ne 126 140 dDec_decodeField_126 rfl (fun h126 => ?_) (fun h126 => ?_)
              · have hB9 : TabG M1 (20 + 80 * e) (decL L mx s.1 (s.2.2.1) (s.2.2.2)) mx := by unfold decL; rw [if_neg h126]; exact hB1
                have hF9 := hF1
                have hC9 := hC1
                
                refine g_iconst 140 1 dDec_decodeField_140 rfl ?_
                exact g_zret 141 dDec_decodeField_141 rfl (by decide) ⟨rfl, hB9, hF9, hC9⟩
              · refine g_aload_n 129 dDec_decodeField_129 rfl ?_
                refine g_getr 130 6 0 dDec_decodeField_130 fs_Dec_12 rfl (hS1.tDec he) (hS1.rDec0 he) ?_
                refine g_iload 133 dDec_decodeField_133 rfl ?_
                refine g_iload 135 dDec_decodeField_135 rfl ?_
                refine g_callV 137 [_, _] dDec_decodeField_137 cs_Dec_70 rfl (ci := 5) rfl (by decide) (hS1.tTabD he) rfl ⟨(Nat.le_of_ble_eq_true rfl), (Nat.le_of_ble_eq_true rfl)⟩ (Nat.le_of_ble_eq_true rfl) (ct_T_add (hS1.tg1 he) hB1) (Nat.le_of_ble_eq_true rfl) (Nat.le_of_ble_eq_true rfl) ?_
                rintro _ M2 ⟨rfl, hB2, hc2⟩
                have hB9 : TabG M2 (20 + 80 * e) (decL L mx s.1 (s.2.2.1) (s.2.2.2)) mx := by unfold decL; rw [if_pos h126]; exact hB2
                have hF9 := hF1.mv hc2 (fun x j q => by omega) (fun _ _ q => q.elim)
                have hC9 := hC1.tr (hc2.mono (fun x j q => Or.inl ⟨q.1, by omega⟩) fun _ _ q => q)
                
                refine g_iconst 140 1 dDec_decodeField_140 rfl ?_
                exact g_zret 141 dDec_decodeField_141 rfl (by decide) ⟨rfl, hB9, hF9, hC9⟩
            · refine g_iconst 115 1 dDec_decodeField_115 rfl ?_
              refine g_goto 116 120 dDec_decodeField_116 rfl ?_
              refine g_callV 120 [_, _, _] dDec_decodeField_120 cs_Dec_66 rfl (ci := 3) rfl (by decide) hF.1 rfl ⟨(Nat.le_of_ble_eq_true rfl), (Nat.le_of_ble_eq_true rfl)⟩ (Nat.le_of_ble_eq_true rfl) (ct_FK_add hF h6 (by decide)) (Nat.le_of_ble_eq_true rfl) (Nat.le_of_ble_eq_true rfl) ?_
              rintro _ M1 ⟨rfl, hF1, hc1⟩
              have hS1 := hS.mv hc1 (fun _ _ q => q.elim)
              have hB1 := hB.mv hc1 (hS.tg1 he).2.1 (fun x j q => by have := hF.2.2.2.1.1; omega)
              have hC1 : Chg M M1 (PD e a d) no2 := hc1.mono (fun x j q => Or.inr q) fun _ _ q => q
              refine g_iload 123 dDec_decodeField_123 rfl ?_
              refine g_iconst 125 2 dDec_decodeField_125 rfl ?_
              refine g_icmp_ne 126 140 dDec_decodeField_126 rfl (fun h126 => ?_) (fun h126 => ?_)
              · have hB9 : TabG M1 (20 + 80 * e) (decL L mx s.1 (s.2.2.1) (s.2.2.2)) mx := by unfold decL; rw [if_neg h126]; exact hB1
                have hF9 := hF1
                have hC9 := hC1
                
                refine g_iconst 140 1 dDec_decodeField_140 rfl ?_
                exact g_zret 141 dDec_decodeField_141 rfl (by decide) ⟨rfl, hB9, hF9, hC9⟩
              · refine g_aload_n 129 dDec_decodeField_129 rfl ?_
                refine g_getr 130 6 0 dDec_decodeField_130 fs_Dec_12 rfl (hS1.tDec he) (hS1.rDec0 he) ?_
                refine g_iload 133 dDec_decodeField_133 rfl ?_
                refine g_iload 135 dDec_decodeField_135 rfl ?_
                refine g_callV 137 [_, _] dDec_decodeField_137 cs_Dec_70 rfl (ci := 5) rfl (by decide) (hS1.tTabD he) rfl ⟨(Nat.le_of_ble_eq_true rfl), (Nat.le_of_ble_eq_true rfl)⟩ (Nat.le_of_ble_eq_true rfl) (ct_T_add (hS1.tg1 he) hB1) (Nat.le_of_ble_eq_true rfl) (Nat.le_of_ble_eq_true rfl) ?_
                rintro _ M2 ⟨rfl, hB2, hc2⟩
                have hB9 : TabG M2 (20 + 80 * e) (decL L mx s.1 (s.2.2.1) (s.2.2.2)) mx := by unfold decL; rw [if_pos h126]; exact hB2
                have hF9 := hF1.mv hc2 (fun x j q => by omega) (fun _ _ q => q.elim)
                have hC9 := hC1.tr (hc2.mono (fun x j q => Or.inl ⟨q.1, by omega⟩) fun _ _ q => q)
                
                refine g_iconst 140 1 dDec_decodeField_140 rfl ?_
                exact g_zret 141 dDec_decodeField_141 rfl (by decide) ⟨rfl, hB9, hF9, hC9⟩
          · exact absurd h81 hn1
      · exact absurd h36 (by decide)

set_option maxRecDepth 100000 in
set_option maxHeartbeats 4000000 in
theorem ct_df_idx {X : mX} {l : Launch} {M : mM} {e a d b c r k : Nat} {L acc : List (Int32 × Int32)} {mx : Int32} {S : List zS} {s : zS} (hS : Shp M) (he : e < 2) (hB : TabG M (20 + 80 * e) L mx) (hK : BK M b c r S) (hks : S[k]? = some s) (hF : FK M a d acc) (h6 : acc.length < 6) (hb : 223 ≤ b) (hba : c + 3 < a) {i : Nat} (hX : FX X) (hsi : s.2.1 = nI i) (h1 : 1 ≤ i) (h2 : i ≤ 6 + L.length) : Ct X l uDec_decodeField (rk 2 45) [.ref (19 + 80 * e), .ref b, .int (nI k), .ref a] M (fun r M' => r = some (.int 1) ∧ TabG M' (20 + 80 * e) (decL L mx s.1 (nmT L i) (decV L s i)) mx ∧ FK M' a d (acc ++ [(nmT L i, decV L s i)]) ∧ Chg M M' (PD e a d) no2) := by
  refine Ct.of (by decide) (Nat.le_of_ble_eq_true rfl) ?_
  show G X l uDec_decodeField (rk 2 45) 0 0 M 0 [some (.ref (19 + 80 * e)), some (.ref b), some (.int (nI k)), some (.ref a), none, none, none, none, none] [] _
  have hkl := (List.getElem?_eq_some_iff.mp hks).1
  have hr8 := hK.2.2.2.1
  have hv := hK.2.2.2.2.2 k s hks
  have hn5 := hB.2.1
  refine g_aload_n 0 dDec_decodeField_0 rfl ?_
  refine g_getr 1 11 0 dDec_decodeField_1 fs_Dec_34 rfl hK.1 (hK.2.2.2.2.1 0 (by decide)).2 ?_
  refine g_iload_n 4 dDec_decodeField_4 rfl ?_
  refine g_ialdN 5 dDec_decodeField_5 (hK.2.2.2.2.1 0 (by decide)).1 (by omega) (by omega) ?_
  refine g_top (s.1) (hv.1) ?_
  refine g_istore 6 dDec_decodeField_6 (by decide) rfl ?_
  refine g_aload_n 8 dDec_decodeField_8 rfl ?_
  refine g_getr 9 11 1 dDec_decodeField_9 fs_Dec_38 rfl hK.1 (hK.2.2.2.2.1 1 (by decide)).2 ?_
  refine g_iload_n 12 dDec_decodeField_12 rfl ?_
  refine g_ialdN 13 dDec_decodeField_13 (hK.2.2.2.2.1 1 (by decide)).1 (by omega) (by omega) ?_
  refine g_top (nI (i)) (hv.2.1.trans hsi) ?_
  refine g_istore 14 dDec_decodeField_14 (by decide) rfl ?_
  refine g_iload 16 dDec_decodeField_16 rfl ?_
  refine g_if_neN 18 31 dDec_decodeField_18 rfl (by omega) (fun h18 => ?_) (fun h18 => ?_)
  · refine g_iconst 31 0 dDec_decodeField_31 rfl ?_
    refine g_istore 32 dDec_decodeField_32 (by decide) rfl ?_
    refine g_iload 34 dDec_decodeField_34 rfl ?_
    refine g_if_ne 36 53 dDec_decodeField_36 rfl (fun h36 => ?_) (fun h36 => ?_)
    · exact absurd rfl h36
    · refine g_aload_n 39 dDec_decodeField_39 rfl ?_
      refine g_getr 40 6 0 dDec_decodeField_40 fs_Dec_12 rfl (hS.tDec he) (hS.rDec0 he) ?_
      refine g_iload 43 dDec_decodeField_43 rfl ?_
      refine g_callV 45 [_] dDec_decodeField_45 cs_Dec_49 rfl (ci := 5) rfl (by decide) (hS.tTabD he) rfl ⟨(Nat.le_of_ble_eq_true rfl), (Nat.le_of_ble_eq_true rfl)⟩ (Nat.le_of_ble_eq_true rfl) (ct_T_hi1 (hS.tg1 he) hB h1 h2) (Nat.le_of_ble_eq_true rfl) (Nat.le_of_ble_eq_true rfl) ?_
      rintro _ M2 ⟨rfl, hM2⟩
      rw [hM2]
      clear hM2 M2
      refine g_if_ne 48 53 dDec_decodeField_48 rfl (fun h48 => ?_) (fun h48 => ?_)
      · refine g_iload 53 dDec_decodeField_53 rfl ?_
        refine g_if_eq 55 67 dDec_decodeField_55 rfl (fun h55 => ?_) (fun h55 => ?_)
        · refine g_aload_n 67 dDec_decodeField_67 rfl ?_
          refine g_getr 68 6 0 dDec_decodeField_68 fs_Dec_12 rfl (hS.tDec he) (hS.rDec0 he) ?_
          refine g_iload 71 dDec_decodeField_71 rfl ?_
          refine g_callV 73 [_] dDec_decodeField_73 cs_Dec_56 rfl (ci := 5) rfl (by decide) (hS.tTabD he) rfl ⟨(Nat.le_of_ble_eq_true rfl), (Nat.le_of_ble_eq_true rfl)⟩ (Nat.le_of_ble_eq_true rfl) (ct_T_nm (hS.tg1 he) hB hX h1 h2) (Nat.le_of_ble_eq_true rfl) (Nat.le_of_ble_eq_true rfl) ?_
          rintro _ M2 ⟨rfl, hM2⟩
          rw [hM2]
          clear hM2 M2
          refine g_istore 76 dDec_decodeField_76 (by decide) rfl ?_
          refine g_iload 78 dDec_decodeField_78 rfl ?_
          refine g_iconst 80 1 dDec_decodeField_80 rfl ?_
          refine g_icmp_ne 81 96 dDec_decodeField_81 rfl (fun h81 => ?_) (fun h81 => ?_)
          · refine g_aload_n 96 dDec_decodeField_96 rfl ?_
            refine g_getr 97 11 3 dDec_decodeField_97 fs_Dec_63 rfl hK.1 (hK.2.2.2.2.1 3 (by decide)).2 ?_
            refine g_iload_n 100 dDec_decodeField_100 rfl ?_
            refine g_ialdN 101 dDec_decodeField_101 (hK.2.2.2.2.1 3 (by decide)).1 (by omega) (by omega) ?_
            refine g_top (s.2.2.2) (hv.2.2.2) ?_
            refine g_top (decV L s i) (by unfold decV; first | rw [if_pos h81] | rw [if_neg h81]) ?_
            refine g_istore 102 dDec_decodeField_102 (by decide) rfl ?_
            refine g_aload_n 104 dDec_decodeField_104 rfl ?_
            refine g_iload 105 dDec_decodeField_105 rfl ?_
            refine g_iload 107 dDec_decodeField_107 rfl ?_
            refine g_iload 109 dDec_decodeField_109 rfl ?_
            refine g_iconst 111 3 dDec_decodeField_111 rfl ?_
            refine g_icmp_ne 112 119 dDec_decodeField_112 rfl (fun h112 => ?_) (fun h112 => ?_)
            · refine g_iconst 119 0 dDec_decodeField_119 rfl ?_
              refine g_callV 120 [_, _, _] dDec_decodeField_120 cs_Dec_66 rfl (ci := 3) rfl (by decide) hF.1 rfl ⟨(Nat.le_of_ble_eq_true rfl), (Nat.le_of_ble_eq_true rfl)⟩ (Nat.le_of_ble_eq_true rfl) (ct_FK_add hF h6 (by decide)) (Nat.le_of_ble_eq_true rfl) (Nat.le_of_ble_eq_true rfl) ?_
              rintro _ M1 ⟨rfl, hF1, hc1⟩
              have hS1 := hS.mv hc1 (fun _ _ q => q.elim)
              have hB1 := hB.mv hc1 (hS.tg1 he).2.1 (fun x j q => by have := hF.2.2.2.1.1; omega)
              have hC1 : Chg M M1 (PD e a d) no2 := hc1.mono (fun x j q => Or.inr q) fun _ _ q => q
              refine g_iload 123 dDec_decodeField_123 rfl ?_
              refine g_iconst 125 2 dDec_decodeField_125 rfl ?_
              refine g_icmp_ne 126 140 dDec_decodeField_126 rfl (fun h126 => ?_) (fun h126 => ?_)
              · have hB9 : TabG M1 (20 + 80 * e) (decL L mx s.1 (nmT L i) (decV L s i)) mx := by unfold decL; rw [if_neg h126]; exact hB1
                have hF9 := hF1
                have hC9 := hC1
                
                refine g_iconst 140 1 dDec_decodeField_140 rfl ?_
                exact g_zret 141 dDec_decodeField_141 rfl (by decide) ⟨rfl, hB9, hF9, hC9⟩
              · refine g_aload_n 129 dDec_decodeField_129 rfl ?_
                refine g_getr 130 6 0 dDec_decodeField_130 fs_Dec_12 rfl (hS1.tDec he) (hS1.rDec0 he) ?_
                refine g_iload 133 dDec_decodeField_133 rfl ?_
                refine g_iload 135 dDec_decodeField_135 rfl ?_
                refine g_callV 137 [_, _] dDec_decodeField_137 cs_Dec_70 rfl (ci := 5) rfl (by decide) (hS1.tTabD he) rfl ⟨(Nat.le_of_ble_eq_true rfl), (Nat.le_of_ble_eq_true rfl)⟩ (Nat.le_of_ble_eq_true rfl) (ct_T_add (hS1.tg1 he) hB1) (Nat.le_of_ble_eq_true rfl) (Nat.le_of_ble_eq_true rfl) ?_
                rintro _ M2 ⟨rfl, hB2, hc2⟩
                have hB9 : TabG M2 (20 + 80 * e) (decL L mx s.1 (nmT L i) (decV L s i)) mx := by unfold decL; rw [if_pos h126]; exact hB2
                have hF9 := hF1.mv hc2 (fun x j q => by omega) (fun _ _ q => q.elim)
                have hC9 := hC1.tr (hc2.mono (fun x j q => Or.inl ⟨q.1, by omega⟩) fun _ _ q => q)
                
                refine g_iconst 140 1 dDec_decodeField_140 rfl ?_
                exact g_zret 141 dDec_decodeField_141 rfl (by decide) ⟨rfl, hB9, hF9, hC9⟩
            · refine g_iconst 115 1 dDec_decodeField_115 rfl ?_
              refine g_goto 116 120 dDec_decodeField_116 rfl ?_
              refine g_callV 120 [_, _, _] dDec_decodeField_120 cs_Dec_66 rfl (ci := 3) rfl (by decide) hF.1 rfl ⟨(Nat.le_of_ble_eq_true rfl), (Nat.le_of_ble_eq_true rfl)⟩ (Nat.le_of_ble_eq_true rfl) (ct_FK_add hF h6 (by decide)) (Nat.le_of_ble_eq_true rfl) (Nat.le_of_ble_eq_true rfl) ?_
              rintro _ M1 ⟨rfl, hF1, hc1⟩
              have hS1 := hS.mv hc1 (fun _ _ q => q.elim)
              have hB1 := hB.mv hc1 (hS.tg1 he).2.1 (fun x j q => by have := hF.2.2.2.1.1; omega)
              have hC1 : Chg M M1 (PD e a d) no2 := hc1.mono (fun x j q => Or.inr q) fun _ _ q => q
              refine g_iload 123 dDec_decodeField_123 rfl ?_
              refine g_iconst 125 2 dDec_decodeField_125 rfl ?_
              refine g_icmp_ne 126 140 dDec_decodeField_126 rfl (fun h126 => ?_) (fun h126 => ?_)
              · have hB9 : TabG M1 (20 + 80 * e) (decL L mx s.1 (nmT L i) (decV L s i)) mx := by unfold decL; rw [if_neg h126]; exact hB1
                have hF9 := hF1
                have hC9 := hC1
                
                refine g_iconst 140 1 dDec_decodeField_140 rfl ?_
                exact g_zret 141 dDec_decodeField_141 rfl (by decide) ⟨rfl, hB9, hF9, hC9⟩
              · refine g_aload_n 129 dDec_decodeField_129 rfl ?_
                refine g_getr 130 6 0 dDec_decodeField_130 fs_Dec_12 rfl (hS1.tDec he) (hS1.rDec0 he) ?_
                refine g_iload 133 dDec_decodeField_133 rfl ?_
                refine g_iload 135 dDec_decodeField_135 rfl ?_
                refine g_callV 137 [_, _] dDec_decodeField_137 cs_Dec_70 rfl (ci := 5) rfl (by decide) (hS1.tTabD he) rfl ⟨(Nat.le_of_ble_eq_true rfl), (Nat.le_of_ble_eq_true rfl)⟩ (Nat.le_of_ble_eq_true rfl) (ct_T_add (hS1.tg1 he) hB1) (Nat.le_of_ble_eq_true rfl) (Nat.le_of_ble_eq_true rfl) ?_
                rintro _ M2 ⟨rfl, hB2, hc2⟩
                have hB9 : TabG M2 (20 + 80 * e) (decL L mx s.1 (nmT L i) (decV L s i)) mx := by unfold decL; rw [if_pos h126]; exact hB2
                have hF9 := hF1.mv hc2 (fun x j q => by omega) (fun _ _ q => q.elim)
                have hC9 := hC1.tr (hc2.mono (fun x j q => Or.inl ⟨q.1, by omega⟩) fun _ _ q => q)
                
                refine g_iconst 140 1 dDec_decodeField_140 rfl ?_
                exact g_zret 141 dDec_decodeField_141 rfl (by decide) ⟨rfl, hB9, hF9, hC9⟩
          · refine g_aload_n 84 dDec_decodeField_84 rfl ?_
            refine g_getr 85 6 0 dDec_decodeField_85 fs_Dec_12 rfl (hS.tDec he) (hS.rDec0 he) ?_
            refine g_iload 88 dDec_decodeField_88 rfl ?_
            refine g_callV 90 [_] dDec_decodeField_90 cs_Dec_60 rfl (ci := 5) rfl (by decide) (hS.tTabD he) rfl ⟨(Nat.le_of_ble_eq_true rfl), (Nat.le_of_ble_eq_true rfl)⟩ (Nat.le_of_ble_eq_true rfl) (ct_T_vl (hS.tg1 he) hB hX h1 h2) (Nat.le_of_ble_eq_true rfl) (Nat.le_of_ble_eq_true rfl) ?_
            rintro _ M2 ⟨rfl, hM2⟩
            rw [hM2]
            clear hM2 M2
            refine g_goto 93 102 dDec_decodeField_93 rfl ?_
            refine g_top (decV L s i) (by unfold decV; first | rw [if_pos h81] | rw [if_neg h81]) ?_
            refine g_istore 102 dDec_decodeField_102 (by decide) rfl ?_
            refine g_aload_n 104 dDec_decodeField_104 rfl ?_
            refine g_iload 105 dDec_decodeField_105 rfl ?_
            refine g_iload 107 dDec_decodeField_107 rfl ?_
            refine g_iload 109 dDec_decodeField_109 rfl ?_
            refine g_iconst 111 3 dDec_decodeField_111 rfl ?_
            refine g_icmp_ne 112 119 dDec_decodeField_112 rfl (fun h112 => ?_) (fun h112 => ?_)
            · refine g_iconst 119 0 dDec_decodeField_119 rfl ?_
              refine g_callV 120 [_, _, _] dDec_decodeField_120 cs_Dec_66 rfl (ci := 3) rfl (by decide) hF.1 rfl ⟨(Nat.le_of_ble_eq_true rfl), (Nat.le_of_ble_eq_true rfl)⟩ (Nat.le_of_ble_eq_true rfl) (ct_FK_add hF h6 (by decide)) (Nat.le_of_ble_eq_true rfl) (Nat.le_of_ble_eq_true rfl) ?_
              rintro _ M1 ⟨rfl, hF1, hc1⟩
              have hS1 := hS.mv hc1 (fun _ _ q => q.elim)
              have hB1 := hB.mv hc1 (hS.tg1 he).2.1 (fun x j q => by have := hF.2.2.2.1.1; omega)
              have hC1 : Chg M M1 (PD e a d) no2 := hc1.mono (fun x j q => Or.inr q) fun _ _ q => q
              refine g_iload 123 dDec_decodeField_123 rfl ?_
              refine g_iconst 125 2 dDec_decodeField_125 rfl ?_
              refine g_icmp_ne 126 140 dDec_decodeField_126 rfl (fun h126 => ?_) (fun h126 => ?_)
              · have hB9 : TabG M1 (20 + 80 * e) (decL L mx s.1 (nmT L i) (decV L s i)) mx := by unfold decL; rw [if_neg h126]; exact hB1
                have hF9 := hF1
                have hC9 := hC1
                
                refine g_iconst 140 1 dDec_decodeField_140 rfl ?_
                exact g_zret 141 dDec_decodeField_141 rfl (by decide) ⟨rfl, hB9, hF9, hC9⟩
              · refine g_aload_n 129 dDec_decodeField_129 rfl ?_
                refine g_getr 130 6 0 dDec_decodeField_130 fs_Dec_12 rfl (hS1.tDec he) (hS1.rDec0 he) ?_
                refine g_iload 133 dDec_decodeField_133 rfl ?_
                refine g_iload 135 dDec_decodeField_135 rfl ?_
                refine g_callV 137 [_, _] dDec_decodeField_137 cs_Dec_70 rfl (ci := 5) rfl (by decide) (hS1.tTabD he) rfl ⟨(Nat.le_of_ble_eq_true rfl), (Nat.le_of_ble_eq_true rfl)⟩ (Nat.le_of_ble_eq_true rfl) (ct_T_add (hS1.tg1 he) hB1) (Nat.le_of_ble_eq_true rfl) (Nat.le_of_ble_eq_true rfl) ?_
                rintro _ M2 ⟨rfl, hB2, hc2⟩
                have hB9 : TabG M2 (20 + 80 * e) (decL L mx s.1 (nmT L i) (decV L s i)) mx := by unfold decL; rw [if_pos h126]; exact hB2
                have hF9 := hF1.mv hc2 (fun x j q => by omega) (fun _ _ q => q.elim)
                have hC9 := hC1.tr (hc2.mono (fun x j q => Or.inl ⟨q.1, by omega⟩) fun _ _ q => q)
                
                refine g_iconst 140 1 dDec_decodeField_140 rfl ?_
                exact g_zret 141 dDec_decodeField_141 rfl (by decide) ⟨rfl, hB9, hF9, hC9⟩
            · refine g_iconst 115 1 dDec_decodeField_115 rfl ?_
              refine g_goto 116 120 dDec_decodeField_116 rfl ?_
              refine g_callV 120 [_, _, _] dDec_decodeField_120 cs_Dec_66 rfl (ci := 3) rfl (by decide) hF.1 rfl ⟨(Nat.le_of_ble_eq_true rfl), (Nat.le_of_ble_eq_true rfl)⟩ (Nat.le_of_ble_eq_true rfl) (ct_FK_add hF h6 (by decide)) (Nat.le_of_ble_eq_true rfl) (Nat.le_of_ble_eq_true rfl) ?_
              rintro _ M1 ⟨rfl, hF1, hc1⟩
              have hS1 := hS.mv hc1 (fun _ _ q => q.elim)
              have hB1 := hB.mv hc1 (hS.tg1 he).2.1 (fun x j q => by have := hF.2.2.2.1.1; omega)
              have hC1 : Chg M M1 (PD e a d) no2 := hc1.mono (fun x j q => Or.inr q) fun _ _ q => q
              refine g_iload 123 dDec_decodeField_123 rfl ?_
              refine g_iconst 125 2 dDec_decodeField_125 rfl ?_
              refine g_icmp_ne 126 140 dDec_decodeField_126 rfl (fun h126 => ?_) (fun h126 => ?_)
              · have hB9 : TabG M1 (20 + 80 * e) (decL L mx s.1 (nmT L i) (decV L s i)) mx := by unfold decL; rw [if_neg h126]; exact hB1
                have hF9 := hF1
                have hC9 := hC1
                
                refine g_iconst 140 1 dDec_decodeField_140 rfl ?_
                exact g_zret 141 dDec_decodeField_141 rfl (by decide) ⟨rfl, hB9, hF9, hC9⟩
              · refine g_aload_n 129 dDec_decodeField_129 rfl ?_
                refine g_getr 130 6 0 dDec_decodeField_130 fs_Dec_12 rfl (hS1.tDec he) (hS1.rDec0 he) ?_
                refine g_iload 133 dDec_decodeField_133 rfl ?_
                refine g_iload 135 dDec_decodeField_135 rfl ?_
                refine g_callV 137 [_, _] dDec_decodeField_137 cs_Dec_70 rfl (ci := 5) rfl (by decide) (hS1.tTabD he) rfl ⟨(Nat.le_of_ble_eq_true rfl), (Nat.le_of_ble_eq_true rfl)⟩ (Nat.le_of_ble_eq_true rfl) (ct_T_add (hS1.tg1 he) hB1) (Nat.le_of_ble_eq_true rfl) (Nat.le_of_ble_eq_true rfl) ?_
                rintro _ M2 ⟨rfl, hB2, hc2⟩
                have hB9 : TabG M2 (20 + 80 * e) (decL L mx s.1 (nmT L i) (decV L s i)) mx := by unfold decL; rw [if_pos h126]; exact hB2
                have hF9 := hF1.mv hc2 (fun x j q => by omega) (fun _ _ q => q.elim)
                have hC9 := hC1.tr (hc2.mono (fun x j q => Or.inl ⟨q.1, by omega⟩) fun _ _ q => q)
                
                refine g_iconst 140 1 dDec_decodeField_140 rfl ?_
                exact g_zret 141 dDec_decodeField_141 rfl (by decide) ⟨rfl, hB9, hF9, hC9⟩
        · exact absurd rfl h55
      · exact absurd h48 (by decide)
  · exact absurd h18 (by omega)

def decF (L : List (Int32 × Int32)) (s : zS) : Option (Int32 × Int32) := if s.2.1 = 0 ∧ ¬ s.1 = 1 then some (s.2.2.1, s.2.2.2) else if hiT L s.2.1 = 0 then none else some (nmT L s.2.1.toNatClampNeg, decV L s s.2.1.toNatClampNeg)
/-- the list (or none), the table and its maximum behind the steps -/
def decR (lim due : Int32) : List zS → Nat → Int32 → List (Int32 × Int32) → Int32 → List (Int32 × Int32) → Option (List (Int32 × Int32)) × List (Int32 × Int32) × Int32
  | [], _, _, L, mx, acc => (some acc, L, mx)
  | s :: S, k, al, L, mx, acc => if s.1 = 0 then (if al = 0 then (none, L, mx) else if s.2.1 ≤ lim then decR lim due S (k + 1) al (dropT s.2.1 L) s.2.1 acc else (none, L, mx)) else if k = 0 ∧ ¬ due = 0 then (none, L, mx) else match decF L s with
    | none => (none, L, mx)
    | some x => decR lim due S (k + 1) 0 (decL L mx s.1 x.1 x.2) mx (acc ++ [x])
/-- how many fields the steps make -/
def nfld : List zS → Nat
  | [] => 0
  | s :: S => if s.1 = 0 then nfld S else nfld S + 1
theorem BK.mv3 {M M' : mM} {b c r : Nat} {S : List zS} {PI PR : Nat → Nat → Prop} (h : BK M b c r S) (g : Chg M M' PI PR) (n1 : ∀ a k, PI a k → ¬ (b ≤ a ∧ a ≤ c + 3)) (n2 : ∀ a k, PR a k → a < b) : BK M' b c r S := by
  obtain ⟨h1, h2, h3, ⟨p2, p3, p4, p5⟩, h4, h5⟩ := h
  have hI : ∀ a k, b ≤ a → a ≤ c + 3 → mI M' a k = mI M a k := fun a k ha hb => g.2.2.1 a k (by omega) fun q => n1 _ _ q ⟨ha, hb⟩
  have hR : ∀ a k, b ≤ a → a < mN M → mR M' a k = mR M a k := fun a k ha hb => g.2.2.2.2 a k hb fun q => by have := n2 _ _ q; omega
  refine ⟨by rw [g.2.1 b (by omega)]; exact h1, by rw [hI b 4 (by omega) (by omega)]; exact h2, by rw [hI b 5 (by omega) (by omega)]; exact h3, ⟨p2, Nat.lt_of_lt_of_le p3 g.1, p4, p5⟩, fun i hi => ⟨by rw [g.2.1 _ (by omega)]; exact (h4 i hi).1, by rw [hR b i (by omega) (by omega)]; exact (h4 i hi).2⟩, fun j s hs => ?_⟩
  rw [hI c j (by omega) (by omega), hI (c + 1) j (by omega) (by omega), hI (c + 2) j (by omega) (by omega), hI (c + 3) j (by omega) (by omega)]
  exact h5 j s hs
set_option maxRecDepth 100000 in
set_option maxHeartbeats 4000000 in
theorem dec_no {X : mX} {l : Launch} {M1 : mM} {e a d b c r k : Nat} {L acc : List (Int32 × Int32)} {mx lim al : Int32} {S0 : List zS} {s : zS} {bc bs : Nat} {Q : Option Value → mM → Prop} (hS : Shp M1) (he : e < 2) (hB : TabG M1 (20 + 80 * e) L mx) (hK : BK M1 b c r S0) (hx : S0[k]? = some s) (hF : FK M1 a d acc) (h6 : acc.length < 6) (hb : 223 ≤ b) (hba : c + 3 < a) (hn : ¬ (s.2.1 = 0 ∧ ¬ s.1 = 1)) (hi : hiT L s.2.1 = 0) (hq : Q (some .null) M1) : G X l uDec_decode (rn 3 73 4 22) bc bs M1 80 [some (.ref (19 + 80 * e)), some (.ref b), some (.int lim), some (.ref a), some (.int al), some (.int (nI k))] [] Q := by
  refine g_aload_n 80 dDec_decode_80 rfl ?_
  refine g_aload_n 81 dDec_decode_81 rfl ?_
  refine g_iload 82 dDec_decode_82 rfl ?_
  refine g_aload_n 84 dDec_decode_84 rfl ?_
  refine g_callV 85 [_, _, _] dDec_decode_85 cs_Dec_45 rfl (ci := 6) rfl (by decide) (hS.tDec he) rfl ⟨(Nat.le_of_ble_eq_true rfl), (Nat.le_of_ble_eq_true rfl)⟩ (Nat.le_of_ble_eq_true rfl) (ct_df_no hS he hB hK hx hF h6 hb hba hn hi) (Nat.le_of_ble_eq_true rfl) (Nat.le_of_ble_eq_true rfl) ?_
  rintro _ M2 ⟨rfl, hM2⟩
  rw [hM2]
  clear hM2 M2
  refine g_if_ne 88 93 dDec_decode_88 rfl (fun h88 => ?_) (fun h88 => ?_)
  · exact absurd rfl h88
  · refine g_null 91 dDec_decode_91 ?_
    exact g_aretN 92 dDec_decode_92 rfl (Or.inl ⟨_, rfl⟩) hq
set_option maxRecDepth 100000 in
set_option maxHeartbeats 4000000 in
theorem dec_yes {X : mX} {l : Launch} {M1 : mM} {e a d b c r k : Nat} {L acc : List (Int32 × Int32)} {mx lim al : Int32} {S0 : List zS} {s : zS} {bc bs : Nat} {Q : Option Value → mM → Prop} {x : Int32 × Int32} (hX : FX X) (hS : Shp M1) (he : e < 2) (hB : TabG M1 (20 + 80 * e) L mx) (hK : BK M1 b c r S0) (hx : S0[k]? = some s) (hF : FK M1 a d acc) (h6 : acc.length < 6) (hb : 223 ≤ b) (hba : c + 3 < a) (hd : decF L s = some x) (hq : ∀ M2, TabG M2 (20 + 80 * e) (decL L mx s.1 x.1 x.2) mx → FK M2 a d (acc ++ [x]) → Chg M1 M2 (PD e a d) no2 → G X l uDec_decode (rn 3 73 4 22) bc bs M2 14 [some (.ref (19 + 80 * e)), some (.ref b), some (.int lim), some (.ref a), some (.int 0), some (.int (nI (k + 1)))] [] Q) : G X l uDec_decode (rn 3 73 4 22) bc bs M1 80 [some (.ref (19 + 80 * e)), some (.ref b), some (.int lim), some (.ref a), some (.int al), some (.int (nI k))] [] Q := by
  by_cases hn : s.2.1 = 0 ∧ ¬ s.1 = 1
  · unfold decF at hd
    rw [if_pos hn] at hd
    cases hd
    refine g_aload_n 80 dDec_decode_80 rfl ?_
    refine g_aload_n 81 dDec_decode_81 rfl ?_
    refine g_iload 82 dDec_decode_82 rfl ?_
    refine g_aload_n 84 dDec_decode_84 rfl ?_
    refine g_callV 85 [_, _, _] dDec_decode_85 cs_Dec_45 rfl (ci := 6) rfl (by decide) (hS.tDec he) rfl ⟨(Nat.le_of_ble_eq_true rfl), (Nat.le_of_ble_eq_true rfl)⟩ (Nat.le_of_ble_eq_true rfl) (ct_df_named hS he hB hK hx hF h6 hb hba hn.1 hn.2) (Nat.le_of_ble_eq_true rfl) (Nat.le_of_ble_eq_true rfl) ?_
    rintro _ M2 ⟨rfl, hB2, hF2, hC2⟩
    refine g_if_ne 88 93 dDec_decode_88 rfl (fun h88 => ?_) (fun h88 => ?_)
    · refine g_iconst 93 0 dDec_decode_93 rfl ?_
      refine g_istore 94 dDec_decode_94 (by decide) rfl ?_
      refine g_iincN 96 dDec_decode_96 rfl (by decide) rfl ?_
      refine g_goto 99 14 dDec_decode_99 rfl ?_
      exact hq M2 hB2 hF2 hC2
    · exact absurd h88 (by decide)
  · by_cases hi : hiT L s.2.1 = 0
    · unfold decF at hd
      rw [if_neg hn, if_pos hi] at hd
      cases hd
    · obtain ⟨i, h1, h2, hsi⟩ := hiT_of hi hB.2.1
      have hn5 := hB.2.1
      unfold decF at hd
      rw [if_neg hn, if_neg hi, hsi, nI_clamp (by omega)] at hd
      cases hd
      refine g_aload_n 80 dDec_decode_80 rfl ?_
      refine g_aload_n 81 dDec_decode_81 rfl ?_
      refine g_iload 82 dDec_decode_82 rfl ?_
      refine g_aload_n 84 dDec_decode_84 rfl ?_
      refine g_callV 85 [_, _, _] dDec_decode_85 cs_Dec_45 rfl (ci := 6) rfl (by decide) (hS.tDec he) rfl ⟨(Nat.le_of_ble_eq_true rfl), (Nat.le_of_ble_eq_true rfl)⟩ (Nat.le_of_ble_eq_true rfl) (ct_df_idx hS he hB hK hx hF h6 hb hba hX hsi h1 h2) (Nat.le_of_ble_eq_true rfl) (Nat.le_of_ble_eq_true rfl) ?_
      rintro _ M2 ⟨rfl, hB2, hF2, hC2⟩
      refine g_if_ne 88 93 dDec_decode_88 rfl (fun h88 => ?_) (fun h88 => ?_)
      · refine g_iconst 93 0 dDec_decode_93 rfl ?_
        refine g_istore 94 dDec_decode_94 (by decide) rfl ?_
        refine g_iincN 96 dDec_decode_96 rfl (by decide) rfl ?_
        refine g_goto 99 14 dDec_decode_99 rfl ?_
        exact hq M2 hB2 hF2 hC2
      · exact absurd h88 (by decide)
set_option maxRecDepth 100000 in
set_option maxHeartbeats 4000000 in
theorem g_dec {X : mX} {l : Launch} {e a d b c r : Nat} {lim due : Int32} {S0 : List zS} {bc bs : Nat} {Q : Option Value → mM → Prop} (hX : FX X) (he : e < 2) (hb : 223 ≤ b) (hba : c + 3 < a) : ∀ (S : List zS) (k : Nat) (al : Int32) (L : List (Int32 × Int32)) (mx : Int32) (acc : List (Int32 × Int32)) (M1 : mM), Shp M1 → TabG M1 (20 + 80 * e) L mx → BK M1 b c r S0 → S0.drop k = S → k ≤ S0.length → FK M1 a d acc → acc.length + nfld S ≤ 6 → mI M1 (19 + 80 * e) 1 = due → (∀ M', (decR lim due S k al L mx acc).1 = none → TabG M' (20 + 80 * e) (decR lim due S k al L mx acc).2.1 (decR lim due S k al L mx acc).2.2 → Chg M1 M' (PD e a d) no2 → Q (some .null) M') → (∀ M' ac, (decR lim due S k al L mx acc).1 = some ac → TabG M' (20 + 80 * e) (decR lim due S k al L mx acc).2.1 (decR lim due S k al L mx acc).2.2 → FK M' a d ac → Chg M1 M' (PD e a d) no2 → Q (some (.ref a)) (setI M' (19 + 80 * e) 1 0)) → G X l uDec_decode (rn 3 73 4 22) bc bs M1 14 [some (.ref (19 + 80 * e)), some (.ref b), some (.int lim), some (.ref a), some (.int al), some (.int (nI k))] [] Q
  | [], k, al, L, mx, acc, M1, hS, hB, hK, hR, hk, hF, hnf, hdu, hq0, hq1 => by
    have hr8 := hK.2.2.2.1
    have hle : S0.length ≤ k := List.drop_eq_nil_iff.mp hR
    refine g_iload 14 dDec_decode_14 rfl ?_
    refine g_aload_n 16 dDec_decode_16 rfl ?_
    refine g_geti 17 11 4 dDec_decode_17 fs_Dec_29 rfl hK.1 ?_
    refine g_top (nI (S0.length)) (hK.2.1) ?_
    refine g_icmp_geN 20 102 dDec_decode_20 rfl (by omega) (by omega) (fun h20 => ?_) (fun h20 => ?_)
    · refine g_aload_n 102 dDec_decode_102 rfl ?_
      refine g_iconst 103 0 dDec_decode_103 rfl ?_
      refine g_putz 104 6 1 dDec_decode_104 ps_Dec_18 rfl (by decide) (hS.tDec he) ?_
      refine g_aload_n 107 dDec_decode_107 rfl ?_
      exact g_aret 108 dDec_decode_108 rfl (Or.inl ⟨_, rfl⟩) (hq1 M1 acc rfl hB hF Chg.rf)
    · exact absurd hle h20
  | s :: S, k, al, L, mx, acc, M1, hS, hB, hK, hR, hk, hF, hnf, hdu, hq0, hq1 => by
    have hr8 := hK.2.2.2.1
    have hlt : k < S0.length := by
      apply Nat.lt_of_not_le
      intro q
      rw [List.drop_eq_nil_iff.mpr q] at hR
      cases hR
    have hx : S0[k]? = some s := by
      have := congrArg (fun z => z[0]?) hR
      simpa using this
    have had := hF.2.2.2.1.1
    refine g_iload 14 dDec_decode_14 rfl ?_
    refine g_aload_n 16 dDec_decode_16 rfl ?_
    refine g_geti 17 11 4 dDec_decode_17 fs_Dec_29 rfl hK.1 ?_
    refine g_top (nI (S0.length)) (hK.2.1) ?_
    refine g_icmp_geN 20 102 dDec_decode_20 rfl (by omega) (by omega) (fun h20 => ?_) (fun h20 => ?_)
    · exact absurd h20 (by omega)
    · refine g_aload_n 23 dDec_decode_23 rfl ?_
      refine g_getr 24 11 0 dDec_decode_24 fs_Dec_34 rfl hK.1 (hK.2.2.2.2.1 0 (by decide)).2 ?_
      refine g_iload 27 dDec_decode_27 rfl ?_
      refine g_ialdN 29 dDec_decode_29 (hK.2.2.2.2.1 0 (by decide)).1 (by omega) (by omega) ?_
      refine g_top (s.1) ((hK.2.2.2.2.2 k s hx).1) ?_
      refine g_if_ne 30 68 dDec_decode_30 rfl (fun h30 => ?_) (fun h30 => ?_)
      · have hnf1 : acc.length + (nfld S + 1) ≤ 6 := by unfold nfld at hnf; rw [if_neg h30] at hnf; exact hnf
        refine g_iload 68 dDec_decode_68 rfl ?_
        refine g_if_neN 70 80 dDec_decode_70 rfl (by omega) (fun h70 => ?_) (fun h70 => ?_)
        · rcases hd : decF L s with _ | x
          · have hz : decR lim due (s :: S) k al L mx acc = (none, L, mx) := by rw [decR, if_neg h30, if_neg (fun q => h70 q.1), hd]
            have hn : ¬ (s.2.1 = 0 ∧ ¬ s.1 = 1) := fun q => by unfold decF at hd; rw [if_pos q] at hd; cases hd
            have hi : hiT L s.2.1 = 0 := Decidable.byContradiction fun q => by unfold decF at hd; rw [if_neg hn, if_neg q] at hd; cases hd
            exact dec_no hS he hB hK hx hF (by omega) hb hba hn hi (hq0 M1 (by rw [hz]) (by rw [hz]; exact hB) Chg.rf)
          · have hz : decR lim due (s :: S) k al L mx acc = decR lim due S (k + 1) 0 (decL L mx s.1 x.1 x.2) mx (acc ++ [x]) := by rw [decR, if_neg h30, if_neg (fun q => h70 q.1), hd]
            rw [hz] at hq0 hq1
            refine dec_yes hX hS he hB hK hx hF (by omega) hb hba hd (fun M2 hB2 hF2 hC2 => ?_)
            have hS2 := hS.mv hC2 (fun _ _ q => q.elim)
            have hK2 := hK.mv3 hC2 (fun x j q => by unfold PD at q; have := hF.2.2.2.1.1; omega) (fun _ _ q => q.elim)
            have hdu2 := (hC2.2.2.1 (19 + 80 * e) 1 (by have := hS.1; omega) (by unfold PD; have := hF.2.2.2.1.1; omega)).trans hdu
            have hnf2 : (acc ++ [x]).length + nfld S ≤ 6 := by rw [List.length_append]; show acc.length + 1 + nfld S ≤ 6; omega
            exact g_dec hX he hb hba S (k + 1) 0 _ _ _ M2 hS2 hB2 hK2 (by rw [← List.drop_drop, hR]; rfl) (by omega) hF2 hnf2 hdu2 (fun M' h1 h2 h3 => hq0 M' h1 h2 (hC2.tr h3)) (fun M' ac h1 h2 h3 h4 => hq1 M' ac h1 h2 h3 (hC2.tr h4))
        · refine g_aload_n 73 dDec_decode_73 rfl ?_
          refine g_geti 74 6 1 dDec_decode_74 fs_Dec_18 rfl (hS.tDec he) ?_
          refine g_top (due) (hdu) ?_
          refine g_if_ne 77 91 dDec_decode_77 rfl (fun h77 => ?_) (fun h77 => ?_)
          · have hz : decR lim due (s :: S) k al L mx acc = (none, L, mx) := by rw [decR, if_neg h30, if_pos ⟨h70, h77⟩]
            refine g_null 91 dDec_decode_91 ?_
            exact g_aretN 92 dDec_decode_92 rfl (Or.inl ⟨_, rfl⟩) (hq0 M1 (by rw [hz]) (by rw [hz]; exact hB) Chg.rf)
          · rcases hd : decF L s with _ | x
            · have hz : decR lim due (s :: S) k al L mx acc = (none, L, mx) := by rw [decR, if_neg h30, if_neg (fun q => q.2 h77), hd]
              have hn : ¬ (s.2.1 = 0 ∧ ¬ s.1 = 1) := fun q => by unfold decF at hd; rw [if_pos q] at hd; cases hd
              have hi : hiT L s.2.1 = 0 := Decidable.byContradiction fun q => by unfold decF at hd; rw [if_neg hn, if_neg q] at hd; cases hd
              exact dec_no hS he hB hK hx hF (by omega) hb hba hn hi (hq0 M1 (by rw [hz]) (by rw [hz]; exact hB) Chg.rf)
            · have hz : decR lim due (s :: S) k al L mx acc = decR lim due S (k + 1) 0 (decL L mx s.1 x.1 x.2) mx (acc ++ [x]) := by rw [decR, if_neg h30, if_neg (fun q => q.2 h77), hd]
              rw [hz] at hq0 hq1
              refine dec_yes hX hS he hB hK hx hF (by omega) hb hba hd (fun M2 hB2 hF2 hC2 => ?_)
              have hS2 := hS.mv hC2 (fun _ _ q => q.elim)
              have hK2 := hK.mv3 hC2 (fun x j q => by unfold PD at q; have := hF.2.2.2.1.1; omega) (fun _ _ q => q.elim)
              have hdu2 := (hC2.2.2.1 (19 + 80 * e) 1 (by have := hS.1; omega) (by unfold PD; have := hF.2.2.2.1.1; omega)).trans hdu
              have hnf2 : (acc ++ [x]).length + nfld S ≤ 6 := by rw [List.length_append]; show acc.length + 1 + nfld S ≤ 6; omega
              exact g_dec hX he hb hba S (k + 1) 0 _ _ _ M2 hS2 hB2 hK2 (by rw [← List.drop_drop, hR]; rfl) (by omega) hF2 hnf2 hdu2 (fun M' h1 h2 h3 => hq0 M' h1 h2 (hC2.tr h3)) (fun M' ac h1 h2 h3 h4 => hq1 M' ac h1 h2 h3 (hC2.tr h4))
      · refine g_iload 33 dDec_decode_33 rfl ?_
        refine g_if_eq 35 49 dDec_decode_35 rfl (fun h35 => ?_) (fun h35 => ?_)
        · have hz : decR lim due (s :: S) k al L mx acc = (none, L, mx) := by unfold decR; rw [if_pos h30, if_pos h35]
          refine g_null 49 dDec_decode_49 ?_
          exact g_aretN 50 dDec_decode_50 rfl (Or.inl ⟨_, rfl⟩) (hq0 M1 (by rw [hz]) (by rw [hz]; exact hB) Chg.rf)
        · refine g_aload_n 38 dDec_decode_38 rfl ?_
          refine g_getr 39 11 1 dDec_decode_39 fs_Dec_38 rfl hK.1 (hK.2.2.2.2.1 1 (by decide)).2 ?_
          refine g_iload 42 dDec_decode_42 rfl ?_
          refine g_ialdN 44 dDec_decode_44 (hK.2.2.2.2.1 1 (by decide)).1 (by omega) (by omega) ?_
          refine g_top (s.2.1) ((hK.2.2.2.2.2 k s hx).2.1) ?_
          refine g_iload_n 45 dDec_decode_45 rfl ?_
          refine g_icmp_le 46 51 dDec_decode_46 rfl (fun h46 => ?_) (fun h46 => ?_)
          · have hz : decR lim due (s :: S) k al L mx acc = decR lim due S (k + 1) al (dropT s.2.1 L) s.2.1 acc := by rw [decR, if_pos h30, if_neg h35, if_pos h46]
            refine g_aload_n 51 dDec_decode_51 rfl ?_
            refine g_getr 52 6 0 dDec_decode_52 fs_Dec_12 rfl (hS.tDec he) (hS.rDec0 he) ?_
            refine g_aload_n 55 dDec_decode_55 rfl ?_
            refine g_getr 56 11 1 dDec_decode_56 fs_Dec_38 rfl hK.1 (hK.2.2.2.2.1 1 (by decide)).2 ?_
            refine g_iload 59 dDec_decode_59 rfl ?_
            refine g_ialdN 61 dDec_decode_61 (hK.2.2.2.2.1 1 (by decide)).1 (by omega) (by omega) ?_
            refine g_top (s.2.1) ((hK.2.2.2.2.2 k s hx).2.1) ?_
            refine g_callV 62 [_] dDec_decode_62 cs_Dec_41 rfl (ci := 5) rfl (by decide) (hS.tTabD he) rfl ⟨(Nat.le_of_ble_eq_true rfl), (Nat.le_of_ble_eq_true rfl)⟩ (Nat.le_of_ble_eq_true rfl) (ct_T_max (hS.tg1 he) hB) (Nat.le_of_ble_eq_true rfl) (Nat.le_of_ble_eq_true rfl) ?_
            rintro _ M2 ⟨rfl, hB2, hc2⟩
            have hS2 := hS.mv hc2 (fun _ _ q => q.elim)
            have hK2 := hK.mv hc2 (fun x j q => by omega) (fun _ _ q => q.elim)
            have hF2 := hF.mv hc2 (fun x j q => by omega) (fun _ _ q => q.elim)
            have hC2 : Chg M1 M2 (PD e a d) no2 := hc2.mono (fun x j q => Or.inl ⟨q.1, by omega⟩) fun _ _ q => q
            have hdu2 := (hc2.2.2.1 (19 + 80 * e) 1 (by have := hS.1; omega) (by omega)).trans hdu
            have hnf2 : acc.length + nfld S ≤ 6 := by unfold nfld at hnf; rw [if_pos h30] at hnf; exact hnf
            rw [hz] at hq0 hq1
            refine g_goto 65 96 dDec_decode_65 rfl ?_
            refine g_iincN 96 dDec_decode_96 rfl (by decide) rfl ?_
            refine g_goto 99 14 dDec_decode_99 rfl ?_
            exact g_dec hX he hb hba S (k + 1) al _ _ _ M2 hS2 hB2 hK2 (by rw [← List.drop_drop, hR]; rfl) (by omega) hF2 hnf2 hdu2 (fun M' h1 h2 h3 => hq0 M' h1 h2 (hC2.tr h3)) (fun M' ac h1 h2 h3 h4 => hq1 M' ac h1 h2 h3 (hC2.tr h4))
          · have hz : decR lim due (s :: S) k al L mx acc = (none, L, mx) := by unfold decR; rw [if_pos h30, if_neg h35, if_neg h46]
            refine g_null 49 dDec_decode_49 ?_
            exact g_aretN 50 dDec_decode_50 rfl (Or.inl ⟨_, rfl⟩) (hq0 M1 (by rw [hz]) (by rw [hz]; exact hB) Chg.rf)
def PN (e : Nat) (a j : Nat) : Prop := (20 + 80 * e ≤ a ∧ a ≤ 23 + 80 * e) ∨ (a = 19 + 80 * e ∧ j = 1)
theorem rc_dec {M M' : mM} {A : zA} {e : Nat} {L : List (Int32 × Int32)} {mx v : Int32} (h : RC M A) (he : e < 2) (c : Chg M M' (PN e) no2) (hB : TabG M' (20 + 80 * e) L mx) (hv : mI M' (19 + 80 * e) 1 = v) : RC M' (yI (yB A e 1 (L, mx)) (19 + 80 * e) 1 v) := by
  obtain ⟨h0, h1, h2, h3, h4, h5, h6, h7, h8, h9⟩ := h
  have hN := h0.1
  refine ⟨h0.mv c fun a k q => q.elim, fun b i hb => ?_, fun d hd => (h2 d hd).mv c hN hd fun b i q => ?_, fun d hd => (h3 d hd).mv c hN hd (fun b i q => ?_) fun b i q => q.elim, fun d g hd hg => (h4 d g hd hg).mv c (by omega) (by omega) (fun q => ?_) fun i q => ?_, fun d g hd hg => (h5 d g hd hg).mv c (by omega) (by omega) (fun q => ?_) fun i q => ?_, fun d g hd hg => (h6 d g hd hg).mv c hN hd hg (fun b i q => ?_) fun b i q => q.elim, fun d i hd hi => ?_, fun d hd => (h8 d hd).mv c hN hd fun b i q => ?_, fun d hd => (h9 d hd).mv c hN hd fun b i q => ?_⟩
  · show mI M' b i = up2 (zI A) (19 + 80 * e) 1 v b i
    by_cases q : b = 19 + 80 * e ∧ i = 1
    · obtain ⟨rfl, rfl⟩ := q
      rw [up2_same]
      exact hv
    · rw [up2_ne q, c.2.2.1 b i (by have := hb.2.1; omega) fun q2 => by unfold sc at hb; unfold PN at q2; omega]
      exact h1 b i hb
  iterate 7 (unfold PN at q; omega)
  · show TabC M' d i (up2 (zB A) e 1 (L, mx) d i).1 (up2 (zB A) e 1 (L, mx) d i).2
    by_cases q : d = e ∧ i = 1
    · obtain ⟨rfl, rfl⟩ := q
      rw [up2_same]
      refine TabC.g.mpr ?_
      rw [show 15 + 80 * d + 5 * 1 = 20 + 80 * d by omega]
      exact hB
    · rw [up2_ne q]
      exact (h7 d i hd hi).mv c hN hd hi fun b j q => by unfold PN at q; omega
  iterate 2 (unfold PN at q; omega)
/-- the decoder's work at end e: the list or none, and the state behind it -/
def decA (A : zA) (e : Nat) (lim : Int32) (S : List zS) : Option (List (Int32 × Int32)) × zA := match (decR lim (zI A (19 + 80 * e) 1) S 0 1 (zB A e 1).1 (zB A e 1).2 []).1 with
  | none => (none, yI (yB A e 1 ((decR lim (zI A (19 + 80 * e) 1) S 0 1 (zB A e 1).1 (zB A e 1).2 []).2.1, (decR lim (zI A (19 + 80 * e) 1) S 0 1 (zB A e 1).1 (zB A e 1).2 []).2.2)) (19 + 80 * e) 1 (zI A (19 + 80 * e) 1))
  | some ac => (some ac, yI (yB A e 1 ((decR lim (zI A (19 + 80 * e) 1) S 0 1 (zB A e 1).1 (zB A e 1).2 []).2.1, (decR lim (zI A (19 + 80 * e) 1) S 0 1 (zB A e 1).1 (zB A e 1).2 []).2.2)) (19 + 80 * e) 1 0)
theorem dec_pn {M M1 M2 : mM} {e : Nat} (hN : 223 ≤ mN M) (h : Chg M M1 no2 no2) (g : Chg M1 M2 (PD e (mN M) (mN M + 1)) no2) : Chg M M2 (PN e) no2 := (h.mono (PI' := PN e) (PR' := no2) (fun _ _ q => q.elim) fun _ _ q => q).tr2 g (fun a j q => by unfold PD at q; unfold PN; omega) fun _ _ q => q.elim
theorem pn_cp {M M1 : mM} {e : Nat} (he : e < 2) (h : Chg M M1 (PN e) no2) : Chg M M1 cP cP := h.mono (fun a j q => by unfold PN at q; show a < 169; omega) fun _ _ q => q.elim
set_option maxRecDepth 100000 in
set_option maxHeartbeats 4000000 in
theorem ct_decR {X : mX} {l : Launch} {M : mM} {A : zA} {e : Nat} (hR : RC M A) (he : e < 2) {b : Nat} {S : List zS} {lim : Int32} (hX : FX X) (hbk : BlkC 223 M b S) (hnf : nfld S ≤ 6) : Ct X l uDec_decode (rn 3 73 4 22) [.ref (19 + 80 * e), .ref b, .int lim] M (fun r M' => RC M' (decA A e lim S).2 ∧ Chg M M' cP cP ∧ ((decA A e lim S).1 = none → r = some .null) ∧ ∀ L, (decA A e lim S).1 = some L → ∃ a, r = some (.ref a) ∧ FlC 223 M' a L) := by
  refine Ct.of (by decide) (Nat.le_of_ble_eq_true rfl) ?_
  show G X l uDec_decode (rn 3 73 4 22) 4 22 M 0 [some (.ref (19 + 80 * e)), some (.ref b), some (.int lim), none, none, none] [] _
  obtain ⟨r0, c, hb, hK⟩ := hbk.bk
  refine g_new 0 3 4 dDec_decode_0 ns_Dec_26 (Nat.le_of_ble_eq_true rfl) (Nat.le_of_ble_eq_true rfl) ?_
  refine g_dup 3 dDec_decode_3 rfl ?_
  refine g_callI 4 [] dDec_decode_4 cs_Dec_28 rfl rfl ⟨(Nat.le_of_ble_eq_true rfl), (Nat.le_of_ble_eq_true rfl)⟩ (Nat.le_of_ble_eq_true rfl) (ct_FL_init nT) (Nat.le_of_ble_eq_true rfl) (Nat.le_of_ble_eq_true rfl) ?_
  rintro _ _ ⟨rfl, rfl⟩
  obtain ⟨hF, hc0⟩ := FK.new (M := M)
  generalize mkFL (newM M 3 4) (mN M) = M1 at *
  have hR1 := hR.grow hc0
  have hB := hR1.tg1 he
  refine g_astore_n 7 dDec_decode_7 (by decide) rfl ?_
  refine g_iconst 8 1 dDec_decode_8 rfl ?_
  refine g_istore 9 dDec_decode_9 (by decide) rfl ?_
  refine g_iconst 11 (nI 0) dDec_decode_11 rfl ?_
  refine g_istore 12 dDec_decode_12 (by decide) rfl ?_
  refine g_dec hX he hb (show c + 3 < mN M from hK.2.2.2.1.2.1) S 0 1 _ _ [] M1 hR1.1 hB (hK.mv hc0 (fun _ _ q => q.elim) fun _ _ q => q.elim) rfl (Nat.zero_le _) hF (by rw [List.length_nil, Nat.zero_add]; exact hnf) (hR1.sI (sc_D he)) (fun M2 h1 h2 h3 => ?_) (fun M2 ac h1 h2 h3 h4 => ?_)
  · have hp := dec_pn hR.1.1 hc0 h3
    unfold decA
    rw [h1]
    exact ⟨rc_dec hR he hp h2 ((h3.2.2.1 _ _ (by have := hR1.1.1; omega) (by unfold PD; have := hR.1.1; omega)).trans (hR1.sI (sc_D he))), pn_cp he hp, fun _ => rfl, fun L q => by cases q⟩
  · have hp := dec_pn hR.1.1 hc0 h4
    have hp2 := hp.setI (a := 19 + 80 * e) (k := 1) (v := 0) (Or.inl (Or.inr ⟨rfl, rfl⟩))
    unfold decA
    rw [h1]
    refine ⟨rc_dec hR he hp2 ⟨(up2_a (by omega)).trans h2.1, h2.2.1, (up2_a (by omega)).trans h2.2.2.1, (up2_a (by omega)).trans h2.2.2.2.1, fun j x hj => ⟨(up2_a (by omega)).trans (h2.2.2.2.2 j x hj).1, (up2_a (by omega)).trans (h2.2.2.2.2 j x hj).2.1, (up2_a (by omega)).trans (h2.2.2.2.2 j x hj).2.2⟩⟩ up2_same, pn_cp he hp2, fun q => (by cases q), fun L q => ?_⟩
    cases q
    have hb2 : 223 ≤ mN M := hR.1.1
    exact ⟨_, rfl, (h3.mv (Chg.rf.setI (PI := fun a _ => a < 169) (PR := no2) (Or.inl (by omega))) (fun x j q => by omega) fun _ _ q => q.elim).fl hb2⟩

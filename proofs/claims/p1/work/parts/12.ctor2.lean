theorem dEnc_init_0 : decode uEnc_init.2.1 0 = .ok (.aload_n 0, 1) := by decide +kernel
theorem dEnc_init_1 : decode uEnc_init.2.1 1 = .ok (.invokespecial 3, 3) := by decide +kernel
theorem dEnc_init_4 : decode uEnc_init.2.1 4 = .ok (.aload_n 0, 1) := by decide +kernel
theorem dEnc_init_5 : decode uEnc_init.2.1 5 = .ok (.new 9, 3) := by decide +kernel
theorem dEnc_init_8 : decode uEnc_init.2.1 8 = .ok (.dup, 1) := by decide +kernel
theorem dEnc_init_9 : decode uEnc_init.2.1 9 = .ok (.invokespecial 11, 3) := by decide +kernel
theorem dEnc_init_12 : decode uEnc_init.2.1 12 = .ok (.putfield 12, 3) := by decide +kernel
theorem dEnc_init_15 : decode uEnc_init.2.1 15 = .ok (.aload_n 0, 1) := by decide +kernel
theorem dEnc_init_16 : decode uEnc_init.2.1 16 = .ok (.iconst 0, 1) := by decide +kernel
theorem dEnc_init_17 : decode uEnc_init.2.1 17 = .ok (.putfield 18, 3) := by decide +kernel
theorem dEnc_init_20 : decode uEnc_init.2.1 20 = .ok (.aload_n 0, 1) := by decide +kernel
theorem dEnc_init_21 : decode uEnc_init.2.1 21 = .ok (.iconst 0, 1) := by decide +kernel
theorem dEnc_init_22 : decode uEnc_init.2.1 22 = .ok (.putfield 22, 3) := by decide +kernel
theorem dEnc_init_25 : decode uEnc_init.2.1 25 = .ok (.aload_n 0, 1) := by decide +kernel
theorem dEnc_init_26 : decode uEnc_init.2.1 26 = .ok (.iconst 0, 1) := by decide +kernel
theorem dEnc_init_27 : decode uEnc_init.2.1 27 = .ok (.putfield 26, 3) := by decide +kernel
theorem dEnc_init_30 : decode uEnc_init.2.1 30 = .ok (.return_, 1) := by decide +kernel
theorem dDec_init_0 : decode uDec_init.2.1 0 = .ok (.aload_n 0, 1) := by decide +kernel
theorem dDec_init_1 : decode uDec_init.2.1 1 = .ok (.invokespecial 3, 3) := by decide +kernel
theorem dDec_init_4 : decode uDec_init.2.1 4 = .ok (.aload_n 0, 1) := by decide +kernel
theorem dDec_init_5 : decode uDec_init.2.1 5 = .ok (.new 9, 3) := by decide +kernel
theorem dDec_init_8 : decode uDec_init.2.1 8 = .ok (.dup, 1) := by decide +kernel
theorem dDec_init_9 : decode uDec_init.2.1 9 = .ok (.invokespecial 11, 3) := by decide +kernel
theorem dDec_init_12 : decode uDec_init.2.1 12 = .ok (.putfield 12, 3) := by decide +kernel
theorem dDec_init_15 : decode uDec_init.2.1 15 = .ok (.aload_n 0, 1) := by decide +kernel
theorem dDec_init_16 : decode uDec_init.2.1 16 = .ok (.iconst 0, 1) := by decide +kernel
theorem dDec_init_17 : decode uDec_init.2.1 17 = .ok (.putfield 18, 3) := by decide +kernel
theorem dDec_init_20 : decode uDec_init.2.1 20 = .ok (.return_, 1) := by decide +kernel
theorem dStream_init_0 : decode uStream_init.2.1 0 = .ok (.aload_n 0, 1) := by decide +kernel
theorem dStream_init_1 : decode uStream_init.2.1 1 = .ok (.invokespecial 3, 3) := by decide +kernel
theorem dStream_init_4 : decode uStream_init.2.1 4 = .ok (.aload_n 0, 1) := by decide +kernel
theorem dStream_init_5 : decode uStream_init.2.1 5 = .ok (.iconst 0, 1) := by decide +kernel
theorem dStream_init_6 : decode uStream_init.2.1 6 = .ok (.putfield 9, 3) := by decide +kernel
theorem dStream_init_9 : decode uStream_init.2.1 9 = .ok (.aload_n 0, 1) := by decide +kernel
theorem dStream_init_10 : decode uStream_init.2.1 10 = .ok (.iconst 0, 1) := by decide +kernel
theorem dStream_init_11 : decode uStream_init.2.1 11 = .ok (.putfield 15, 3) := by decide +kernel
theorem dStream_init_14 : decode uStream_init.2.1 14 = .ok (.aload_n 0, 1) := by decide +kernel
theorem dStream_init_15 : decode uStream_init.2.1 15 = .ok (.iconst 0, 1) := by decide +kernel
theorem dStream_init_16 : decode uStream_init.2.1 16 = .ok (.putfield 19, 3) := by decide +kernel
theorem dStream_init_19 : decode uStream_init.2.1 19 = .ok (.aload_n 0, 1) := by decide +kernel
theorem dStream_init_20 : decode uStream_init.2.1 20 = .ok (.iconst 0, 1) := by decide +kernel
theorem dStream_init_21 : decode uStream_init.2.1 21 = .ok (.putfield 22, 3) := by decide +kernel
theorem dStream_init_24 : decode uStream_init.2.1 24 = .ok (.aload_n 0, 1) := by decide +kernel
theorem dStream_init_25 : decode uStream_init.2.1 25 = .ok (.iconst 0, 1) := by decide +kernel
theorem dStream_init_26 : decode uStream_init.2.1 26 = .ok (.putfield 25, 3) := by decide +kernel
theorem dStream_init_29 : decode uStream_init.2.1 29 = .ok (.aload_n 0, 1) := by decide +kernel
theorem dStream_init_30 : decode uStream_init.2.1 30 = .ok (.iconst 0, 1) := by decide +kernel
theorem dStream_init_31 : decode uStream_init.2.1 31 = .ok (.putfield 28, 3) := by decide +kernel
theorem dStream_init_34 : decode uStream_init.2.1 34 = .ok (.aload_n 0, 1) := by decide +kernel
theorem dStream_init_35 : decode uStream_init.2.1 35 = .ok (.aconst_null, 1) := by decide +kernel
theorem dStream_init_36 : decode uStream_init.2.1 36 = .ok (.putfield 31, 3) := by decide +kernel
theorem dStream_init_39 : decode uStream_init.2.1 39 = .ok (.aload_n 0, 1) := by decide +kernel
theorem dStream_init_40 : decode uStream_init.2.1 40 = .ok (.new 35, 3) := by decide +kernel
theorem dStream_init_43 : decode uStream_init.2.1 43 = .ok (.dup, 1) := by decide +kernel
theorem dStream_init_44 : decode uStream_init.2.1 44 = .ok (.bipush 32, 2) := by decide +kernel
theorem dStream_init_46 : decode uStream_init.2.1 46 = .ok (.invokespecial 37, 3) := by decide +kernel
theorem dStream_init_49 : decode uStream_init.2.1 49 = .ok (.putfield 40, 3) := by decide +kernel
theorem dStream_init_52 : decode uStream_init.2.1 52 = .ok (.aload_n 0, 1) := by decide +kernel
theorem dStream_init_53 : decode uStream_init.2.1 53 = .ok (.new 35, 3) := by decide +kernel
theorem dStream_init_56 : decode uStream_init.2.1 56 = .ok (.dup, 1) := by decide +kernel
theorem dStream_init_57 : decode uStream_init.2.1 57 = .ok (.bipush 40, 2) := by decide +kernel
theorem dStream_init_59 : decode uStream_init.2.1 59 = .ok (.invokespecial 37, 3) := by decide +kernel
theorem dStream_init_62 : decode uStream_init.2.1 62 = .ok (.putfield 44, 3) := by decide +kernel
theorem dStream_init_65 : decode uStream_init.2.1 65 = .ok (.aload_n 0, 1) := by decide +kernel
theorem dStream_init_66 : decode uStream_init.2.1 66 = .ok (.iload_n 1, 1) := by decide +kernel
theorem dStream_init_67 : decode uStream_init.2.1 67 = .ok (.putfield 47, 3) := by decide +kernel
theorem dStream_init_70 : decode uStream_init.2.1 70 = .ok (.return_, 1) := by decide +kernel
theorem dEnd_init_0 : decode uEnd_init.2.1 0 = .ok (.aload_n 0, 1) := by decide +kernel
theorem dEnd_init_1 : decode uEnd_init.2.1 1 = .ok (.invokespecial 3, 3) := by decide +kernel
theorem dEnd_init_4 : decode uEnd_init.2.1 4 = .ok (.aload_n 0, 1) := by decide +kernel
theorem dEnd_init_5 : decode uEnd_init.2.1 5 = .ok (.iconst 0, 1) := by decide +kernel
theorem dEnd_init_6 : decode uEnd_init.2.1 6 = .ok (.putfield 9, 3) := by decide +kernel
theorem dEnd_init_9 : decode uEnd_init.2.1 9 = .ok (.aload_n 0, 1) := by decide +kernel
theorem dEnd_init_10 : decode uEnd_init.2.1 10 = .ok (.bipush 40, 2) := by decide +kernel
theorem dEnd_init_12 : decode uEnd_init.2.1 12 = .ok (.putfield 15, 3) := by decide +kernel
theorem dEnd_init_15 : decode uEnd_init.2.1 15 = .ok (.aload_n 0, 1) := by decide +kernel
theorem dEnd_init_16 : decode uEnd_init.2.1 16 = .ok (.bipush 40, 2) := by decide +kernel
theorem dEnd_init_18 : decode uEnd_init.2.1 18 = .ok (.putfield 18, 3) := by decide +kernel
theorem dEnd_init_21 : decode uEnd_init.2.1 21 = .ok (.aload_n 0, 1) := by decide +kernel
theorem dEnd_init_22 : decode uEnd_init.2.1 22 = .ok (.new 21, 3) := by decide +kernel
theorem dEnd_init_25 : decode uEnd_init.2.1 25 = .ok (.dup, 1) := by decide +kernel
theorem dEnd_init_26 : decode uEnd_init.2.1 26 = .ok (.invokespecial 23, 3) := by decide +kernel
theorem dEnd_init_29 : decode uEnd_init.2.1 29 = .ok (.putfield 24, 3) := by decide +kernel
theorem dEnd_init_32 : decode uEnd_init.2.1 32 = .ok (.aload_n 0, 1) := by decide +kernel
theorem dEnd_init_33 : decode uEnd_init.2.1 33 = .ok (.new 28, 3) := by decide +kernel
theorem dEnd_init_36 : decode uEnd_init.2.1 36 = .ok (.dup, 1) := by decide +kernel
theorem dEnd_init_37 : decode uEnd_init.2.1 37 = .ok (.invokespecial 30, 3) := by decide +kernel
theorem dEnd_init_40 : decode uEnd_init.2.1 40 = .ok (.putfield 31, 3) := by decide +kernel
theorem dEnd_init_43 : decode uEnd_init.2.1 43 = .ok (.aload_n 0, 1) := by decide +kernel
theorem dEnd_init_44 : decode uEnd_init.2.1 44 = .ok (.new 35, 3) := by decide +kernel
theorem dEnd_init_47 : decode uEnd_init.2.1 47 = .ok (.dup, 1) := by decide +kernel
theorem dEnd_init_48 : decode uEnd_init.2.1 48 = .ok (.invokespecial 37, 3) := by decide +kernel
theorem dEnd_init_51 : decode uEnd_init.2.1 51 = .ok (.putfield 38, 3) := by decide +kernel
theorem dEnd_init_54 : decode uEnd_init.2.1 54 = .ok (.aload_n 0, 1) := by decide +kernel
theorem dEnd_init_55 : decode uEnd_init.2.1 55 = .ok (.bipush 12, 2) := by decide +kernel
theorem dEnd_init_57 : decode uEnd_init.2.1 57 = .ok (.anewarray 42, 3) := by decide +kernel
theorem dEnd_init_60 : decode uEnd_init.2.1 60 = .ok (.putfield 44, 3) := by decide +kernel
theorem dEnd_init_63 : decode uEnd_init.2.1 63 = .ok (.aload_n 0, 1) := by decide +kernel
theorem dEnd_init_64 : decode uEnd_init.2.1 64 = .ok (.new 48, 3) := by decide +kernel
theorem dEnd_init_67 : decode uEnd_init.2.1 67 = .ok (.dup, 1) := by decide +kernel
theorem dEnd_init_68 : decode uEnd_init.2.1 68 = .ok (.invokespecial 50, 3) := by decide +kernel
theorem dEnd_init_71 : decode uEnd_init.2.1 71 = .ok (.putfield 51, 3) := by decide +kernel
theorem dEnd_init_74 : decode uEnd_init.2.1 74 = .ok (.aload_n 0, 1) := by decide +kernel
theorem dEnd_init_75 : decode uEnd_init.2.1 75 = .ok (.new 48, 3) := by decide +kernel
theorem dEnd_init_78 : decode uEnd_init.2.1 78 = .ok (.dup, 1) := by decide +kernel
theorem dEnd_init_79 : decode uEnd_init.2.1 79 = .ok (.invokespecial 50, 3) := by decide +kernel
theorem dEnd_init_82 : decode uEnd_init.2.1 82 = .ok (.putfield 55, 3) := by decide +kernel
theorem dEnd_init_85 : decode uEnd_init.2.1 85 = .ok (.aload_n 0, 1) := by decide +kernel
theorem dEnd_init_86 : decode uEnd_init.2.1 86 = .ok (.bipush 8, 2) := by decide +kernel
theorem dEnd_init_88 : decode uEnd_init.2.1 88 = .ok (.newarray .int, 2) := by decide +kernel
theorem dEnd_init_90 : decode uEnd_init.2.1 90 = .ok (.putfield 58, 3) := by decide +kernel
theorem dEnd_init_93 : decode uEnd_init.2.1 93 = .ok (.aload_n 0, 1) := by decide +kernel
theorem dEnd_init_94 : decode uEnd_init.2.1 94 = .ok (.bipush 8, 2) := by decide +kernel
theorem dEnd_init_96 : decode uEnd_init.2.1 96 = .ok (.newarray .int, 2) := by decide +kernel
theorem dEnd_init_98 : decode uEnd_init.2.1 98 = .ok (.putfield 62, 3) := by decide +kernel
theorem dEnd_init_101 : decode uEnd_init.2.1 101 = .ok (.aload_n 0, 1) := by decide +kernel
theorem dEnd_init_102 : decode uEnd_init.2.1 102 = .ok (.iconst 0, 1) := by decide +kernel
theorem dEnd_init_103 : decode uEnd_init.2.1 103 = .ok (.putfield 65, 3) := by decide +kernel
theorem dEnd_init_106 : decode uEnd_init.2.1 106 = .ok (.aload_n 0, 1) := by decide +kernel
theorem dEnd_init_107 : decode uEnd_init.2.1 107 = .ok (.iconst 1, 1) := by decide +kernel
theorem dEnd_init_108 : decode uEnd_init.2.1 108 = .ok (.putfield 68, 3) := by decide +kernel
theorem dEnd_init_111 : decode uEnd_init.2.1 111 = .ok (.aload_n 0, 1) := by decide +kernel
theorem dEnd_init_112 : decode uEnd_init.2.1 112 = .ok (.iconst (-1), 1) := by decide +kernel
theorem dEnd_init_113 : decode uEnd_init.2.1 113 = .ok (.putfield 71, 3) := by decide +kernel
theorem dEnd_init_116 : decode uEnd_init.2.1 116 = .ok (.aload_n 0, 1) := by decide +kernel
theorem dEnd_init_117 : decode uEnd_init.2.1 117 = .ok (.iload_n 1, 1) := by decide +kernel
theorem dEnd_init_118 : decode uEnd_init.2.1 118 = .ok (.putfield 74, 3) := by decide +kernel
theorem dEnd_init_121 : decode uEnd_init.2.1 121 = .ok (.aload_n 0, 1) := by decide +kernel
theorem dEnd_init_122 : decode uEnd_init.2.1 122 = .ok (.aload_n 2, 1) := by decide +kernel
theorem dEnd_init_123 : decode uEnd_init.2.1 123 = .ok (.putfield 78, 3) := by decide +kernel
theorem dEnd_init_126 : decode uEnd_init.2.1 126 = .ok (.aload_n 0, 1) := by decide +kernel
theorem dEnd_init_127 : decode uEnd_init.2.1 127 = .ok (.aload_n 3, 1) := by decide +kernel
theorem dEnd_init_128 : decode uEnd_init.2.1 128 = .ok (.putfield 82, 3) := by decide +kernel
theorem dEnd_init_131 : decode uEnd_init.2.1 131 = .ok (.iconst 0, 1) := by decide +kernel
theorem dEnd_init_132 : decode uEnd_init.2.1 132 = .ok (.istore 4, 2) := by decide +kernel
theorem dEnd_init_134 : decode uEnd_init.2.1 134 = .ok (.iload 4, 2) := by decide +kernel
theorem dEnd_init_136 : decode uEnd_init.2.1 136 = .ok (.bipush 12, 2) := by decide +kernel
theorem dEnd_init_138 : decode uEnd_init.2.1 138 = .ok (.if_icmp .ge 29, 3) := by decide +kernel
theorem dEnd_init_141 : decode uEnd_init.2.1 141 = .ok (.aload_n 0, 1) := by decide +kernel
theorem dEnd_init_142 : decode uEnd_init.2.1 142 = .ok (.getfield 44, 3) := by decide +kernel
theorem dEnd_init_145 : decode uEnd_init.2.1 145 = .ok (.iload 4, 2) := by decide +kernel
theorem dEnd_init_147 : decode uEnd_init.2.1 147 = .ok (.new 42, 3) := by decide +kernel
theorem dEnd_init_150 : decode uEnd_init.2.1 150 = .ok (.dup, 1) := by decide +kernel
theorem dEnd_init_151 : decode uEnd_init.2.1 151 = .ok (.iconst 2, 1) := by decide +kernel
theorem dEnd_init_152 : decode uEnd_init.2.1 152 = .ok (.iload 4, 2) := by decide +kernel
theorem dEnd_init_154 : decode uEnd_init.2.1 154 = .ok (.imul, 1) := by decide +kernel
theorem dEnd_init_155 : decode uEnd_init.2.1 155 = .ok (.iconst 1, 1) := by decide +kernel
theorem dEnd_init_156 : decode uEnd_init.2.1 156 = .ok (.iadd, 1) := by decide +kernel
theorem dEnd_init_157 : decode uEnd_init.2.1 157 = .ok (.invokespecial 85, 3) := by decide +kernel
theorem dEnd_init_160 : decode uEnd_init.2.1 160 = .ok (.aastore, 1) := by decide +kernel
theorem dEnd_init_161 : decode uEnd_init.2.1 161 = .ok (.iinc 4 1, 3) := by decide +kernel
theorem dEnd_init_164 : decode uEnd_init.2.1 164 = .ok (.goto (-30), 3) := by decide +kernel
theorem dEnd_init_167 : decode uEnd_init.2.1 167 = .ok (.return_, 1) := by decide +kernel
theorem oi_Enc_3 : Cond.methodLink "InterleavedLink$Encoder" 3 Lib.objectInit ∈ gW := gW_in 148 (by decide +kernel) rfl
theorem ns_Enc_9 : nS "InterleavedLink$Encoder" 9 5 6 := ⟨"InterleavedLink$Table", T_Table, cf_Table, (gW_in 149 (by decide +kernel) rfl), (gW_in 150 (by decide +kernel) rfl), (gW_in 69 (by decide +kernel) rfl)⟩
theorem cs_Enc_11 : cI "InterleavedLink$Encoder" 11 uTable_init 0 := ⟨⟨Or.inr ⟨"InterleavedLink", (gN_in 151 (by decide +kernel) rfl)⟩, (gW_in 69 (by decide +kernel) rfl), (gW_in 153 (by decide +kernel) rfl), ⟨by decide, by decide⟩, by decide +kernel⟩, (gW_in 152 (by decide +kernel) rfl), rfl, rfl⟩
theorem cfw_Enc : ∀ k, k < 4 → u_lay "InterleavedLink$Encoder" T_Enc k ∈ gW
  | 0, _ => gW_in 184 (by decide +kernel) rfl
  | 1, _ => gW_in 186 (by decide +kernel) rfl
  | 2, _ => gW_in 188 (by decide +kernel) rfl
  | 3, _ => gW_in 190 (by decide +kernel) rfl
  | (_ + 4), h => absurd h (by omega)
theorem cf_Enc : cF 4 "InterleavedLink$Encoder" T_Enc 4 := ⟨by decide, rfl, fun w hw => by
  obtain ⟨k, hk, rfl⟩ := List.mem_map.mp hw
  exact cfw_Enc k (List.mem_range.mp hk), by decide +kernel, ty_Enc, by decide +kernel⟩
theorem ps_Enc_12 : pS "InterleavedLink$Encoder" "<init>" 12 4 0 (.object "InterleavedLink$Table") := ⟨"InterleavedLink$Encoder", T_Enc, 4, cf_Enc, by decide, by decide +kernel, Or.inr ⟨rfl, rfl, rfl, (gW_in 179 (by decide +kernel) rfl)⟩⟩
theorem ps_Enc_18 {nm : String} : pS "InterleavedLink$Encoder" nm 18 4 1 .boolean := ⟨"InterleavedLink$Encoder", T_Enc, 4, cf_Enc, by decide, by decide +kernel, Or.inl ⟨rfl, Or.inl (gW_in 181 (by decide +kernel) rfl)⟩⟩
theorem ps_Enc_22 {nm : String} : pS "InterleavedLink$Encoder" nm 22 4 2 .int := ⟨"InterleavedLink$Encoder", T_Enc, 4, cf_Enc, by decide, by decide +kernel, Or.inl ⟨rfl, Or.inl (gW_in 182 (by decide +kernel) rfl)⟩⟩
theorem ps_Enc_26 {nm : String} : pS "InterleavedLink$Encoder" nm 26 4 3 .int := ⟨"InterleavedLink$Encoder", T_Enc, 4, cf_Enc, by decide, by decide +kernel, Or.inl ⟨rfl, Or.inl (gW_in 183 (by decide +kernel) rfl)⟩⟩
theorem oi_Dec_3 : Cond.methodLink "InterleavedLink$Decoder" 3 Lib.objectInit ∈ gW := gW_in 198 (by decide +kernel) rfl
theorem ns_Dec_9 : nS "InterleavedLink$Decoder" 9 5 6 := ⟨"InterleavedLink$Table", T_Table, cf_Table, (gW_in 199 (by decide +kernel) rfl), (gW_in 150 (by decide +kernel) rfl), (gW_in 69 (by decide +kernel) rfl)⟩
theorem cs_Dec_11 : cI "InterleavedLink$Decoder" 11 uTable_init 0 := ⟨⟨Or.inr ⟨"InterleavedLink", (gN_in 200 (by decide +kernel) rfl)⟩, (gW_in 69 (by decide +kernel) rfl), (gW_in 153 (by decide +kernel) rfl), ⟨by decide, by decide⟩, by decide +kernel⟩, (gW_in 152 (by decide +kernel) rfl), rfl, rfl⟩
theorem cfw_Dec : ∀ k, k < 2 → u_lay "InterleavedLink$Decoder" T_Dec k ∈ gW
  | 0, _ => gW_in 204 (by decide +kernel) rfl
  | 1, _ => gW_in 206 (by decide +kernel) rfl
  | (_ + 2), h => absurd h (by omega)
theorem cf_Dec : cF 6 "InterleavedLink$Decoder" T_Dec 2 := ⟨by decide, rfl, fun w hw => by
  obtain ⟨k, hk, rfl⟩ := List.mem_map.mp hw
  exact cfw_Dec k (List.mem_range.mp hk), by decide +kernel, ty_Dec, by decide +kernel⟩
theorem ps_Dec_12 : pS "InterleavedLink$Decoder" "<init>" 12 6 0 (.object "InterleavedLink$Table") := ⟨"InterleavedLink$Decoder", T_Dec, 2, cf_Dec, by decide, by decide +kernel, Or.inr ⟨rfl, rfl, rfl, (gW_in 201 (by decide +kernel) rfl)⟩⟩
theorem ps_Dec_18 {nm : String} : pS "InterleavedLink$Decoder" nm 18 6 1 .boolean := ⟨"InterleavedLink$Decoder", T_Dec, 2, cf_Dec, by decide, by decide +kernel, Or.inl ⟨rfl, Or.inl (gW_in 203 (by decide +kernel) rfl)⟩⟩
theorem oi_Stream_3 : Cond.methodLink "InterleavedLink$Stream" 3 Lib.objectInit ∈ gW := gW_in 234 (by decide +kernel) rfl
theorem cfw_Stream : ∀ k, k < 10 → u_lay "InterleavedLink$Stream" T_Stream k ∈ gW
  | 0, _ => gW_in 279 (by decide +kernel) rfl
  | 1, _ => gW_in 281 (by decide +kernel) rfl
  | 2, _ => gW_in 283 (by decide +kernel) rfl
  | 3, _ => gW_in 285 (by decide +kernel) rfl
  | 4, _ => gW_in 287 (by decide +kernel) rfl
  | 5, _ => gW_in 289 (by decide +kernel) rfl
  | 6, _ => gW_in 291 (by decide +kernel) rfl
  | 7, _ => gW_in 293 (by decide +kernel) rfl
  | 8, _ => gW_in 295 (by decide +kernel) rfl
  | 9, _ => gW_in 297 (by decide +kernel) rfl
  | (_ + 10), h => absurd h (by omega)
theorem cf_Stream : cF 8 "InterleavedLink$Stream" T_Stream 10 := ⟨by decide, rfl, fun w hw => by
  obtain ⟨k, hk, rfl⟩ := List.mem_map.mp hw
  exact cfw_Stream k (List.mem_range.mp hk), by decide +kernel, ty_Stream, by decide +kernel⟩
theorem ps_Stream_9 {nm : String} : pS "InterleavedLink$Stream" nm 9 8 1 .int := ⟨"InterleavedLink$Stream", T_Stream, 10, cf_Stream, by decide, by decide +kernel, Or.inl ⟨rfl, Or.inl (gW_in 253 (by decide +kernel) rfl)⟩⟩
theorem ps_Stream_15 {nm : String} : pS "InterleavedLink$Stream" nm 15 8 2 .boolean := ⟨"InterleavedLink$Stream", T_Stream, 10, cf_Stream, by decide, by decide +kernel, Or.inl ⟨rfl, Or.inl (gW_in 256 (by decide +kernel) rfl)⟩⟩
theorem ps_Stream_19 {nm : String} : pS "InterleavedLink$Stream" nm 19 8 3 .int := ⟨"InterleavedLink$Stream", T_Stream, 10, cf_Stream, by decide, by decide +kernel, Or.inl ⟨rfl, Or.inl (gW_in 258 (by decide +kernel) rfl)⟩⟩
theorem ps_Stream_22 {nm : String} : pS "InterleavedLink$Stream" nm 22 8 4 .int := ⟨"InterleavedLink$Stream", T_Stream, 10, cf_Stream, by decide, by decide +kernel, Or.inl ⟨rfl, Or.inl (gW_in 261 (by decide +kernel) rfl)⟩⟩
theorem ps_Stream_25 {nm : String} : pS "InterleavedLink$Stream" nm 25 8 5 .boolean := ⟨"InterleavedLink$Stream", T_Stream, 10, cf_Stream, by decide, by decide +kernel, Or.inl ⟨rfl, Or.inl (gW_in 264 (by decide +kernel) rfl)⟩⟩
theorem ps_Stream_28 {nm : String} : pS "InterleavedLink$Stream" nm 28 8 6 .boolean := ⟨"InterleavedLink$Stream", T_Stream, 10, cf_Stream, by decide, by decide +kernel, Or.inl ⟨rfl, Or.inl (gW_in 267 (by decide +kernel) rfl)⟩⟩
theorem ps_Stream_31 {nm : String} : pS "InterleavedLink$Stream" nm 31 8 7 (.object "InterleavedLink$FieldList") := ⟨"InterleavedLink$Stream", T_Stream, 10, cf_Stream, by decide, by decide +kernel, Or.inl ⟨rfl, Or.inl (gW_in 270 (by decide +kernel) rfl)⟩⟩
theorem ns_Stream_35 : nS "InterleavedLink$Stream" 35 9 2 := ⟨"InterleavedLink$ByteQueue", T_BQ, cf_BQ, (gW_in 235 (by decide +kernel) rfl), (gW_in 236 (by decide +kernel) rfl), (gW_in 73 (by decide +kernel) rfl)⟩
theorem cs_Stream_37 : cI "InterleavedLink$Stream" 37 uBQ_init 1 := ⟨⟨Or.inl (gW_in 237 (by decide +kernel) rfl), (gW_in 73 (by decide +kernel) rfl), (gW_in 239 (by decide +kernel) rfl), ⟨by decide, by decide⟩, by decide +kernel⟩, (gW_in 238 (by decide +kernel) rfl), rfl, rfl⟩
theorem ps_Stream_40 : pS "InterleavedLink$Stream" "<init>" 40 8 8 (.object "InterleavedLink$ByteQueue") := ⟨"InterleavedLink$Stream", T_Stream, 10, cf_Stream, by decide, by decide +kernel, Or.inr ⟨rfl, rfl, rfl, (gW_in 273 (by decide +kernel) rfl)⟩⟩
theorem ps_Stream_44 : pS "InterleavedLink$Stream" "<init>" 44 8 9 (.object "InterleavedLink$ByteQueue") := ⟨"InterleavedLink$Stream", T_Stream, 10, cf_Stream, by decide, by decide +kernel, Or.inr ⟨rfl, rfl, rfl, (gW_in 276 (by decide +kernel) rfl)⟩⟩
theorem ps_Stream_47 : pS "InterleavedLink$Stream" "<init>" 47 8 0 .int := ⟨"InterleavedLink$Stream", T_Stream, 10, cf_Stream, by decide, by decide +kernel, Or.inr ⟨rfl, rfl, rfl, (gW_in 251 (by decide +kernel) rfl)⟩⟩
theorem cfw_End : ∀ k, k < 17 → u_lay "InterleavedLink$End" T_End k ∈ gW
  | 0, _ => gW_in 326 (by decide +kernel) rfl
  | 1, _ => gW_in 328 (by decide +kernel) rfl
  | 2, _ => gW_in 330 (by decide +kernel) rfl
  | 3, _ => gW_in 332 (by decide +kernel) rfl
  | 4, _ => gW_in 334 (by decide +kernel) rfl
  | 5, _ => gW_in 336 (by decide +kernel) rfl
  | 6, _ => gW_in 338 (by decide +kernel) rfl
  | 7, _ => gW_in 340 (by decide +kernel) rfl
  | 8, _ => gW_in 342 (by decide +kernel) rfl
  | 9, _ => gW_in 344 (by decide +kernel) rfl
  | 10, _ => gW_in 346 (by decide +kernel) rfl
  | 11, _ => gW_in 348 (by decide +kernel) rfl
  | 12, _ => gW_in 350 (by decide +kernel) rfl
  | 13, _ => gW_in 352 (by decide +kernel) rfl
  | 14, _ => gW_in 354 (by decide +kernel) rfl
  | 15, _ => gW_in 356 (by decide +kernel) rfl
  | 16, _ => gW_in 358 (by decide +kernel) rfl
  | (_ + 17), h => absurd h (by omega)
theorem cf_End : cF 2 "InterleavedLink$End" T_End 17 := ⟨by decide, rfl, fun w hw => by
  obtain ⟨k, hk, rfl⟩ := List.mem_map.mp hw
  exact cfw_End k (List.mem_range.mp hk), by decide +kernel, ty_End, by decide +kernel⟩
theorem fs_End_44 : fS "InterleavedLink$End" 44 2 9 := ⟨"InterleavedLink$End", T_End, 17, cf_End, by decide, Or.inl (gW_in 317 (by decide +kernel) rfl)⟩
theorem ns_End_42 : nS "InterleavedLink$End" 42 8 10 := ⟨"InterleavedLink$Stream", T_Stream, cf_Stream, (gW_in 209 (by decide +kernel) rfl), (gW_in 230 (by decide +kernel) rfl), (gW_in 72 (by decide +kernel) rfl)⟩
theorem cs_End_85 : cI "InterleavedLink$End" 85 uStream_init 1 := ⟨⟨Or.inl (gW_in 231 (by decide +kernel) rfl), (gW_in 72 (by decide +kernel) rfl), (gW_in 233 (by decide +kernel) rfl), ⟨by decide, by decide⟩, by decide +kernel⟩, (gW_in 232 (by decide +kernel) rfl), rfl, rfl⟩
set_option maxRecDepth 100000 in
set_option maxHeartbeats 4000000 in
theorem ct_Enc_init {X : mX} {l : Launch} {M : mM} {t : Nat} (hp : (mT M t).1 = 4) : Ct X l uEnc_init (rn 2 32 4 21) [.ref t] M (fun r M' => r = none ∧ M' = mkEnc M t) := by
  refine Ct.of (by decide) (Nat.le_of_ble_eq_true rfl) ?_
  show G X l uEnc_init (rn 2 32 4 21) 4 21 M 0 [some (.ref t)] [] _
  refine G.wf fun hw => ?_
  have hlt := (hw.lt (a := t) (by rw [hp]; decide)).2
  refine g_aload_n 0 dEnc_init_0 rfl ?_
  refine g_objInit 1 dEnc_init_1 oi_Enc_3 oi_m oi_c ⟨(Nat.le_of_ble_eq_true rfl), (Nat.le_of_ble_eq_true rfl)⟩ ?_
  refine g_aload_n 4 dEnc_init_4 rfl ?_
  refine g_new 5 5 6 dEnc_init_5 ns_Enc_9 (Nat.le_of_ble_eq_true rfl) (Nat.le_of_ble_eq_true rfl) ?_
  refine g_dup 8 dEnc_init_8 rfl ?_
  refine g_callI 9 [] dEnc_init_9 cs_Enc_11 rfl rfl ⟨(Nat.le_of_ble_eq_true rfl), (Nat.le_of_ble_eq_true rfl)⟩ (Nat.le_of_ble_eq_true rfl) (ct_Tab_init nT) (Nat.le_of_ble_eq_true rfl) (Nat.le_of_ble_eq_true rfl) ?_
  rintro _ _ ⟨rfl, rfl⟩
  refine g_putr 12 4 0 dEnc_init_12 ps_Enc_12 rfl rfl (oT (Nat.lt_add_right 3 hlt) (oT (Nat.lt_add_right 2 hlt) (oT (Nat.lt_add_right 1 hlt) (oT (Nat.lt_add_right 0 hlt) hp)))) ?_
  refine g_aload_n 15 dEnc_init_15 rfl ?_
  refine g_iconst 16 0 dEnc_init_16 rfl ?_
  refine g_putz 17 4 1 dEnc_init_17 ps_Enc_18 rfl (by decide) (oT (Nat.lt_add_right 3 hlt) (oT (Nat.lt_add_right 2 hlt) (oT (Nat.lt_add_right 1 hlt) (oT (Nat.lt_add_right 0 hlt) hp)))) ?_
  refine g_aload_n 20 dEnc_init_20 rfl ?_
  refine g_iconst 21 0 dEnc_init_21 rfl ?_
  refine g_puti 22 4 2 dEnc_init_22 ps_Enc_22 rfl (oT (Nat.lt_add_right 3 hlt) (oT (Nat.lt_add_right 2 hlt) (oT (Nat.lt_add_right 1 hlt) (oT (Nat.lt_add_right 0 hlt) hp)))) ?_
  refine g_aload_n 25 dEnc_init_25 rfl ?_
  refine g_iconst 26 0 dEnc_init_26 rfl ?_
  refine g_puti 27 4 3 dEnc_init_27 ps_Enc_26 rfl (oT (Nat.lt_add_right 3 hlt) (oT (Nat.lt_add_right 2 hlt) (oT (Nat.lt_add_right 1 hlt) (oT (Nat.lt_add_right 0 hlt) hp)))) ?_
  exact g_vret 30 dEnc_init_30 rfl ⟨rfl, rfl⟩

set_option maxRecDepth 100000 in
set_option maxHeartbeats 4000000 in
theorem ct_Dec_init {X : mX} {l : Launch} {M : mM} {t : Nat} (hp : (mT M t).1 = 6) : Ct X l uDec_init (rn 2 32 4 21) [.ref t] M (fun r M' => r = none ∧ M' = mkDec M t) := by
  refine Ct.of (by decide) (Nat.le_of_ble_eq_true rfl) ?_
  show G X l uDec_init (rn 2 32 4 21) 4 21 M 0 [some (.ref t)] [] _
  refine G.wf fun hw => ?_
  have hlt := (hw.lt (a := t) (by rw [hp]; decide)).2
  refine g_aload_n 0 dDec_init_0 rfl ?_
  refine g_objInit 1 dDec_init_1 oi_Dec_3 oi_m oi_c ⟨(Nat.le_of_ble_eq_true rfl), (Nat.le_of_ble_eq_true rfl)⟩ ?_
  refine g_aload_n 4 dDec_init_4 rfl ?_
  refine g_new 5 5 6 dDec_init_5 ns_Dec_9 (Nat.le_of_ble_eq_true rfl) (Nat.le_of_ble_eq_true rfl) ?_
  refine g_dup 8 dDec_init_8 rfl ?_
  refine g_callI 9 [] dDec_init_9 cs_Dec_11 rfl rfl ⟨(Nat.le_of_ble_eq_true rfl), (Nat.le_of_ble_eq_true rfl)⟩ (Nat.le_of_ble_eq_true rfl) (ct_Tab_init nT) (Nat.le_of_ble_eq_true rfl) (Nat.le_of_ble_eq_true rfl) ?_
  rintro _ _ ⟨rfl, rfl⟩
  refine g_putr 12 6 0 dDec_init_12 ps_Dec_12 rfl rfl (oT (Nat.lt_add_right 3 hlt) (oT (Nat.lt_add_right 2 hlt) (oT (Nat.lt_add_right 1 hlt) (oT (Nat.lt_add_right 0 hlt) hp)))) ?_
  refine g_aload_n 15 dDec_init_15 rfl ?_
  refine g_iconst 16 0 dDec_init_16 rfl ?_
  refine g_putz 17 6 1 dDec_init_17 ps_Dec_18 rfl (by decide) (oT (Nat.lt_add_right 3 hlt) (oT (Nat.lt_add_right 2 hlt) (oT (Nat.lt_add_right 1 hlt) (oT (Nat.lt_add_right 0 hlt) hp)))) ?_
  exact g_vret 20 dDec_init_20 rfl ⟨rfl, rfl⟩

set_option maxRecDepth 100000 in
set_option maxHeartbeats 4000000 in
theorem ct_Str_init {X : mX} {l : Launch} {M : mM} {t : Nat} {x : Int32} (hp : (mT M t).1 = 8) : Ct X l uStream_init (rn 2 33 4 84) [.ref t, .int x] M (fun r M' => r = none ∧ M' = mkStr M t x) := by
  refine Ct.of (by decide) (Nat.le_of_ble_eq_true rfl) ?_
  show G X l uStream_init (rn 2 33 4 84) 4 84 M 0 [some (.ref t), some (.int x)] [] _
  refine G.wf fun hw => ?_
  have hlt := (hw.lt (a := t) (by rw [hp]; decide)).2
  refine g_aload_n 0 dStream_init_0 rfl ?_
  refine g_objInit 1 dStream_init_1 oi_Stream_3 oi_m oi_c ⟨(Nat.le_of_ble_eq_true rfl), (Nat.le_of_ble_eq_true rfl)⟩ ?_
  refine g_aload_n 4 dStream_init_4 rfl ?_
  refine g_iconst 5 0 dStream_init_5 rfl ?_
  refine g_puti 6 8 1 dStream_init_6 ps_Stream_9 rfl hp ?_
  refine g_aload_n 9 dStream_init_9 rfl ?_
  refine g_iconst 10 0 dStream_init_10 rfl ?_
  refine g_putz 11 8 2 dStream_init_11 ps_Stream_15 rfl (by decide) hp ?_
  refine g_aload_n 14 dStream_init_14 rfl ?_
  refine g_iconst 15 0 dStream_init_15 rfl ?_
  refine g_puti 16 8 3 dStream_init_16 ps_Stream_19 rfl hp ?_
  refine g_aload_n 19 dStream_init_19 rfl ?_
  refine g_iconst 20 0 dStream_init_20 rfl ?_
  refine g_puti 21 8 4 dStream_init_21 ps_Stream_22 rfl hp ?_
  refine g_aload_n 24 dStream_init_24 rfl ?_
  refine g_iconst 25 0 dStream_init_25 rfl ?_
  refine g_putz 26 8 5 dStream_init_26 ps_Stream_25 rfl (by decide) hp ?_
  refine g_aload_n 29 dStream_init_29 rfl ?_
  refine g_iconst 30 0 dStream_init_30 rfl ?_
  refine g_putz 31 8 6 dStream_init_31 ps_Stream_28 rfl (by decide) hp ?_
  refine g_aload_n 34 dStream_init_34 rfl ?_
  refine g_null 35 dStream_init_35 ?_
  refine g_putN 36 8 7 dStream_init_36 ps_Stream_31 rfl rfl hp ?_
  refine g_aload_n 39 dStream_init_39 rfl ?_
  refine g_new 40 9 2 dStream_init_40 ns_Stream_35 (Nat.le_of_ble_eq_true rfl) (Nat.le_of_ble_eq_true rfl) ?_
  refine g_dup 43 dStream_init_43 rfl ?_
  refine g_bipush 44 32 dStream_init_44 rfl ?_
  refine g_callI 46 [_] dStream_init_46 cs_Stream_37 rfl rfl ⟨(Nat.le_of_ble_eq_true rfl), (Nat.le_of_ble_eq_true rfl)⟩ (Nat.le_of_ble_eq_true rfl) (ct_BQ_init (n := 32) nT (by decide)) (Nat.le_of_ble_eq_true rfl) (Nat.le_of_ble_eq_true rfl) ?_
  rintro _ _ ⟨rfl, rfl⟩
  refine g_putr 49 8 8 dStream_init_49 ps_Stream_40 rfl rfl (oT (Nat.lt_add_right 1 hlt) (oT (Nat.lt_add_right 0 hlt) hp)) ?_
  refine g_aload_n 52 dStream_init_52 rfl ?_
  refine g_new 53 9 2 dStream_init_53 ns_Stream_35 (Nat.le_of_ble_eq_true rfl) (Nat.le_of_ble_eq_true rfl) ?_
  refine g_dup 56 dStream_init_56 rfl ?_
  refine g_bipush 57 40 dStream_init_57 rfl ?_
  refine g_callI 59 [_] dStream_init_59 cs_Stream_37 rfl rfl ⟨(Nat.le_of_ble_eq_true rfl), (Nat.le_of_ble_eq_true rfl)⟩ (Nat.le_of_ble_eq_true rfl) (ct_BQ_init (n := 40) nT (by decide)) (Nat.le_of_ble_eq_true rfl) (Nat.le_of_ble_eq_true rfl) ?_
  rintro _ _ ⟨rfl, rfl⟩
  refine g_putr 62 8 9 dStream_init_62 ps_Stream_44 rfl rfl (oT (Nat.lt_add_right 3 hlt) (oT (Nat.lt_add_right 2 hlt) (oT (Nat.lt_add_right 1 hlt) (oT (Nat.lt_add_right 0 hlt) hp)))) ?_
  refine g_aload_n 65 dStream_init_65 rfl ?_
  refine g_iload_n 66 dStream_init_66 rfl ?_
  refine g_puti 67 8 0 dStream_init_67 ps_Stream_47 rfl (oT (Nat.lt_add_right 3 hlt) (oT (Nat.lt_add_right 2 hlt) (oT (Nat.lt_add_right 1 hlt) (oT (Nat.lt_add_right 0 hlt) hp)))) ?_
  exact g_vret 70 dStream_init_70 rfl ⟨rfl, rfl⟩

/-- M' has all of M's cells; of those only D's have other contents -/
def Ex (M M' : mM) (D : Nat → Prop) : Prop := mN M ≤ mN M' ∧ (∀ a, a < mN M → mT M' a = mT M a) ∧ ∀ a, a < mN M → ¬ D a → (∀ k, mI M' a k = mI M a k) ∧ (∀ k, mL M' a k = mL M a k) ∧ ∀ k, mR M' a k = mR M a k
theorem Ex.rf {M : mM} {D : Nat → Prop} : Ex M M D := ⟨Nat.le_refl _, fun _ _ => rfl, fun _ _ _ => ⟨fun _ => rfl, fun _ => rfl, fun _ => rfl⟩⟩
theorem Ex.new {M M' : mM} {D : Nat → Prop} {t n : Nat} (h : Ex M M' D) : Ex M (newM M' t n) D :=
  ⟨Nat.le_succ_of_le h.1, fun a ha => (mT_new_ne (Nat.ne_of_lt (Nat.lt_of_lt_of_le ha h.1))).trans (h.2.1 a ha), fun a ha hd => ⟨fun k => (mI_new_ne (Nat.ne_of_lt (Nat.lt_of_lt_of_le ha h.1))).trans ((h.2.2 a ha hd).1 k), fun k => (mL_new_ne (Nat.ne_of_lt (Nat.lt_of_lt_of_le ha h.1))).trans ((h.2.2 a ha hd).2.1 k), fun k => (mR_new_ne (Nat.ne_of_lt (Nat.lt_of_lt_of_le ha h.1))).trans ((h.2.2 a ha hd).2.2 k)⟩⟩
theorem Ex.setI {M M' : mM} {D : Nat → Prop} {b j : Nat} {v : Int32} (h : Ex M M' D) (hb : D b ∨ mN M ≤ b) : Ex M (setI M' b j v) D :=
  ⟨h.1, h.2.1, fun a ha hd => ⟨fun k => (up2_a (fun e => by subst e; rcases hb with q | q; exact hd q; omega)).trans ((h.2.2 a ha hd).1 k), (h.2.2 a ha hd).2.1, (h.2.2 a ha hd).2.2⟩⟩
theorem Ex.setL {M M' : mM} {D : Nat → Prop} {b j : Nat} {v : Int64} (h : Ex M M' D) (hb : D b ∨ mN M ≤ b) : Ex M (setL M' b j v) D :=
  ⟨h.1, h.2.1, fun a ha hd => ⟨(h.2.2 a ha hd).1, fun k => (up2_a (fun e => by subst e; rcases hb with q | q; exact hd q; omega)).trans ((h.2.2 a ha hd).2.1 k), (h.2.2 a ha hd).2.2⟩⟩
theorem Ex.setR {M M' : mM} {D : Nat → Prop} {b j : Nat} {v : Option Nat} (h : Ex M M' D) (hb : D b ∨ mN M ≤ b) : Ex M (setR M' b j v) D :=
  ⟨h.1, h.2.1, fun a ha hd => ⟨(h.2.2 a ha hd).1, (h.2.2 a ha hd).2.1, fun k => (up2_a (fun e => by subst e; rcases hb with q | q; exact hd q; omega)).trans ((h.2.2 a ha hd).2.2 k)⟩⟩
theorem Ex.tr {M M' M2 : mM} {D : Nat → Prop} (h : Ex M M' D) (h2 : Ex M' M2 D) : Ex M M2 D :=
  ⟨Nat.le_trans h.1 h2.1, fun a ha => (h2.2.1 a (Nat.lt_of_lt_of_le ha h.1)).trans (h.2.1 a ha), fun a ha hd => ⟨fun k => ((h2.2.2 a (Nat.lt_of_lt_of_le ha h.1) hd).1 k).trans ((h.2.2 a ha hd).1 k), fun k => ((h2.2.2 a (Nat.lt_of_lt_of_le ha h.1) hd).2.1 k).trans ((h.2.2 a ha hd).2.1 k), fun k => ((h2.2.2 a (Nat.lt_of_lt_of_le ha h.1) hd).2.2 k).trans ((h.2.2 a ha hd).2.2 k)⟩⟩
theorem Ex.wide {M M' : mM} {D E : Nat → Prop} (h : Ex M M' D) (hde : ∀ a, a < mN M → D a → E a) : Ex M M' E :=
  ⟨h.1, h.2.1, fun a ha hd => h.2.2 a ha fun q => hd (hde a ha q)⟩
theorem ex_BQ {M : mM} {t n : Nat} : Ex M (mkBQ M t n) (fun a => a = t) := by
  unfold mkBQ
  exact Ex.setR (Ex.new (Ex.setI Ex.rf (Or.inl rfl))) (Or.inl rfl)
theorem ex_Str {M : mM} {t : Nat} {x : Int32} : Ex M (mkStr M t x) (fun a => a = t) := by
  unfold mkStr mkBQ
  exact Ex.setI (Ex.setR (Ex.setR (Ex.new (Ex.setI (Ex.new (Ex.setR (Ex.setR (Ex.new (Ex.setI (Ex.new (Ex.setR (Ex.setI (Ex.setI (Ex.setI (Ex.setI (Ex.setI (Ex.setI Ex.rf (Or.inl rfl)) (Or.inl rfl)) (Or.inl rfl)) (Or.inl rfl)) (Or.inl rfl)) (Or.inl rfl)) (Or.inl rfl))) (Or.inr (Nat.le_refl _)))) (Or.inr (Nat.le_refl _))) (Or.inl rfl))) (Or.inr (Nat.le_add_right _ 2)))) (Or.inr (Nat.le_add_right _ 2))) (Or.inl rfl)) (Or.inl rfl)
/-- the streams of an end, made in a row into the array arr -/
def mkStrs (M : mM) (arr : Nat) : Nat → mM
  | 0 => M
  | n + 1 => setR (mkStr (newM (mkStrs M arr n) 8 10) (mN (mkStrs M arr n)) (2 * nI n + 1)) arr n (some (mN (mkStrs M arr n)))
theorem mN_strs (M : mM) (arr : Nat) : ∀ n, mN (mkStrs M arr n) = mN M + 5 * n
  | 0 => rfl
  | n + 1 => by
    show mN (mkStrs M arr n) + 1 + 1 + 1 + 1 + 1 = _
    rw [mN_strs M arr n]
    omega
theorem ex_Strs0 (M : mM) (arr : Nat) : ∀ n, Ex M (mkStrs M arr n) (fun a => a = arr ∨ mN M ≤ a)
  | 0 => Ex.rf
  | n + 1 => by
    have ih := ex_Strs0 M arr n
    exact Ex.setR (Ex.tr (Ex.new ih) (ex_Str.wide fun a ha e => Or.inr (by rw [e]; exact ih.1))) (Or.inl (Or.inl rfl))
theorem ex_Strs (M : mM) (arr n : Nat) : Ex M (mkStrs M arr n) (fun a => a = arr) := (ex_Strs0 M arr n).wide fun a ha e => e.elim id fun q => absurd q (by omega)

def mkEnd1 (M : mM) (t : Nat) : mM := setI (setI (setI M t 3 0) t 4 40) t 5 40
def mkEnd2 (M : mM) (t : Nat) : mM := setR (mkFL (newM (mkEnd1 M t) 3 4) (mN M)) t 6 (some (mN M))
def mkEnd3 (M : mM) (t : Nat) : mM := setR (mkEnc (newM (mkEnd2 M t) 4 4) (mN M + 4)) t 7 (some (mN M + 4))
def mkEnd4 (M : mM) (t : Nat) : mM := setR (mkDec (newM (mkEnd3 M t) 6 2) (mN M + 9)) t 8 (some (mN M + 9))
def mkEnd5 (M : mM) (t : Nat) : mM := setR (newM (mkEnd4 M t) 105 12) t 9 (some (mN M + 14))
def mkEnd6 (M : mM) (t : Nat) : mM := setR (mkSett (newM (mkEnd5 M t) 7 3) (mN M + 15)) t 10 (some (mN M + 15))
def mkEnd7 (M : mM) (t : Nat) : mM := setR (mkSett (newM (mkEnd6 M t) 7 3) (mN M + 16)) t 11 (some (mN M + 16))
def mkEnd8 (M : mM) (t : Nat) : mM := setR (newM (setR (newM (mkEnd7 M t) 100 8) t 12 (some (mN M + 17))) 100 8) t 13 (some (mN M + 18))
def mkEnd9 (M : mM) (t : Nat) (q : Int32) (i o : Nat) : mM := setR (setR (setI (setI (setI (setI (mkEnd8 M t) t 14 0) t 15 1) t 16 (-1)) t 0 q) t 1 (some i)) t 2 (some o)
def mkEnd (M : mM) (t : Nat) (q : Int32) (i o : Nat) : mM := mkStrs (mkEnd9 M t q i o) (mN M + 14) 12
set_option maxRecDepth 100000 in
set_option maxHeartbeats 4000000 in
theorem g_End_loop {X : mX} {l : Launch} {M : mM} {t arr i o : Nat} {q : Int32} {Q : Option Value → mM → Prop} (hp : (mT M t).1 = 2) (hr : mR M t 9 = some arr) (hne : t ≠ arr) (ha : mT M arr = (105, 12)) (hw : Wf M) (hq : Q none (mkStrs M arr 12)) : ∀ (j n : Nat), n + j = 12 → G X l uEnd_init (rn 3 54 79 1232) (5 * j) (94 * j) (mkStrs M arr n) 134 [some (.ref t), some (.int q), some (.ref i), some (.ref o), some (.int (nI n))] [] Q
  | 0, n, hn => by
    have hn : n = 12 := by omega
    subst hn
    refine g_iload 134 dEnd_init_134 rfl ?_
    refine g_bipush 136 12 dEnd_init_136 rfl ?_
    refine g_icmp_ge 138 167 dEnd_init_138 rfl (fun h138 => ?_) (fun h138 => ?_)
    · exact g_vret 167 dEnd_init_167 rfl hq
    · exact absurd (show (12 : Int32) ≤ nI 12 by decide) h138
  | j + 1, n, hn => by
    have hlt := (hw.lt (a := t) (by rw [hp]; decide)).2
    have hla := (hw.lt (a := arr) (by rw [ha]; decide)).2
    have hE := ex_Strs M arr n
    have hlt2 : t < mN (mkStrs M arr n) := Nat.lt_of_lt_of_le hlt hE.1
    have hla2 : arr < mN (mkStrs M arr n) := Nat.lt_of_lt_of_le hla hE.1
    have hp2 : (mT (mkStrs M arr n) t).1 = 2 := by rw [hE.2.1 t hlt]; exact hp
    have hr2 : mR (mkStrs M arr n) t 9 = some arr := by rw [(hE.2.2 t hlt hne).2.2]; exact hr
    have ha2 : mT (mkStrs M arr n) arr = (105, 12) := by rw [hE.2.1 arr hla]; exact ha
    have ih := g_End_loop (X := X) (l := l) (q := q) (i := i) (o := o) hp hr hne ha hw hq j (n + 1) (by omega)
    refine g_iload 134 dEnd_init_134 rfl ?_
    refine g_bipush 136 12 dEnd_init_136 rfl ?_
    refine g_icmp_ge 138 167 dEnd_init_138 rfl (fun h138 => ?_) (fun h138 => ?_)
    · exact absurd h138 (nI_ge (by omega : n < 12) (by decide))
    · refine g_aload_n 141 dEnd_init_141 rfl ?_
      refine g_getr 142 2 9 dEnd_init_142 fs_End_44 rfl hp2 hr2 ?_
      refine g_iload 145 dEnd_init_145 rfl ?_
      refine g_new 147 8 10 dEnd_init_147 ns_End_42 (Nat.le_of_ble_eq_true rfl) (Nat.le_of_ble_eq_true rfl) ?_
      refine g_dup 150 dEnd_init_150 rfl ?_
      refine g_iconst 151 2 dEnd_init_151 rfl ?_
      refine g_iload 152 dEnd_init_152 rfl ?_
      refine g_imul 154 dEnd_init_154 ?_
      refine g_iconst 155 1 dEnd_init_155 rfl ?_
      refine g_iadd 156 dEnd_init_156 ?_
      refine g_callI 157 [_] dEnd_init_157 cs_End_85 rfl rfl ⟨(Nat.le_of_ble_eq_true rfl), (Nat.le_of_ble_eq_true rfl)⟩ (Nat.le_of_ble_eq_true rfl) (ct_Str_init nT) (Nat.le_of_ble_eq_true rfl) (Nat.le_of_ble_eq_true rfl) ?_
      rintro _ _ ⟨rfl, rfl⟩
      refine g_aast 160 5 dEnd_init_160 rfl (by decide) (oTT (Nat.lt_add_right 4 hla2) (oTT (Nat.lt_add_right 3 hla2) (oTT (Nat.lt_add_right 2 hla2) (oTT (Nat.lt_add_right 1 hla2) (oTT hla2 ha2))))) (vp_in_nI (by omega) (by decide)) (oT (Nat.lt_add_of_pos_right (by decide : 0 < 4)) (oT (Nat.lt_add_of_pos_right (by decide : 0 < 3)) (oT (Nat.lt_add_of_pos_right (by decide : 0 < 2)) (oT (Nat.lt_add_of_pos_right (by decide : 0 < 1)) nT)))) (by decide) rfl ?_
      refine g_iinc 161 1 dEnd_init_161 rfl rfl (by decide) rfl ?_
      refine g_goto 164 134 dEnd_init_164 rfl ?_
      rw [nI_clamp (by omega), nI_1]
      exact ih

theorem dEnd_getHeaders_0 : decode uEnd_getHeaders.2.1 0 = .ok (.aload_n 0, 1) := by decide +kernel
theorem dEnd_getHeaders_1 : decode uEnd_getHeaders.2.1 1 = .ok (.aload_n 1, 1) := by decide +kernel
theorem dEnd_getHeaders_2 : decode uEnd_getHeaders.2.1 2 = .ok (.getfield 243, 3) := by decide +kernel
theorem dEnd_getHeaders_5 : decode uEnd_getHeaders.2.1 5 = .ok (.invokevirtual 106, 3) := by decide +kernel
theorem dEnd_getHeaders_8 : decode uEnd_getHeaders.2.1 8 = .ok (.astore_n 2, 1) := by decide +kernel
theorem dEnd_getHeaders_9 : decode uEnd_getHeaders.2.1 9 = .ok (.aload_n 2, 1) := by decide +kernel
theorem dEnd_getHeaders_10 : decode uEnd_getHeaders.2.1 10 = .ok (.ifnull 17, 3) := by decide +kernel
theorem dEnd_getHeaders_13 : decode uEnd_getHeaders.2.1 13 = .ok (.aload_n 0, 1) := by decide +kernel
theorem dEnd_getHeaders_14 : decode uEnd_getHeaders.2.1 14 = .ok (.getfield 74, 3) := by decide +kernel
theorem dEnd_getHeaders_17 : decode uEnd_getHeaders.2.1 17 = .ok (.ifCond .eq 16, 3) := by decide +kernel
theorem dEnd_getHeaders_20 : decode uEnd_getHeaders.2.1 20 = .ok (.aload_n 2, 1) := by decide +kernel
theorem dEnd_getHeaders_21 : decode uEnd_getHeaders.2.1 21 = .ok (.getfield 253, 3) := by decide +kernel
theorem dEnd_getHeaders_24 : decode uEnd_getHeaders.2.1 24 = .ok (.ifCond .ne 9, 3) := by decide +kernel
theorem dEnd_getHeaders_27 : decode uEnd_getHeaders.2.1 27 = .ok (.aload_n 0, 1) := by decide +kernel
theorem dEnd_getHeaders_28 : decode uEnd_getHeaders.2.1 28 = .ok (.iconst 1, 1) := by decide +kernel
theorem dEnd_getHeaders_29 : decode uEnd_getHeaders.2.1 29 = .ok (.invokevirtual 256, 3) := by decide +kernel
theorem dEnd_getHeaders_32 : decode uEnd_getHeaders.2.1 32 = .ok (.ireturn, 1) := by decide +kernel
theorem dEnd_getHeaders_33 : decode uEnd_getHeaders.2.1 33 = .ok (.aload_n 0, 1) := by decide +kernel
theorem dEnd_getHeaders_34 : decode uEnd_getHeaders.2.1 34 = .ok (.getfield 38, 3) := by decide +kernel
theorem dEnd_getHeaders_37 : decode uEnd_getHeaders.2.1 37 = .ok (.aload_n 1, 1) := by decide +kernel
theorem dEnd_getHeaders_38 : decode uEnd_getHeaders.2.1 38 = .ok (.getfield 279, 3) := by decide +kernel
theorem dEnd_getHeaders_41 : decode uEnd_getHeaders.2.1 41 = .ok (.aload_n 0, 1) := by decide +kernel
theorem dEnd_getHeaders_42 : decode uEnd_getHeaders.2.1 42 = .ok (.getfield 55, 3) := by decide +kernel
theorem dEnd_getHeaders_45 : decode uEnd_getHeaders.2.1 45 = .ok (.getfield 283, 3) := by decide +kernel
theorem dEnd_getHeaders_48 : decode uEnd_getHeaders.2.1 48 = .ok (.invokevirtual 286, 3) := by decide +kernel
theorem dEnd_getHeaders_51 : decode uEnd_getHeaders.2.1 51 = .ok (.astore_n 3, 1) := by decide +kernel
theorem dEnd_getHeaders_52 : decode uEnd_getHeaders.2.1 52 = .ok (.aload_n 3, 1) := by decide +kernel
theorem dEnd_getHeaders_53 : decode uEnd_getHeaders.2.1 53 = .ok (.ifnonnull 10, 3) := by decide +kernel
theorem dEnd_getHeaders_56 : decode uEnd_getHeaders.2.1 56 = .ok (.aload_n 0, 1) := by decide +kernel
theorem dEnd_getHeaders_57 : decode uEnd_getHeaders.2.1 57 = .ok (.bipush 9, 2) := by decide +kernel
theorem dEnd_getHeaders_59 : decode uEnd_getHeaders.2.1 59 = .ok (.invokevirtual 256, 3) := by decide +kernel
theorem dEnd_getHeaders_62 : decode uEnd_getHeaders.2.1 62 = .ok (.ireturn, 1) := by decide +kernel
theorem dEnd_getHeaders_63 : decode uEnd_getHeaders.2.1 63 = .ok (.aload_n 2, 1) := by decide +kernel
theorem dEnd_getHeaders_64 : decode uEnd_getHeaders.2.1 64 = .ok (.getfield 253, 3) := by decide +kernel
theorem dEnd_getHeaders_67 : decode uEnd_getHeaders.2.1 67 = .ok (.ifCond .ne 14, 3) := by decide +kernel
theorem dEnd_getHeaders_70 : decode uEnd_getHeaders.2.1 70 = .ok (.aload_n 0, 1) := by decide +kernel
theorem dEnd_getHeaders_71 : decode uEnd_getHeaders.2.1 71 = .ok (.aload_n 2, 1) := by decide +kernel
theorem dEnd_getHeaders_72 : decode uEnd_getHeaders.2.1 72 = .ok (.aload_n 3, 1) := by decide +kernel
theorem dEnd_getHeaders_73 : decode uEnd_getHeaders.2.1 73 = .ok (.aload_n 1, 1) := by decide +kernel
theorem dEnd_getHeaders_74 : decode uEnd_getHeaders.2.1 74 = .ok (.getfield 228, 3) := by decide +kernel
theorem dEnd_getHeaders_77 : decode uEnd_getHeaders.2.1 77 = .ok (.invokevirtual 290, 3) := by decide +kernel
theorem dEnd_getHeaders_80 : decode uEnd_getHeaders.2.1 80 = .ok (.ireturn, 1) := by decide +kernel
theorem dEnd_getHeaders_81 : decode uEnd_getHeaders.2.1 81 = .ok (.aload_n 2, 1) := by decide +kernel
theorem dEnd_getHeaders_82 : decode uEnd_getHeaders.2.1 82 = .ok (.getfield 253, 3) := by decide +kernel
theorem dEnd_getHeaders_85 : decode uEnd_getHeaders.2.1 85 = .ok (.iconst 4, 1) := by decide +kernel
theorem dEnd_getHeaders_86 : decode uEnd_getHeaders.2.1 86 = .ok (.if_icmp .ne 20, 3) := by decide +kernel
theorem dEnd_getHeaders_89 : decode uEnd_getHeaders.2.1 89 = .ok (.aload_n 2, 1) := by decide +kernel
theorem dEnd_getHeaders_90 : decode uEnd_getHeaders.2.1 90 = .ok (.getfield 259, 3) := by decide +kernel
theorem dEnd_getHeaders_93 : decode uEnd_getHeaders.2.1 93 = .ok (.ifCond .eq 7, 3) := by decide +kernel
theorem dEnd_getHeaders_96 : decode uEnd_getHeaders.2.1 96 = .ok (.iconst 0, 1) := by decide +kernel
theorem dEnd_getHeaders_97 : decode uEnd_getHeaders.2.1 97 = .ok (.goto 8, 3) := by decide +kernel
theorem dEnd_getHeaders_100 : decode uEnd_getHeaders.2.1 100 = .ok (.aload_n 0, 1) := by decide +kernel
theorem dEnd_getHeaders_101 : decode uEnd_getHeaders.2.1 101 = .ok (.iconst 5, 1) := by decide +kernel
theorem dEnd_getHeaders_102 : decode uEnd_getHeaders.2.1 102 = .ok (.invokevirtual 256, 3) := by decide +kernel
theorem dEnd_getHeaders_105 : decode uEnd_getHeaders.2.1 105 = .ok (.ireturn, 1) := by decide +kernel
theorem dEnd_getHeaders_106 : decode uEnd_getHeaders.2.1 106 = .ok (.aload_n 2, 1) := by decide +kernel
theorem dEnd_getHeaders_107 : decode uEnd_getHeaders.2.1 107 = .ok (.getfield 253, 3) := by decide +kernel
theorem dEnd_getHeaders_110 : decode uEnd_getHeaders.2.1 110 = .ok (.iconst 3, 1) := by decide +kernel
theorem dEnd_getHeaders_111 : decode uEnd_getHeaders.2.1 111 = .ok (.if_icmp .ne 11, 3) := by decide +kernel
theorem dEnd_getHeaders_114 : decode uEnd_getHeaders.2.1 114 = .ok (.aload_n 0, 1) := by decide +kernel
theorem dEnd_getHeaders_115 : decode uEnd_getHeaders.2.1 115 = .ok (.aload_n 2, 1) := by decide +kernel
theorem dEnd_getHeaders_116 : decode uEnd_getHeaders.2.1 116 = .ok (.iconst 5, 1) := by decide +kernel
theorem dEnd_getHeaders_117 : decode uEnd_getHeaders.2.1 117 = .ok (.iconst 0, 1) := by decide +kernel
theorem dEnd_getHeaders_118 : decode uEnd_getHeaders.2.1 118 = .ok (.invokevirtual 262, 3) := by decide +kernel
theorem dEnd_getHeaders_121 : decode uEnd_getHeaders.2.1 121 = .ok (.ireturn, 1) := by decide +kernel
theorem dEnd_getHeaders_122 : decode uEnd_getHeaders.2.1 122 = .ok (.aload_n 2, 1) := by decide +kernel
theorem dEnd_getHeaders_123 : decode uEnd_getHeaders.2.1 123 = .ok (.getfield 266, 3) := by decide +kernel
theorem dEnd_getHeaders_126 : decode uEnd_getHeaders.2.1 126 = .ok (.ifnull 11, 3) := by decide +kernel
theorem dEnd_getHeaders_129 : decode uEnd_getHeaders.2.1 129 = .ok (.aload_n 0, 1) := by decide +kernel
theorem dEnd_getHeaders_130 : decode uEnd_getHeaders.2.1 130 = .ok (.aload_n 2, 1) := by decide +kernel
theorem dEnd_getHeaders_131 : decode uEnd_getHeaders.2.1 131 = .ok (.iconst 1, 1) := by decide +kernel
theorem dEnd_getHeaders_132 : decode uEnd_getHeaders.2.1 132 = .ok (.iconst 0, 1) := by decide +kernel
theorem dEnd_getHeaders_133 : decode uEnd_getHeaders.2.1 133 = .ok (.invokevirtual 262, 3) := by decide +kernel
theorem dEnd_getHeaders_136 : decode uEnd_getHeaders.2.1 136 = .ok (.ireturn, 1) := by decide +kernel
theorem dEnd_getHeaders_137 : decode uEnd_getHeaders.2.1 137 = .ok (.aload_n 0, 1) := by decide +kernel
theorem dEnd_getHeaders_138 : decode uEnd_getHeaders.2.1 138 = .ok (.aload_n 2, 1) := by decide +kernel
theorem dEnd_getHeaders_139 : decode uEnd_getHeaders.2.1 139 = .ok (.aload_n 3, 1) := by decide +kernel
theorem dEnd_getHeaders_140 : decode uEnd_getHeaders.2.1 140 = .ok (.aload_n 1, 1) := by decide +kernel
theorem dEnd_getHeaders_141 : decode uEnd_getHeaders.2.1 141 = .ok (.getfield 228, 3) := by decide +kernel
theorem dEnd_getHeaders_144 : decode uEnd_getHeaders.2.1 144 = .ok (.invokevirtual 294, 3) := by decide +kernel
theorem dEnd_getHeaders_147 : decode uEnd_getHeaders.2.1 147 = .ok (.iconst 0, 1) := by decide +kernel
theorem dEnd_getHeaders_148 : decode uEnd_getHeaders.2.1 148 = .ok (.ireturn, 1) := by decide +kernel
theorem dEnd_getAck_0 : decode uEnd_getAck.2.1 0 = .ok (.aload_n 0, 1) := by decide +kernel
theorem dEnd_getAck_1 : decode uEnd_getAck.2.1 1 = .ok (.getfield 65, 3) := by decide +kernel
theorem dEnd_getAck_4 : decode uEnd_getAck.2.1 4 = .ok (.ifCond .ne 9, 3) := by decide +kernel
theorem dEnd_getAck_7 : decode uEnd_getAck.2.1 7 = .ok (.aload_n 0, 1) := by decide +kernel
theorem dEnd_getAck_8 : decode uEnd_getAck.2.1 8 = .ok (.iconst 1, 1) := by decide +kernel
theorem dEnd_getAck_9 : decode uEnd_getAck.2.1 9 = .ok (.invokevirtual 256, 3) := by decide +kernel
theorem dEnd_getAck_12 : decode uEnd_getAck.2.1 12 = .ok (.ireturn, 1) := by decide +kernel
theorem dEnd_getAck_13 : decode uEnd_getAck.2.1 13 = .ok (.aload_n 0, 1) := by decide +kernel
theorem dEnd_getAck_14 : decode uEnd_getAck.2.1 14 = .ok (.getfield 58, 3) := by decide +kernel
theorem dEnd_getAck_17 : decode uEnd_getAck.2.1 17 = .ok (.iconst 0, 1) := by decide +kernel
theorem dEnd_getAck_18 : decode uEnd_getAck.2.1 18 = .ok (.iaload, 1) := by decide +kernel
theorem dEnd_getAck_19 : decode uEnd_getAck.2.1 19 = .ok (.istore_n 1, 1) := by decide +kernel
theorem dEnd_getAck_20 : decode uEnd_getAck.2.1 20 = .ok (.aload_n 0, 1) := by decide +kernel
theorem dEnd_getAck_21 : decode uEnd_getAck.2.1 21 = .ok (.getfield 62, 3) := by decide +kernel
theorem dEnd_getAck_24 : decode uEnd_getAck.2.1 24 = .ok (.iconst 0, 1) := by decide +kernel
theorem dEnd_getAck_25 : decode uEnd_getAck.2.1 25 = .ok (.iaload, 1) := by decide +kernel
theorem dEnd_getAck_26 : decode uEnd_getAck.2.1 26 = .ok (.istore_n 2, 1) := by decide +kernel
theorem dEnd_getAck_27 : decode uEnd_getAck.2.1 27 = .ok (.aload_n 0, 1) := by decide +kernel
theorem dEnd_getAck_28 : decode uEnd_getAck.2.1 28 = .ok (.dup, 1) := by decide +kernel
theorem dEnd_getAck_29 : decode uEnd_getAck.2.1 29 = .ok (.getfield 65, 3) := by decide +kernel
theorem dEnd_getAck_32 : decode uEnd_getAck.2.1 32 = .ok (.iconst 1, 1) := by decide +kernel
theorem dEnd_getAck_33 : decode uEnd_getAck.2.1 33 = .ok (.isub, 1) := by decide +kernel
theorem dEnd_getAck_34 : decode uEnd_getAck.2.1 34 = .ok (.putfield 65, 3) := by decide +kernel
theorem dEnd_getAck_37 : decode uEnd_getAck.2.1 37 = .ok (.iconst 0, 1) := by decide +kernel
theorem dEnd_getAck_38 : decode uEnd_getAck.2.1 38 = .ok (.istore_n 3, 1) := by decide +kernel
theorem dEnd_getAck_39 : decode uEnd_getAck.2.1 39 = .ok (.iload_n 3, 1) := by decide +kernel
theorem dEnd_getAck_40 : decode uEnd_getAck.2.1 40 = .ok (.aload_n 0, 1) := by decide +kernel
theorem dEnd_getAck_41 : decode uEnd_getAck.2.1 41 = .ok (.getfield 65, 3) := by decide +kernel
theorem dEnd_getAck_44 : decode uEnd_getAck.2.1 44 = .ok (.if_icmp .ge 37, 3) := by decide +kernel
theorem dEnd_getAck_47 : decode uEnd_getAck.2.1 47 = .ok (.aload_n 0, 1) := by decide +kernel
theorem dEnd_getAck_48 : decode uEnd_getAck.2.1 48 = .ok (.getfield 58, 3) := by decide +kernel
theorem dEnd_getAck_51 : decode uEnd_getAck.2.1 51 = .ok (.iload_n 3, 1) := by decide +kernel
theorem dEnd_getAck_52 : decode uEnd_getAck.2.1 52 = .ok (.aload_n 0, 1) := by decide +kernel
theorem dEnd_getAck_53 : decode uEnd_getAck.2.1 53 = .ok (.getfield 58, 3) := by decide +kernel
theorem dEnd_getAck_56 : decode uEnd_getAck.2.1 56 = .ok (.iload_n 3, 1) := by decide +kernel
theorem dEnd_getAck_57 : decode uEnd_getAck.2.1 57 = .ok (.iconst 1, 1) := by decide +kernel
theorem dEnd_getAck_58 : decode uEnd_getAck.2.1 58 = .ok (.iadd, 1) := by decide +kernel
theorem dEnd_getAck_59 : decode uEnd_getAck.2.1 59 = .ok (.iaload, 1) := by decide +kernel
theorem dEnd_getAck_60 : decode uEnd_getAck.2.1 60 = .ok (.iastore, 1) := by decide +kernel
theorem dEnd_getAck_61 : decode uEnd_getAck.2.1 61 = .ok (.aload_n 0, 1) := by decide +kernel
theorem dEnd_getAck_62 : decode uEnd_getAck.2.1 62 = .ok (.getfield 62, 3) := by decide +kernel
theorem dEnd_getAck_65 : decode uEnd_getAck.2.1 65 = .ok (.iload_n 3, 1) := by decide +kernel
theorem dEnd_getAck_66 : decode uEnd_getAck.2.1 66 = .ok (.aload_n 0, 1) := by decide +kernel
theorem dEnd_getAck_67 : decode uEnd_getAck.2.1 67 = .ok (.getfield 62, 3) := by decide +kernel
theorem dEnd_getAck_70 : decode uEnd_getAck.2.1 70 = .ok (.iload_n 3, 1) := by decide +kernel
theorem dEnd_getAck_71 : decode uEnd_getAck.2.1 71 = .ok (.iconst 1, 1) := by decide +kernel
theorem dEnd_getAck_72 : decode uEnd_getAck.2.1 72 = .ok (.iadd, 1) := by decide +kernel
theorem dEnd_getAck_73 : decode uEnd_getAck.2.1 73 = .ok (.iaload, 1) := by decide +kernel
theorem dEnd_getAck_74 : decode uEnd_getAck.2.1 74 = .ok (.iastore, 1) := by decide +kernel
theorem dEnd_getAck_75 : decode uEnd_getAck.2.1 75 = .ok (.iinc 3 1, 3) := by decide +kernel
theorem dEnd_getAck_78 : decode uEnd_getAck.2.1 78 = .ok (.goto (-39), 3) := by decide +kernel
theorem dEnd_getAck_81 : decode uEnd_getAck.2.1 81 = .ok (.aload_n 0, 1) := by decide +kernel
theorem dEnd_getAck_82 : decode uEnd_getAck.2.1 82 = .ok (.iload_n 1, 1) := by decide +kernel
theorem dEnd_getAck_83 : decode uEnd_getAck.2.1 83 = .ok (.iload_n 2, 1) := by decide +kernel
theorem dEnd_getAck_84 : decode uEnd_getAck.2.1 84 = .ok (.invokevirtual 301, 3) := by decide +kernel
theorem dEnd_getAck_87 : decode uEnd_getAck.2.1 87 = .ok (.iconst 0, 1) := by decide +kernel
theorem dEnd_getAck_88 : decode uEnd_getAck.2.1 88 = .ok (.ireturn, 1) := by decide +kernel
theorem cs_End_290 : cV "InterleavedLink$End" 290 uEnd_getRequest 3 := ⟨⟨Or.inl (gW_in 743 (by decide +kernel) rfl), (gW_in 66 (by decide +kernel) rfl), (gW_in 746 (by decide +kernel) rfl), ⟨by decide, by decide⟩, by decide +kernel⟩, (gW_in 745 (by decide +kernel) rfl), (gW_in 14 (by decide +kernel) rfl)⟩
theorem fs_End_74 : fS "InterleavedLink$End" 74 2 0 := ⟨"InterleavedLink$End", T_End, 17, cf_End, by decide, Or.inl (gW_in 300 (by decide +kernel) rfl)⟩
theorem fs_End_279 : fS "InterleavedLink$End" 279 12 6 := ⟨"InterleavedLink$Frame", T_Frame, 7, cf_Frame, by decide, Or.inl (gW_in 532 (by decide +kernel) rfl)⟩
theorem fs_End_283 : fS "InterleavedLink$End" 283 7 0 := ⟨"InterleavedLink$Settings", T_Sett, 3, cf_Sett, by decide, Or.inl (gW_in 218 (by decide +kernel) rfl)⟩
theorem cs_End_286 : cV "InterleavedLink$End" 286 uDec_decode 2 := ⟨⟨Or.inl (gW_in 727 (by decide +kernel) rfl), (gW_in 70 (by decide +kernel) rfl), (gW_in 730 (by decide +kernel) rfl), ⟨by decide, by decide⟩, by decide +kernel⟩, (gW_in 728 (by decide +kernel) rfl), (gW_in 729 (by decide +kernel) rfl)⟩
theorem cs_End_301 : cV "InterleavedLink$End" 301 uEnd_putInForce 2 := ⟨⟨Or.inl (gW_in 763 (by decide +kernel) rfl), (gW_in 66 (by decide +kernel) rfl), (gW_in 766 (by decide +kernel) rfl), ⟨by decide, by decide⟩, by decide +kernel⟩, (gW_in 765 (by decide +kernel) rfl), (gW_in 19 (by decide +kernel) rfl)⟩
/-! ===== frames that come: headers, acks ===== -/
def gHd (A : zA) (b : Bool) (e k : Nat) (L : List (Int32 × Int32)) (z : Int32) : Int32 × zA := if zI A (29 + 80 * e + 5 * k) 1 = 0 then gRq (clI A e k) e k L z else if zI A (29 + 80 * e + 5 * k) 1 = 4 then (if zI A (29 + 80 * e + 5 * k) 2 = 0 then (100 + 5, lerr A e 5) else (0, A)) else if zI A (29 + 80 * e + 5 * k) 1 = 3 then (5, rstA A e k 5 0) else if b = false then (0, tkL A e k L z) else (1, rstA A e k 1 0)
theorem decA_P (A : zA) (e : Nat) (lim : Int32) (S : List zS) : zP (decA A e lim S).2 = zP A := by unfold decA; split <;> rfl
theorem decA_L (A : zA) (e : Nat) (lim : Int32) (S : List zS) : zL (decA A e lim S).2 = zL A := by unfold decA; split <;> rfl
theorem ct_decN {X : mX} {l : Launch} {M : mM} {A : zA} {e b : Nat} {S : List zS} {lim : Int32} (hR : RC M A) (he : e < 2) (hX : FX X) (hbk : BlkC 223 M b S) (hnf : nfld S ≤ 6) (hd : (decA A e lim S).1 = none) : Ct X l uDec_decode (rn 3 73 4 22) [.ref (19 + 80 * e), .ref b, .int lim] M (fun r M' => r = some .null ∧ RC M' (decA A e lim S).2 ∧ Chg M M' cP cP) := (ct_decR hR he hX hbk hnf).post fun r M' h => ⟨h.2.2.1 hd, h.1, h.2.1⟩
theorem ct_decS {X : mX} {l : Launch} {M : mM} {A : zA} {e b : Nat} {S : List zS} {lim : Int32} {L : List (Int32 × Int32)} (hR : RC M A) (he : e < 2) (hX : FX X) (hbk : BlkC 223 M b S) (hnf : nfld S ≤ 6) (hd : (decA A e lim S).1 = some L) : Ct X l uDec_decode (rn 3 73 4 22) [.ref (19 + 80 * e), .ref b, .int lim] M (fun r M' => ∃ a, r = some (.ref a) ∧ FlC 223 M' a L ∧ RC M' (decA A e lim S).2 ∧ Chg M M' cP cP) := (ct_decR hR he hX hbk hnf).post fun r M' h => by obtain ⟨a, h1, h2⟩ := h.2.2.2 L hd; exact ⟨a, h1, h2, h.1, h.2.1⟩
set_option maxRecDepth 100000 in
set_option maxHeartbeats 4000000 in
theorem g_gHd_N {X : mX} {l : Launch} {M0 M : mM} {A : zA} {e k a la : Nat} {f : zF} {L : List (Int32 × Int32)} {bc bs : Nat} (hbc : 2 ≤ bc) (hbs : 14 ≤ bs) (hR : RC M A) (hC : Chg M0 M cP cP) (he : e < 2) (hk : k < 12) (hF : FrC M0 a f) (hl : FlC 223 M la L) (hz : zL A e k = none) (hp : (zP A (1 - e)).length ≤ 44) : G X l uEnd_getHeaders (rn 5 104 6 36) bc bs M 63 [some (.ref (9 + 80 * e)), some (.ref a), some (.ref (29 + 80 * e + 5 * k)), some (.ref la)] [] (fun r M' => r = some (.int (gHd A false e k L f.2.2.2.1).1) ∧ RC M' (gHd A false e k L f.2.2.2.1).2 ∧ Chg M0 M' cP cP) := by
  refine G.bud 2 14 hbc hbs ?_
  refine g_aload_n 63 dEnd_getHeaders_63 rfl ?_
  refine g_geti 64 8 1 dEnd_getHeaders_64 fs_End_253 rfl (hR.1.tStr he hk) ?_
  refine g_top _ (hR.sI (sc_S he hk (by omega) (by omega))) ?_
  refine g_if_ne 67 81 dEnd_getHeaders_67 rfl (fun h67 => ?_) (fun h67 => ?_)
  · refine g_aload_n 81 dEnd_getHeaders_81 rfl ?_
    refine g_geti 82 8 1 dEnd_getHeaders_82 fs_End_253 rfl (hR.1.tStr he hk) ?_
    refine g_top _ (hR.sI (sc_S he hk (by omega) (by omega))) ?_
    refine g_iconst 85 4 dEnd_getHeaders_85 rfl ?_
    refine g_icmp_ne 86 106 dEnd_getHeaders_86 rfl (fun h86 => ?_) (fun h86 => ?_)
    · refine g_aload_n 106 dEnd_getHeaders_106 rfl ?_
      refine g_geti 107 8 1 dEnd_getHeaders_107 fs_End_253 rfl (hR.1.tStr he hk) ?_
      refine g_top _ (hR.sI (sc_S he hk (by omega) (by omega))) ?_
      refine g_iconst 110 3 dEnd_getHeaders_110 rfl ?_
      refine g_icmp_ne 111 122 dEnd_getHeaders_111 rfl (fun h111 => ?_) (fun h111 => ?_)
      · refine g_aload_n 122 dEnd_getHeaders_122 rfl ?_
        refine g_getN 123 8 7 dEnd_getHeaders_123 fs_End_266 rfl (hR.1.tStr he hk) (hR.lsN he hk hz) ?_
        refine g_ifnullN 126 137 dEnd_getHeaders_126 rfl ?_
        refine g_aload_n 137 dEnd_getHeaders_137 rfl ?_
        refine g_aload_n 138 dEnd_getHeaders_138 rfl ?_
        refine g_aload_n 139 dEnd_getHeaders_139 rfl ?_
        refine g_aload_n 140 dEnd_getHeaders_140 rfl ?_
        refine g_geti 141 12 3 dEnd_getHeaders_141 fs_End_228 rfl (hF.cg hC).2.2.1 ?_
        refine g_top _ (hF.cg hC).2.2.2.2.2.2.1 ?_
        refine g_callV 144 [_, _, _] dEnd_getHeaders_144 cs_End_294 rfl (ci := 2) rfl (by decide) (hR.1.tEnd he) rfl ⟨(Nat.le_of_ble_eq_true rfl), (Nat.le_of_ble_eq_true rfl)⟩ (Nat.le_of_ble_eq_true rfl) (ct_tkL hR he hk hl) (Nat.le_of_ble_eq_true rfl) (Nat.le_of_ble_eq_true rfl) ?_
        rintro _ M1 ⟨rfl, hR1, hc⟩
        have hC1 := hC.tr hc
        refine g_iconst 147 0 dEnd_getHeaders_147 rfl ?_
        exact g_iret 148 dEnd_getHeaders_148 rfl (by unfold gHd; (try rw [if_pos (rfl : false = false)]); (try rw [if_neg (show ¬ true = false by decide)]); (try rw [if_neg h67]); (try rw [if_neg h86]); (try rw [if_neg h111]); exact ⟨rfl, hR1, hC1⟩)
      · refine g_aload_n 114 dEnd_getHeaders_114 rfl ?_
        refine g_aload_n 115 dEnd_getHeaders_115 rfl ?_
        refine g_iconst 116 5 dEnd_getHeaders_116 rfl ?_
        refine g_iconst 117 0 dEnd_getHeaders_117 rfl ?_
        refine g_callV 118 [_, _, _] dEnd_getHeaders_118 cs_End_262 rfl (ci := 2) rfl (by decide) (hR.1.tEnd he) rfl ⟨(Nat.le_of_ble_eq_true rfl), (Nat.le_of_ble_eq_true rfl)⟩ (Nat.le_of_ble_eq_true rfl) (ct_rstR hR he hk (show (zP A (1 - e)).length ≤ 44 by omega)) (Nat.le_of_ble_eq_true rfl) (Nat.le_of_ble_eq_true rfl) ?_
        rintro _ M1 ⟨rfl, hR1, hc⟩
        have hC1 := hC.tr hc
        exact g_iret 121 dEnd_getHeaders_121 rfl (by unfold gHd; (try rw [if_pos (rfl : false = false)]); (try rw [if_neg (show ¬ true = false by decide)]); (try rw [if_neg h67]); (try rw [if_neg h86]); (try rw [if_pos h111]); exact ⟨rfl, hR1, hC1⟩)
    · refine g_aload_n 89 dEnd_getHeaders_89 rfl ?_
      refine g_geti 90 8 2 dEnd_getHeaders_90 fs_End_259 rfl (hR.1.tStr he hk) ?_
      refine g_top _ (hR.sI (sc_S he hk (by omega) (by omega))) ?_
      refine g_if_eq 93 100 dEnd_getHeaders_93 rfl (fun h93 => ?_) (fun h93 => ?_)
      · refine g_aload_n 100 dEnd_getHeaders_100 rfl ?_
        refine g_iconst 101 5 dEnd_getHeaders_101 rfl ?_
        refine g_callV 102 [_] dEnd_getHeaders_102 cs_End_256 rfl (ci := 2) rfl (by decide) (hR.1.tEnd he) rfl ⟨(Nat.le_of_ble_eq_true rfl), (Nat.le_of_ble_eq_true rfl)⟩ (Nat.le_of_ble_eq_true rfl) (ct_lerrR hR he (show (zP A (1 - e)).length < 47 by omega)) (Nat.le_of_ble_eq_true rfl) (Nat.le_of_ble_eq_true rfl) ?_
        rintro _ M1 ⟨rfl, hR1, hc⟩
        have hC1 := hC.tr hc
        exact g_iret 105 dEnd_getHeaders_105 rfl (by unfold gHd; (try rw [if_pos (rfl : false = false)]); (try rw [if_neg (show ¬ true = false by decide)]); (try rw [if_neg h67]); (try rw [if_pos h86]); (try rw [if_pos h93]); exact ⟨rfl, hR1, hC1⟩)
      · refine g_iconst 96 0 dEnd_getHeaders_96 rfl ?_
        refine g_goto 97 105 dEnd_getHeaders_97 rfl ?_
        exact g_iret 105 dEnd_getHeaders_105 rfl (by unfold gHd; (try rw [if_pos (rfl : false = false)]); (try rw [if_neg (show ¬ true = false by decide)]); (try rw [if_neg h67]); (try rw [if_pos h86]); (try rw [if_neg h93]); exact ⟨rfl, hR, hC⟩)
  · refine g_aload_n 70 dEnd_getHeaders_70 rfl ?_
    refine g_aload_n 71 dEnd_getHeaders_71 rfl ?_
    refine g_aload_n 72 dEnd_getHeaders_72 rfl ?_
    refine g_aload_n 73 dEnd_getHeaders_73 rfl ?_
    refine g_geti 74 12 3 dEnd_getHeaders_74 fs_End_228 rfl (hF.cg hC).2.2.1 ?_
    refine g_top _ (hF.cg hC).2.2.2.2.2.2.1 ?_
    refine g_callV 77 [_, _, _] dEnd_getHeaders_77 cs_End_290 rfl (ci := 2) rfl (by decide) (hR.1.tEnd he) rfl ⟨(Nat.le_of_ble_eq_true rfl), (Nat.le_of_ble_eq_true rfl)⟩ (Nat.le_of_ble_eq_true rfl) (ct_gRq hR he hk hl hp) (Nat.le_of_ble_eq_true rfl) (Nat.le_of_ble_eq_true rfl) ?_
    rintro _ M1 ⟨rfl, hR1, hc⟩
    have hC1 := hC.tr hc
    exact g_iret 80 dEnd_getHeaders_80 rfl (by unfold gHd; (try rw [if_pos (rfl : false = false)]); (try rw [if_neg (show ¬ true = false by decide)]); (try rw [if_pos h67]); exact ⟨rfl, hR1, hC1⟩)
set_option maxRecDepth 100000 in
set_option maxHeartbeats 4000000 in
theorem g_gHd_L {X : mX} {l : Launch} {M0 M : mM} {A : zA} {e k a la : Nat} {f : zF} {L L0 : List (Int32 × Int32)} {bc bs : Nat} (hbc : 2 ≤ bc) (hbs : 14 ≤ bs) (hR : RC M A) (hC : Chg M0 M cP cP) (he : e < 2) (hk : k < 12) (hF : FrC M0 a f) (hl : FlC 223 M la L) (hz : zL A e k = some L0) (hp : (zP A (1 - e)).length ≤ 44) : G X l uEnd_getHeaders (rn 5 104 6 36) bc bs M 63 [some (.ref (9 + 80 * e)), some (.ref a), some (.ref (29 + 80 * e + 5 * k)), some (.ref la)] [] (fun r M' => r = some (.int (gHd A true e k L f.2.2.2.1).1) ∧ RC M' (gHd A true e k L f.2.2.2.1).2 ∧ Chg M0 M' cP cP) := by
  refine G.bud 2 14 hbc hbs ?_
  refine g_aload_n 63 dEnd_getHeaders_63 rfl ?_
  refine g_geti 64 8 1 dEnd_getHeaders_64 fs_End_253 rfl (hR.1.tStr he hk) ?_
  refine g_top _ (hR.sI (sc_S he hk (by omega) (by omega))) ?_
  refine g_if_ne 67 81 dEnd_getHeaders_67 rfl (fun h67 => ?_) (fun h67 => ?_)
  · refine g_aload_n 81 dEnd_getHeaders_81 rfl ?_
    refine g_geti 82 8 1 dEnd_getHeaders_82 fs_End_253 rfl (hR.1.tStr he hk) ?_
    refine g_top _ (hR.sI (sc_S he hk (by omega) (by omega))) ?_
    refine g_iconst 85 4 dEnd_getHeaders_85 rfl ?_
    refine g_icmp_ne 86 106 dEnd_getHeaders_86 rfl (fun h86 => ?_) (fun h86 => ?_)
    · refine g_aload_n 106 dEnd_getHeaders_106 rfl ?_
      refine g_geti 107 8 1 dEnd_getHeaders_107 fs_End_253 rfl (hR.1.tStr he hk) ?_
      refine g_top _ (hR.sI (sc_S he hk (by omega) (by omega))) ?_
      refine g_iconst 110 3 dEnd_getHeaders_110 rfl ?_
      refine g_icmp_ne 111 122 dEnd_getHeaders_111 rfl (fun h111 => ?_) (fun h111 => ?_)
      · obtain ⟨lb, hlb, _⟩ := hR.lsS he hk hz
        refine g_aload_n 122 dEnd_getHeaders_122 rfl ?_
        refine g_getr 123 8 7 dEnd_getHeaders_123 fs_End_266 rfl (hR.1.tStr he hk) hlb ?_
        refine g_ifnull 126 dEnd_getHeaders_126 ?_
        refine g_aload_n 129 dEnd_getHeaders_129 rfl ?_
        refine g_aload_n 130 dEnd_getHeaders_130 rfl ?_
        refine g_iconst 131 1 dEnd_getHeaders_131 rfl ?_
        refine g_iconst 132 0 dEnd_getHeaders_132 rfl ?_
        refine g_callV 133 [_, _, _] dEnd_getHeaders_133 cs_End_262 rfl (ci := 2) rfl (by decide) (hR.1.tEnd he) rfl ⟨(Nat.le_of_ble_eq_true rfl), (Nat.le_of_ble_eq_true rfl)⟩ (Nat.le_of_ble_eq_true rfl) (ct_rstR hR he hk (show (zP A (1 - e)).length ≤ 44 by omega)) (Nat.le_of_ble_eq_true rfl) (Nat.le_of_ble_eq_true rfl) ?_
        rintro _ M1 ⟨rfl, hR1, hc⟩
        have hC1 := hC.tr hc
        exact g_iret 136 dEnd_getHeaders_136 rfl (by unfold gHd; (try rw [if_pos (rfl : false = false)]); (try rw [if_neg (show ¬ true = false by decide)]); (try rw [if_neg h67]); (try rw [if_neg h86]); (try rw [if_neg h111]); exact ⟨rfl, hR1, hC1⟩)
      · refine g_aload_n 114 dEnd_getHeaders_114 rfl ?_
        refine g_aload_n 115 dEnd_getHeaders_115 rfl ?_
        refine g_iconst 116 5 dEnd_getHeaders_116 rfl ?_
        refine g_iconst 117 0 dEnd_getHeaders_117 rfl ?_
        refine g_callV 118 [_, _, _] dEnd_getHeaders_118 cs_End_262 rfl (ci := 2) rfl (by decide) (hR.1.tEnd he) rfl ⟨(Nat.le_of_ble_eq_true rfl), (Nat.le_of_ble_eq_true rfl)⟩ (Nat.le_of_ble_eq_true rfl) (ct_rstR hR he hk (show (zP A (1 - e)).length ≤ 44 by omega)) (Nat.le_of_ble_eq_true rfl) (Nat.le_of_ble_eq_true rfl) ?_
        rintro _ M1 ⟨rfl, hR1, hc⟩
        have hC1 := hC.tr hc
        exact g_iret 121 dEnd_getHeaders_121 rfl (by unfold gHd; (try rw [if_pos (rfl : false = false)]); (try rw [if_neg (show ¬ true = false by decide)]); (try rw [if_neg h67]); (try rw [if_neg h86]); (try rw [if_pos h111]); exact ⟨rfl, hR1, hC1⟩)
    · refine g_aload_n 89 dEnd_getHeaders_89 rfl ?_
      refine g_geti 90 8 2 dEnd_getHeaders_90 fs_End_259 rfl (hR.1.tStr he hk) ?_
      refine g_top _ (hR.sI (sc_S he hk (by omega) (by omega))) ?_
      refine g_if_eq 93 100 dEnd_getHeaders_93 rfl (fun h93 => ?_) (fun h93 => ?_)
      · refine g_aload_n 100 dEnd_getHeaders_100 rfl ?_
        refine g_iconst 101 5 dEnd_getHeaders_101 rfl ?_
        refine g_callV 102 [_] dEnd_getHeaders_102 cs_End_256 rfl (ci := 2) rfl (by decide) (hR.1.tEnd he) rfl ⟨(Nat.le_of_ble_eq_true rfl), (Nat.le_of_ble_eq_true rfl)⟩ (Nat.le_of_ble_eq_true rfl) (ct_lerrR hR he (show (zP A (1 - e)).length < 47 by omega)) (Nat.le_of_ble_eq_true rfl) (Nat.le_of_ble_eq_true rfl) ?_
        rintro _ M1 ⟨rfl, hR1, hc⟩
        have hC1 := hC.tr hc
        exact g_iret 105 dEnd_getHeaders_105 rfl (by unfold gHd; (try rw [if_pos (rfl : false = false)]); (try rw [if_neg (show ¬ true = false by decide)]); (try rw [if_neg h67]); (try rw [if_pos h86]); (try rw [if_pos h93]); exact ⟨rfl, hR1, hC1⟩)
      · refine g_iconst 96 0 dEnd_getHeaders_96 rfl ?_
        refine g_goto 97 105 dEnd_getHeaders_97 rfl ?_
        exact g_iret 105 dEnd_getHeaders_105 rfl (by unfold gHd; (try rw [if_pos (rfl : false = false)]); (try rw [if_neg (show ¬ true = false by decide)]); (try rw [if_neg h67]); (try rw [if_pos h86]); (try rw [if_neg h93]); exact ⟨rfl, hR, hC⟩)
  · refine g_aload_n 70 dEnd_getHeaders_70 rfl ?_
    refine g_aload_n 71 dEnd_getHeaders_71 rfl ?_
    refine g_aload_n 72 dEnd_getHeaders_72 rfl ?_
    refine g_aload_n 73 dEnd_getHeaders_73 rfl ?_
    refine g_geti 74 12 3 dEnd_getHeaders_74 fs_End_228 rfl (hF.cg hC).2.2.1 ?_
    refine g_top _ (hF.cg hC).2.2.2.2.2.2.1 ?_
    refine g_callV 77 [_, _, _] dEnd_getHeaders_77 cs_End_290 rfl (ci := 2) rfl (by decide) (hR.1.tEnd he) rfl ⟨(Nat.le_of_ble_eq_true rfl), (Nat.le_of_ble_eq_true rfl)⟩ (Nat.le_of_ble_eq_true rfl) (ct_gRq hR he hk hl hp) (Nat.le_of_ble_eq_true rfl) (Nat.le_of_ble_eq_true rfl) ?_
    rintro _ M1 ⟨rfl, hR1, hc⟩
    have hC1 := hC.tr hc
    exact g_iret 80 dEnd_getHeaders_80 rfl (by unfold gHd; (try rw [if_pos (rfl : false = false)]); (try rw [if_neg (show ¬ true = false by decide)]); (try rw [if_pos h67]); exact ⟨rfl, hR1, hC1⟩)
set_option maxRecDepth 100000 in
set_option maxHeartbeats 4000000 in
theorem ct_gHd_no {X : mX} {l : Launch} {M : mM} {A : zA} {e : Nat} (hR : RC M A) (he : e < 2) {a : Nat} {f : zF} (hF : FrC M a f) (hfs : ¬ isStr f.2.1) (hp : (zP A (1 - e)).length ≤ 44) : Ct X l uEnd_getHeaders (rn 5 104 6 36) [.ref (9 + 80 * e), .ref a] M (fun r M' => r = some (.int (100 + 1)) ∧ RC M' (lerr A e 1) ∧ Chg M M' cP cP) := by
  refine Ct.of (by decide) (Nat.le_of_ble_eq_true rfl) ?_
  show G X l uEnd_getHeaders (rn 5 104 6 36) 6 36 M 0 [some (.ref (9 + 80 * e)), some (.ref a), none, none] [] _
  have hC : Chg M M cP cP := Chg.rf
  refine g_aload_n 0 dEnd_getHeaders_0 rfl ?_
  refine g_aload_n 1 dEnd_getHeaders_1 rfl ?_
  refine g_geti 2 12 1 dEnd_getHeaders_2 fs_End_243 rfl (hF.cg hC).2.2.1 ?_
  refine g_top _ (hF.cg hC).2.2.2.2.1 ?_
  refine g_callV 5 [_] dEnd_getHeaders_5 cs_End_106 rfl (ci := 2) rfl (by decide) (hR.1.tEnd he) rfl ⟨(Nat.le_of_ble_eq_true rfl), (Nat.le_of_ble_eq_true rfl)⟩ (Nat.le_of_ble_eq_true rfl) (ct_End_streamOf_no hR.1 he hfs) (Nat.le_of_ble_eq_true rfl) (Nat.le_of_ble_eq_true rfl) ?_
  rintro _ M2 ⟨rfl, hM2⟩
  rw [hM2]
  clear hM2 M2
  refine g_astore_nN 8 dEnd_getHeaders_8 (by decide) rfl ?_
  refine g_aload_nN 9 dEnd_getHeaders_9 rfl ?_
  refine g_ifnullN 10 27 dEnd_getHeaders_10 rfl ?_
  refine g_aload_n 27 dEnd_getHeaders_27 rfl ?_
  refine g_iconst 28 1 dEnd_getHeaders_28 rfl ?_
  refine g_callV 29 [_] dEnd_getHeaders_29 cs_End_256 rfl (ci := 2) rfl (by decide) (hR.1.tEnd he) rfl ⟨(Nat.le_of_ble_eq_true rfl), (Nat.le_of_ble_eq_true rfl)⟩ (Nat.le_of_ble_eq_true rfl) (ct_lerrR hR he (show (zP A (1 - e)).length < 47 by omega)) (Nat.le_of_ble_eq_true rfl) (Nat.le_of_ble_eq_true rfl) ?_
  rintro _ M1 ⟨rfl, hR1, hc⟩
  have hC1 := hC.tr hc
  exact g_iret 32 dEnd_getHeaders_32 rfl ⟨rfl, hR1, hC1⟩

set_option maxRecDepth 100000 in
set_option maxHeartbeats 4000000 in
theorem ct_gHd_id {X : mX} {l : Launch} {M : mM} {A : zA} {e k : Nat} (hR : RC M A) (he : e < 2) (hk : k < 12) {a : Nat} {f : zF} (hF : FrC M a f) (hfs : f.2.1 = nI (2 * k + 1)) (hp : (zP A (1 - e)).length ≤ 44) (h0 : e = 0) (hs0 : zI A (29 + 80 * e + 5 * k) 1 = 0) : Ct X l uEnd_getHeaders (rn 5 104 6 36) [.ref (9 + 80 * e), .ref a] M (fun r M' => r = some (.int (100 + 1)) ∧ RC M' (lerr A e 1) ∧ Chg M M' cP cP) := by
  refine Ct.of (by decide) (Nat.le_of_ble_eq_true rfl) ?_
  show G X l uEnd_getHeaders (rn 5 104 6 36) 6 36 M 0 [some (.ref (9 + 80 * e)), some (.ref a), none, none] [] _
  have hC : Chg M M cP cP := Chg.rf
  refine g_aload_n 0 dEnd_getHeaders_0 rfl ?_
  refine g_aload_n 1 dEnd_getHeaders_1 rfl ?_
  refine g_geti 2 12 1 dEnd_getHeaders_2 fs_End_243 rfl (hF.cg hC).2.2.1 ?_
  refine g_top _ (hF.cg hC).2.2.2.2.1 ?_
  refine g_top (nI ((2 * k + 1))) (hfs) ?_
  refine g_callV 5 [_] dEnd_getHeaders_5 cs_End_106 rfl (ci := 2) rfl (by decide) (hR.1.tEnd he) rfl ⟨(Nat.le_of_ble_eq_true rfl), (Nat.le_of_ble_eq_true rfl)⟩ (Nat.le_of_ble_eq_true rfl) (ct_End_streamOf hR.1 he hk) (Nat.le_of_ble_eq_true rfl) (Nat.le_of_ble_eq_true rfl) ?_
  rintro _ M2 ⟨rfl, hM2⟩
  rw [hM2]
  clear hM2 M2
  refine g_astore_n 8 dEnd_getHeaders_8 (by decide) rfl ?_
  refine g_aload_n 9 dEnd_getHeaders_9 rfl ?_
  refine g_ifnull 10 dEnd_getHeaders_10 ?_
  refine g_aload_n 13 dEnd_getHeaders_13 rfl ?_
  refine g_geti 14 2 0 dEnd_getHeaders_14 fs_End_74 rfl (hR.1.tEnd he) ?_
  refine g_top _ (hR.fix0 he) ?_
  refine g_if_eqN 17 33 dEnd_getHeaders_17 rfl (by omega) (fun h17 => ?_) (fun h17 => ?_)
  · exact absurd h17 (by omega)
  · refine g_aload_n 20 dEnd_getHeaders_20 rfl ?_
    refine g_geti 21 8 1 dEnd_getHeaders_21 fs_End_253 rfl (hR.1.tStr he hk) ?_
    refine g_top _ (hR.sI (sc_S he hk (by omega) (by omega))) ?_
    refine g_if_ne 24 33 dEnd_getHeaders_24 rfl (fun h24 => ?_) (fun h24 => ?_)
    · exact absurd hs0 h24
    · refine g_aload_n 27 dEnd_getHeaders_27 rfl ?_
      refine g_iconst 28 1 dEnd_getHeaders_28 rfl ?_
      refine g_callV 29 [_] dEnd_getHeaders_29 cs_End_256 rfl (ci := 2) rfl (by decide) (hR.1.tEnd he) rfl ⟨(Nat.le_of_ble_eq_true rfl), (Nat.le_of_ble_eq_true rfl)⟩ (Nat.le_of_ble_eq_true rfl) (ct_lerrR hR he (show (zP A (1 - e)).length < 47 by omega)) (Nat.le_of_ble_eq_true rfl) (Nat.le_of_ble_eq_true rfl) ?_
      rintro _ M1 ⟨rfl, hR1, hc⟩
      have hC1 := hC.tr hc
      exact g_iret 32 dEnd_getHeaders_32 rfl ⟨rfl, hR1, hC1⟩

set_option maxRecDepth 100000 in
set_option maxHeartbeats 4000000 in
theorem ct_gHd_bad {X : mX} {l : Launch} {M : mM} {A : zA} {e k : Nat} (hR : RC M A) (he : e < 2) (hk : k < 12) {a : Nat} {f : zF} (hF : FrC M a f) (hfs : f.2.1 = nI (2 * k + 1)) (hp : (zP A (1 - e)).length ≤ 44) (hX : FX X) (h1 : f.1 = 1) (hnf : nfld f.2.2.2.2.2.2 ≤ 6) (hid : ¬ (e = 0 ∧ zI A (29 + 80 * e + 5 * k) 1 = 0)) (hd : (decA A e (zI A (26 + 80 * e) 0) f.2.2.2.2.2.2).1 = none) : Ct X l uEnd_getHeaders (rn 5 104 6 36) [.ref (9 + 80 * e), .ref a] M (fun r M' => r = some (.int (100 + 9)) ∧ RC M' (lerr (decA A e (zI A (26 + 80 * e) 0) f.2.2.2.2.2.2).2 e 9) ∧ Chg M M' cP cP) := by
  refine Ct.of (by decide) (Nat.le_of_ble_eq_true rfl) ?_
  show G X l uEnd_getHeaders (rn 5 104 6 36) 6 36 M 0 [some (.ref (9 + 80 * e)), some (.ref a), none, none] [] _
  have hC : Chg M M cP cP := Chg.rf
  obtain ⟨b, hb, hbk⟩ := hF.2.2.2.2.2.2.2.2.2 h1
  refine g_aload_n 0 dEnd_getHeaders_0 rfl ?_
  refine g_aload_n 1 dEnd_getHeaders_1 rfl ?_
  refine g_geti 2 12 1 dEnd_getHeaders_2 fs_End_243 rfl (hF.cg hC).2.2.1 ?_
  refine g_top _ (hF.cg hC).2.2.2.2.1 ?_
  refine g_top (nI ((2 * k + 1))) (hfs) ?_
  refine g_callV 5 [_] dEnd_getHeaders_5 cs_End_106 rfl (ci := 2) rfl (by decide) (hR.1.tEnd he) rfl ⟨(Nat.le_of_ble_eq_true rfl), (Nat.le_of_ble_eq_true rfl)⟩ (Nat.le_of_ble_eq_true rfl) (ct_End_streamOf hR.1 he hk) (Nat.le_of_ble_eq_true rfl) (Nat.le_of_ble_eq_true rfl) ?_
  rintro _ M2 ⟨rfl, hM2⟩
  rw [hM2]
  clear hM2 M2
  refine g_astore_n 8 dEnd_getHeaders_8 (by decide) rfl ?_
  refine g_aload_n 9 dEnd_getHeaders_9 rfl ?_
  refine g_ifnull 10 dEnd_getHeaders_10 ?_
  refine g_aload_n 13 dEnd_getHeaders_13 rfl ?_
  refine g_geti 14 2 0 dEnd_getHeaders_14 fs_End_74 rfl (hR.1.tEnd he) ?_
  refine g_top _ (hR.fix0 he) ?_
  refine g_if_eqN 17 33 dEnd_getHeaders_17 rfl (by omega) (fun h17 => ?_) (fun h17 => ?_)
  · refine g_aload_n 33 dEnd_getHeaders_33 rfl ?_
    refine g_getr 34 2 8 dEnd_getHeaders_34 fs_End_38 rfl (hR.1.tEnd he) (hR.1.rEnd8 he) ?_
    refine g_aload_n 37 dEnd_getHeaders_37 rfl ?_
    refine g_getr 38 12 6 dEnd_getHeaders_38 fs_End_279 rfl (hF.cg hC).2.2.1 hb ?_
    refine g_aload_n 41 dEnd_getHeaders_41 rfl ?_
    refine g_getr 42 2 11 dEnd_getHeaders_42 fs_End_55 rfl (hR.1.tEnd he) (hR.1.rEnd11 he) ?_
    refine g_geti 45 7 0 dEnd_getHeaders_45 fs_End_283 rfl (hR.1.tForce he) ?_
    refine g_top _ (hR.sI (sc_F he (by omega))) ?_
    refine g_callV 48 [_, _] dEnd_getHeaders_48 cs_End_286 rfl (ci := 6) rfl (by decide) (hR.1.tDec he) rfl ⟨(Nat.le_of_ble_eq_true rfl), (Nat.le_of_ble_eq_true rfl)⟩ (Nat.le_of_ble_eq_true rfl) (ct_decN hR he hX hbk hnf hd) (Nat.le_of_ble_eq_true rfl) (Nat.le_of_ble_eq_true rfl) ?_
    rintro _ M1 ⟨rfl, hR1, hc⟩
    have hC1 := hC.tr hc
    refine g_astore_nN 51 dEnd_getHeaders_51 (by decide) rfl ?_
    refine g_aload_nN 52 dEnd_getHeaders_52 rfl ?_
    refine g_ifnonnullN 53 dEnd_getHeaders_53 ?_
    refine g_aload_n 56 dEnd_getHeaders_56 rfl ?_
    refine g_bipush 57 9 dEnd_getHeaders_57 rfl ?_
    refine g_callV 59 [_] dEnd_getHeaders_59 cs_End_256 rfl (ci := 2) rfl (by decide) (hR1.1.tEnd he) rfl ⟨(Nat.le_of_ble_eq_true rfl), (Nat.le_of_ble_eq_true rfl)⟩ (Nat.le_of_ble_eq_true rfl) (ct_lerrR hR1 he (by rw [decA_P]; omega)) (Nat.le_of_ble_eq_true rfl) (Nat.le_of_ble_eq_true rfl) ?_
    rintro _ M2 ⟨rfl, hR2, hc⟩
    have hC2 := hC1.tr hc
    exact g_iret 62 dEnd_getHeaders_62 rfl (by (try rw [if_pos h17]); exact ⟨rfl, hR2, hC2⟩)
  · refine g_aload_n 20 dEnd_getHeaders_20 rfl ?_
    refine g_geti 21 8 1 dEnd_getHeaders_21 fs_End_253 rfl (hR.1.tStr he hk) ?_
    refine g_top _ (hR.sI (sc_S he hk (by omega) (by omega))) ?_
    refine g_if_ne 24 33 dEnd_getHeaders_24 rfl (fun h24 => ?_) (fun h24 => ?_)
    · refine g_aload_n 33 dEnd_getHeaders_33 rfl ?_
      refine g_getr 34 2 8 dEnd_getHeaders_34 fs_End_38 rfl (hR.1.tEnd he) (hR.1.rEnd8 he) ?_
      refine g_aload_n 37 dEnd_getHeaders_37 rfl ?_
      refine g_getr 38 12 6 dEnd_getHeaders_38 fs_End_279 rfl (hF.cg hC).2.2.1 hb ?_
      refine g_aload_n 41 dEnd_getHeaders_41 rfl ?_
      refine g_getr 42 2 11 dEnd_getHeaders_42 fs_End_55 rfl (hR.1.tEnd he) (hR.1.rEnd11 he) ?_
      refine g_geti 45 7 0 dEnd_getHeaders_45 fs_End_283 rfl (hR.1.tForce he) ?_
      refine g_top _ (hR.sI (sc_F he (by omega))) ?_
      refine g_callV 48 [_, _] dEnd_getHeaders_48 cs_End_286 rfl (ci := 6) rfl (by decide) (hR.1.tDec he) rfl ⟨(Nat.le_of_ble_eq_true rfl), (Nat.le_of_ble_eq_true rfl)⟩ (Nat.le_of_ble_eq_true rfl) (ct_decN hR he hX hbk hnf hd) (Nat.le_of_ble_eq_true rfl) (Nat.le_of_ble_eq_true rfl) ?_
      rintro _ M1 ⟨rfl, hR1, hc⟩
      have hC1 := hC.tr hc
      refine g_astore_nN 51 dEnd_getHeaders_51 (by decide) rfl ?_
      refine g_aload_nN 52 dEnd_getHeaders_52 rfl ?_
      refine g_ifnonnullN 53 dEnd_getHeaders_53 ?_
      refine g_aload_n 56 dEnd_getHeaders_56 rfl ?_
      refine g_bipush 57 9 dEnd_getHeaders_57 rfl ?_
      refine g_callV 59 [_] dEnd_getHeaders_59 cs_End_256 rfl (ci := 2) rfl (by decide) (hR1.1.tEnd he) rfl ⟨(Nat.le_of_ble_eq_true rfl), (Nat.le_of_ble_eq_true rfl)⟩ (Nat.le_of_ble_eq_true rfl) (ct_lerrR hR1 he (by rw [decA_P]; omega)) (Nat.le_of_ble_eq_true rfl) (Nat.le_of_ble_eq_true rfl) ?_
      rintro _ M2 ⟨rfl, hR2, hc⟩
      have hC2 := hC1.tr hc
      exact g_iret 62 dEnd_getHeaders_62 rfl (by (try rw [if_neg h17]); exact ⟨rfl, hR2, hC2⟩)
    · exact absurd ⟨by omega, h24⟩ hid

set_option maxRecDepth 100000 in
set_option maxHeartbeats 4000000 in
theorem ct_gHd_N {X : mX} {l : Launch} {M : mM} {A : zA} {e k : Nat} (hR : RC M A) (he : e < 2) (hk : k < 12) {a : Nat} {f : zF} (hF : FrC M a f) (hfs : f.2.1 = nI (2 * k + 1)) (hp : (zP A (1 - e)).length ≤ 44) (hX : FX X) (h1 : f.1 = 1) (hnf : nfld f.2.2.2.2.2.2 ≤ 6) (hid : ¬ (e = 0 ∧ zI A (29 + 80 * e + 5 * k) 1 = 0)) {L : List (Int32 × Int32)} (hd : (decA A e (zI A (26 + 80 * e) 0) f.2.2.2.2.2.2).1 = some L) (hz : zL A e k = none) : Ct X l uEnd_getHeaders (rn 5 104 6 36) [.ref (9 + 80 * e), .ref a] M (fun r M' => r = some (.int (gHd (decA A e (zI A (26 + 80 * e) 0) f.2.2.2.2.2.2).2 false e k L f.2.2.2.1).1) ∧ RC M' (gHd (decA A e (zI A (26 + 80 * e) 0) f.2.2.2.2.2.2).2 false e k L f.2.2.2.1).2 ∧ Chg M M' cP cP) := by
  refine Ct.of (by decide) (Nat.le_of_ble_eq_true rfl) ?_
  show G X l uEnd_getHeaders (rn 5 104 6 36) 6 36 M 0 [some (.ref (9 + 80 * e)), some (.ref a), none, none] [] _
  have hC : Chg M M cP cP := Chg.rf
  obtain ⟨b, hb, hbk⟩ := hF.2.2.2.2.2.2.2.2.2 h1
  refine g_aload_n 0 dEnd_getHeaders_0 rfl ?_
  refine g_aload_n 1 dEnd_getHeaders_1 rfl ?_
  refine g_geti 2 12 1 dEnd_getHeaders_2 fs_End_243 rfl (hF.cg hC).2.2.1 ?_
  refine g_top _ (hF.cg hC).2.2.2.2.1 ?_
  refine g_top (nI ((2 * k + 1))) (hfs) ?_
  refine g_callV 5 [_] dEnd_getHeaders_5 cs_End_106 rfl (ci := 2) rfl (by decide) (hR.1.tEnd he) rfl ⟨(Nat.le_of_ble_eq_true rfl), (Nat.le_of_ble_eq_true rfl)⟩ (Nat.le_of_ble_eq_true rfl) (ct_End_streamOf hR.1 he hk) (Nat.le_of_ble_eq_true rfl) (Nat.le_of_ble_eq_true rfl) ?_
  rintro _ M2 ⟨rfl, hM2⟩
  rw [hM2]
  clear hM2 M2
  refine g_astore_n 8 dEnd_getHeaders_8 (by decide) rfl ?_
  refine g_aload_n 9 dEnd_getHeaders_9 rfl ?_
  refine g_ifnull 10 dEnd_getHeaders_10 ?_
  refine g_aload_n 13 dEnd_getHeaders_13 rfl ?_
  refine g_geti 14 2 0 dEnd_getHeaders_14 fs_End_74 rfl (hR.1.tEnd he) ?_
  refine g_top _ (hR.fix0 he) ?_
  refine g_if_eqN 17 33 dEnd_getHeaders_17 rfl (by omega) (fun h17 => ?_) (fun h17 => ?_)
  · refine g_aload_n 33 dEnd_getHeaders_33 rfl ?_
    refine g_getr 34 2 8 dEnd_getHeaders_34 fs_End_38 rfl (hR.1.tEnd he) (hR.1.rEnd8 he) ?_
    refine g_aload_n 37 dEnd_getHeaders_37 rfl ?_
    refine g_getr 38 12 6 dEnd_getHeaders_38 fs_End_279 rfl (hF.cg hC).2.2.1 hb ?_
    refine g_aload_n 41 dEnd_getHeaders_41 rfl ?_
    refine g_getr 42 2 11 dEnd_getHeaders_42 fs_End_55 rfl (hR.1.tEnd he) (hR.1.rEnd11 he) ?_
    refine g_geti 45 7 0 dEnd_getHeaders_45 fs_End_283 rfl (hR.1.tForce he) ?_
    refine g_top _ (hR.sI (sc_F he (by omega))) ?_
    refine g_callV 48 [_, _] dEnd_getHeaders_48 cs_End_286 rfl (ci := 6) rfl (by decide) (hR.1.tDec he) rfl ⟨(Nat.le_of_ble_eq_true rfl), (Nat.le_of_ble_eq_true rfl)⟩ (Nat.le_of_ble_eq_true rfl) (ct_decS hR he hX hbk hnf hd) (Nat.le_of_ble_eq_true rfl) (Nat.le_of_ble_eq_true rfl) ?_
    rintro _ M1 ⟨la, rfl, hl, hR1, hc⟩
    have hC1 := hC.tr hc
    refine g_astore_n 51 dEnd_getHeaders_51 (by decide) rfl ?_
    refine g_aload_n 52 dEnd_getHeaders_52 rfl ?_
    refine g_ifnonnull 53 63 dEnd_getHeaders_53 rfl ?_
    exact g_gHd_N (Nat.le_of_ble_eq_true rfl) (Nat.le_of_ble_eq_true rfl) hR1 hC1 he hk hF hl (by rw [decA_L]; exact hz) (by rw [decA_P]; exact hp)
  · refine g_aload_n 20 dEnd_getHeaders_20 rfl ?_
    refine g_geti 21 8 1 dEnd_getHeaders_21 fs_End_253 rfl (hR.1.tStr he hk) ?_
    refine g_top _ (hR.sI (sc_S he hk (by omega) (by omega))) ?_
    refine g_if_ne 24 33 dEnd_getHeaders_24 rfl (fun h24 => ?_) (fun h24 => ?_)
    · refine g_aload_n 33 dEnd_getHeaders_33 rfl ?_
      refine g_getr 34 2 8 dEnd_getHeaders_34 fs_End_38 rfl (hR.1.tEnd he) (hR.1.rEnd8 he) ?_
      refine g_aload_n 37 dEnd_getHeaders_37 rfl ?_
      refine g_getr 38 12 6 dEnd_getHeaders_38 fs_End_279 rfl (hF.cg hC).2.2.1 hb ?_
      refine g_aload_n 41 dEnd_getHeaders_41 rfl ?_
      refine g_getr 42 2 11 dEnd_getHeaders_42 fs_End_55 rfl (hR.1.tEnd he) (hR.1.rEnd11 he) ?_
      refine g_geti 45 7 0 dEnd_getHeaders_45 fs_End_283 rfl (hR.1.tForce he) ?_
      refine g_top _ (hR.sI (sc_F he (by omega))) ?_
      refine g_callV 48 [_, _] dEnd_getHeaders_48 cs_End_286 rfl (ci := 6) rfl (by decide) (hR.1.tDec he) rfl ⟨(Nat.le_of_ble_eq_true rfl), (Nat.le_of_ble_eq_true rfl)⟩ (Nat.le_of_ble_eq_true rfl) (ct_decS hR he hX hbk hnf hd) (Nat.le_of_ble_eq_true rfl) (Nat.le_of_ble_eq_true rfl) ?_
      rintro _ M1 ⟨la, rfl, hl, hR1, hc⟩
      have hC1 := hC.tr hc
      refine g_astore_n 51 dEnd_getHeaders_51 (by decide) rfl ?_
      refine g_aload_n 52 dEnd_getHeaders_52 rfl ?_
      refine g_ifnonnull 53 63 dEnd_getHeaders_53 rfl ?_
      exact g_gHd_N (Nat.le_of_ble_eq_true rfl) (Nat.le_of_ble_eq_true rfl) hR1 hC1 he hk hF hl (by rw [decA_L]; exact hz) (by rw [decA_P]; exact hp)
    · exact absurd ⟨by omega, h24⟩ hid

set_option maxRecDepth 100000 in
set_option maxHeartbeats 4000000 in
theorem ct_gHd_L {X : mX} {l : Launch} {M : mM} {A : zA} {e k : Nat} (hR : RC M A) (he : e < 2) (hk : k < 12) {a : Nat} {f : zF} (hF : FrC M a f) (hfs : f.2.1 = nI (2 * k + 1)) (hp : (zP A (1 - e)).length ≤ 44) (hX : FX X) (h1 : f.1 = 1) (hnf : nfld f.2.2.2.2.2.2 ≤ 6) (hid : ¬ (e = 0 ∧ zI A (29 + 80 * e + 5 * k) 1 = 0)) {L L0 : List (Int32 × Int32)} (hd : (decA A e (zI A (26 + 80 * e) 0) f.2.2.2.2.2.2).1 = some L) (hz : zL A e k = some L0) : Ct X l uEnd_getHeaders (rn 5 104 6 36) [.ref (9 + 80 * e), .ref a] M (fun r M' => r = some (.int (gHd (decA A e (zI A (26 + 80 * e) 0) f.2.2.2.2.2.2).2 true e k L f.2.2.2.1).1) ∧ RC M' (gHd (decA A e (zI A (26 + 80 * e) 0) f.2.2.2.2.2.2).2 true e k L f.2.2.2.1).2 ∧ Chg M M' cP cP) := by
  refine Ct.of (by decide) (Nat.le_of_ble_eq_true rfl) ?_
  show G X l uEnd_getHeaders (rn 5 104 6 36) 6 36 M 0 [some (.ref (9 + 80 * e)), some (.ref a), none, none] [] _
  have hC : Chg M M cP cP := Chg.rf
  obtain ⟨b, hb, hbk⟩ := hF.2.2.2.2.2.2.2.2.2 h1
  refine g_aload_n 0 dEnd_getHeaders_0 rfl ?_
  refine g_aload_n 1 dEnd_getHeaders_1 rfl ?_
  refine g_geti 2 12 1 dEnd_getHeaders_2 fs_End_243 rfl (hF.cg hC).2.2.1 ?_
  refine g_top _ (hF.cg hC).2.2.2.2.1 ?_
  refine g_top (nI ((2 * k + 1))) (hfs) ?_
  refine g_callV 5 [_] dEnd_getHeaders_5 cs_End_106 rfl (ci := 2) rfl (by decide) (hR.1.tEnd he) rfl ⟨(Nat.le_of_ble_eq_true rfl), (Nat.le_of_ble_eq_true rfl)⟩ (Nat.le_of_ble_eq_true rfl) (ct_End_streamOf hR.1 he hk) (Nat.le_of_ble_eq_true rfl) (Nat.le_of_ble_eq_true rfl) ?_
  rintro _ M2 ⟨rfl, hM2⟩
  rw [hM2]
  clear hM2 M2
  refine g_astore_n 8 dEnd_getHeaders_8 (by decide) rfl ?_
  refine g_aload_n 9 dEnd_getHeaders_9 rfl ?_
  refine g_ifnull 10 dEnd_getHeaders_10 ?_
  refine g_aload_n 13 dEnd_getHeaders_13 rfl ?_
  refine g_geti 14 2 0 dEnd_getHeaders_14 fs_End_74 rfl (hR.1.tEnd he) ?_
  refine g_top _ (hR.fix0 he) ?_
  refine g_if_eqN 17 33 dEnd_getHeaders_17 rfl (by omega) (fun h17 => ?_) (fun h17 => ?_)
  · refine g_aload_n 33 dEnd_getHeaders_33 rfl ?_
    refine g_getr 34 2 8 dEnd_getHeaders_34 fs_End_38 rfl (hR.1.tEnd he) (hR.1.rEnd8 he) ?_
    refine g_aload_n 37 dEnd_getHeaders_37 rfl ?_
    refine g_getr 38 12 6 dEnd_getHeaders_38 fs_End_279 rfl (hF.cg hC).2.2.1 hb ?_
    refine g_aload_n 41 dEnd_getHeaders_41 rfl ?_
    refine g_getr 42 2 11 dEnd_getHeaders_42 fs_End_55 rfl (hR.1.tEnd he) (hR.1.rEnd11 he) ?_
    refine g_geti 45 7 0 dEnd_getHeaders_45 fs_End_283 rfl (hR.1.tForce he) ?_
    refine g_top _ (hR.sI (sc_F he (by omega))) ?_
    refine g_callV 48 [_, _] dEnd_getHeaders_48 cs_End_286 rfl (ci := 6) rfl (by decide) (hR.1.tDec he) rfl ⟨(Nat.le_of_ble_eq_true rfl), (Nat.le_of_ble_eq_true rfl)⟩ (Nat.le_of_ble_eq_true rfl) (ct_decS hR he hX hbk hnf hd) (Nat.le_of_ble_eq_true rfl) (Nat.le_of_ble_eq_true rfl) ?_
    rintro _ M1 ⟨la, rfl, hl, hR1, hc⟩
    have hC1 := hC.tr hc
    refine g_astore_n 51 dEnd_getHeaders_51 (by decide) rfl ?_
    refine g_aload_n 52 dEnd_getHeaders_52 rfl ?_
    refine g_ifnonnull 53 63 dEnd_getHeaders_53 rfl ?_
    exact g_gHd_L (Nat.le_of_ble_eq_true rfl) (Nat.le_of_ble_eq_true rfl) hR1 hC1 he hk hF hl (by rw [decA_L]; exact hz) (by rw [decA_P]; exact hp)
  · refine g_aload_n 20 dEnd_getHeaders_20 rfl ?_
    refine g_geti 21 8 1 dEnd_getHeaders_21 fs_End_253 rfl (hR.1.tStr he hk) ?_
    refine g_top _ (hR.sI (sc_S he hk (by omega) (by omega))) ?_
    refine g_if_ne 24 33 dEnd_getHeaders_24 rfl (fun h24 => ?_) (fun h24 => ?_)
    · refine g_aload_n 33 dEnd_getHeaders_33 rfl ?_
      refine g_getr 34 2 8 dEnd_getHeaders_34 fs_End_38 rfl (hR.1.tEnd he) (hR.1.rEnd8 he) ?_
      refine g_aload_n 37 dEnd_getHeaders_37 rfl ?_
      refine g_getr 38 12 6 dEnd_getHeaders_38 fs_End_279 rfl (hF.cg hC).2.2.1 hb ?_
      refine g_aload_n 41 dEnd_getHeaders_41 rfl ?_
      refine g_getr 42 2 11 dEnd_getHeaders_42 fs_End_55 rfl (hR.1.tEnd he) (hR.1.rEnd11 he) ?_
      refine g_geti 45 7 0 dEnd_getHeaders_45 fs_End_283 rfl (hR.1.tForce he) ?_
      refine g_top _ (hR.sI (sc_F he (by omega))) ?_
      refine g_callV 48 [_, _] dEnd_getHeaders_48 cs_End_286 rfl (ci := 6) rfl (by decide) (hR.1.tDec he) rfl ⟨(Nat.le_of_ble_eq_true rfl), (Nat.le_of_ble_eq_true rfl)⟩ (Nat.le_of_ble_eq_true rfl) (ct_decS hR he hX hbk hnf hd) (Nat.le_of_ble_eq_true rfl) (Nat.le_of_ble_eq_true rfl) ?_
      rintro _ M1 ⟨la, rfl, hl, hR1, hc⟩
      have hC1 := hC.tr hc
      refine g_astore_n 51 dEnd_getHeaders_51 (by decide) rfl ?_
      refine g_aload_n 52 dEnd_getHeaders_52 rfl ?_
      refine g_ifnonnull 53 63 dEnd_getHeaders_53 rfl ?_
      exact g_gHd_L (Nat.le_of_ble_eq_true rfl) (Nat.le_of_ble_eq_true rfl) hR1 hC1 he hk hF hl (by rw [decA_L]; exact hz) (by rw [decA_P]; exact hp)
    · exact absurd ⟨by omega, h24⟩ hid

theorem g_mem {X : mX} {l : Launch} {u : mU} {rm : Room} {bc bs : Nat} {M0 M : mM} {A : zA} {pc : Nat} {ls : List (Option Value)} {st : List Value} {Q : Option Value → mM → Prop} (hR : RC M A) (hC : Chg M0 M cP cP) (k : ∀ M', RC M' A → Chg M0 M' cP cP → G X l u rm bc bs M' pc ls st Q) : G X l u rm bc bs M pc ls st Q := k M hR hC
def pdP (e : Nat) (a j : Nat) : Prop := (a = 9 + 80 * e ∧ j = 14) ∨ a = 27 + 80 * e ∨ a = 28 + 80 * e
def ackI (M M1 : mM) (e N n : Nat) : Prop := Chg M M1 (pdP e) no2 ∧ mI M1 (9 + 80 * e) 14 = nI N ∧ ∀ a, (a = 27 + 80 * e ∨ a = 28 + 80 * e) → ∀ j, mI M1 a j = if j < n then mI M a (j + 1) else mI M a j
theorem ackI_st {M M1 : mM} {e N n : Nat} (h : ackI M M1 e N n) : ackI M (setI (setI M1 (27 + 80 * e) n (mI M1 (27 + 80 * e) (n + 1))) (28 + 80 * e) n (mI M1 (28 + 80 * e) (n + 1))) e N (n + 1) := by
  refine ⟨(h.1.setI (Or.inl (Or.inr (Or.inl rfl)))).setI (Or.inl (Or.inr (Or.inr rfl))), ?_, fun a ha j => ?_⟩
  · rw [mI_setI, up2_a (by omega), mI_setI, up2_a (by omega)]
    exact h.2.1
  · have h1 := h.2.2 a ha j
    have h2 := h.2.2 a ha (n + 1)
    rw [if_neg (by omega)] at h2
    simp only [mI_setI, up2]
    by_cases q : j = n
    · subst q
      rw [if_pos (Nat.lt_succ_self _)]
      rcases ha with rfl | rfl
      · rw [if_neg (by omega), if_pos ⟨rfl, rfl⟩]; exact h2
      · rw [if_pos ⟨rfl, rfl⟩]; exact h2
    · simp only [q, and_false, if_false]
      rw [h1]
      by_cases q2 : j < n
      · rw [if_pos q2, if_pos (by omega)]
      · rw [if_neg q2, if_neg (by omega)]
set_option maxRecDepth 100000 in
set_option maxHeartbeats 4000000 in
theorem g_ack {X : mX} {l : Launch} {M : mM} {e N : Nat} {s v : Int32} {bc bs : Nat} {Q : Option Value → mM → Prop} (hSM : Shp M) (he : e < 2) (hN : N ≤ 7) (hq : ∀ M', ackI M M' e N N → G X l uEnd_getAck (rn 4 80 2 14) bc bs M' 81 [some (.ref (9 + 80 * e)), some (.int s), some (.int v), some (.int (nI N))] [] Q) : ∀ (j n : Nat), n + j = N → ∀ M1, ackI M M1 e N n → G X l uEnd_getAck (rn 4 80 2 14) bc bs M1 39 [some (.ref (9 + 80 * e)), some (.int s), some (.int v), some (.int (nI n))] [] Q
  | 0, n, hn, M1, hI => by
    have hn : n = N := by omega
    subst hn
    have hS := hSM.mv hI.1 (fun _ _ q => q.elim)
    refine g_iload_n 39 dEnd_getAck_39 rfl ?_
    refine g_aload_n 40 dEnd_getAck_40 rfl ?_
    refine g_geti 41 2 14 dEnd_getAck_41 fs_End_65 rfl (hS.tEnd he) ?_
    refine g_top (nI (n)) (hI.2.1) ?_
    refine g_icmp_geN 44 81 dEnd_getAck_44 rfl (by omega) (by omega) (fun h44 => ?_) (fun h44 => ?_)
    · exact hq M1 hI
    · exact absurd (Nat.le_refl _) h44
  | j + 1, n, hn, M1, hI => by
    have hS := hSM.mv hI.1 (fun _ _ q => q.elim)
    have ih := g_ack (X := X) (l := l) (bc := bc) (bs := bs) hSM he hN hq j (n + 1) (by omega)
    refine g_iload_n 39 dEnd_getAck_39 rfl ?_
    refine g_aload_n 40 dEnd_getAck_40 rfl ?_
    refine g_geti 41 2 14 dEnd_getAck_41 fs_End_65 rfl (hS.tEnd he) ?_
    refine g_top (nI (N)) (hI.2.1) ?_
    refine g_icmp_geN 44 81 dEnd_getAck_44 rfl (by omega) (by omega) (fun h44 => ?_) (fun h44 => ?_)
    · exact absurd h44 (by omega)
    · refine g_aload_n 47 dEnd_getAck_47 rfl ?_
      refine g_getr 48 2 12 dEnd_getAck_48 fs_End_58 rfl (hS.tEnd he) (hS.rEnd12 he) ?_
      refine g_iload_n 51 dEnd_getAck_51 rfl ?_
      refine g_aload_n 52 dEnd_getAck_52 rfl ?_
      refine g_getr 53 2 12 dEnd_getAck_53 fs_End_58 rfl (hS.tEnd he) (hS.rEnd12 he) ?_
      refine g_iload_n 56 dEnd_getAck_56 rfl ?_
      refine g_iconst 57 (nI 1) dEnd_getAck_57 rfl ?_
      refine g_iaddN 58 dEnd_getAck_58 ?_
      refine g_ialdN 59 dEnd_getAck_59 (hS.TPS he) (by omega) (by decide) ?_
      refine g_iastN 60 dEnd_getAck_60 (hS.TPS he) (by omega) (by decide) ?_
      refine g_aload_n 61 dEnd_getAck_61 rfl ?_
      refine g_getr 62 2 13 dEnd_getAck_62 fs_End_62 rfl (hS.tEnd he) (hS.rEnd13 he) ?_
      refine g_iload_n 65 dEnd_getAck_65 rfl ?_
      refine g_aload_n 66 dEnd_getAck_66 rfl ?_
      refine g_getr 67 2 13 dEnd_getAck_67 fs_End_62 rfl (hS.tEnd he) (hS.rEnd13 he) ?_
      refine g_iload_n 70 dEnd_getAck_70 rfl ?_
      refine g_iconst 71 (nI 1) dEnd_getAck_71 rfl ?_
      refine g_iaddN 72 dEnd_getAck_72 ?_
      refine g_ialdN 73 dEnd_getAck_73 (hS.TPV he) (by omega) (by decide) ?_
      refine g_top (mI M1 (28 + 80 * e) (n + 1)) (up2_a (by omega)) ?_
      refine g_iastN 74 dEnd_getAck_74 (hS.TPV he) (by omega) (by decide) ?_
      refine g_iincN 75 dEnd_getAck_75 rfl (by decide) rfl ?_
      refine g_goto 78 39 dEnd_getAck_78 rfl ?_
      exact ih _ (ackI_st hI)
set_option maxRecDepth 100000 in
set_option maxHeartbeats 4000000 in
theorem ct_gAk_0 {X : mX} {l : Launch} {M : mM} {A : zA} {e : Nat} (hR : RC M A) (he : e < 2) (hp : (zP A (1 - e)).length ≤ 44) (hd : zD A e = []) : Ct X l uEnd_getAck (rn 4 80 2 14) [.ref (9 + 80 * e)] M (fun r M' => r = some (.int (100 + 1)) ∧ RC M' (lerr A e 1) ∧ Chg M M' cP cP) := by
  refine Ct.of (by decide) (Nat.le_of_ble_eq_true rfl) ?_
  show G X l uEnd_getAck (rn 4 80 2 14) 2 14 M 0 [some (.ref (9 + 80 * e)), none, none, none] [] _
  have hC : Chg M M cP cP := Chg.rf
  have hd8 := hR.pd8 he
  refine g_aload_n 0 dEnd_getAck_0 rfl ?_
  refine g_geti 1 2 14 dEnd_getAck_1 fs_End_65 rfl (hR.1.tEnd he) ?_
  refine g_top _ (hR.pdc he) ?_
  refine g_if_neN 4 13 dEnd_getAck_4 rfl (by omega) (fun h4 => ?_) (fun h4 => ?_)
  · exact absurd (by rw [hd]; rfl) h4
  · refine g_aload_n 7 dEnd_getAck_7 rfl ?_
    refine g_iconst 8 1 dEnd_getAck_8 rfl ?_
    refine g_callV 9 [_] dEnd_getAck_9 cs_End_256 rfl (ci := 2) rfl (by decide) (hR.1.tEnd he) rfl ⟨(Nat.le_of_ble_eq_true rfl), (Nat.le_of_ble_eq_true rfl)⟩ (Nat.le_of_ble_eq_true rfl) (ct_lerrR hR he (show (zP A (1 - e)).length < 47 by omega)) (Nat.le_of_ble_eq_true rfl) (Nat.le_of_ble_eq_true rfl) ?_
    rintro _ M1 ⟨rfl, hR1, hc⟩
    have hC1 := hC.tr hc
    exact g_iret 12 dEnd_getAck_12 rfl ⟨rfl, hR1, hC1⟩

set_option maxRecDepth 100000 in
set_option maxHeartbeats 4000000 in
theorem g_ack2 {X : mX} {l : Launch} {M0 M : mM} {A : zA} {e N : Nat} {s v : Int32} {bc bs : Nat} (hR : RC M A) (hC : Chg M0 M cP cP) (he : e < 2) : G X l uEnd_getAck (rn 4 80 2 14) bc bs M 81 [some (.ref (9 + 80 * e)), some (.int s), some (.int v), some (.int (nI N))] [] (fun r M' => r = some (.int 0) ∧ RC M' (frcA A e s v) ∧ Chg M0 M' cP cP) := by
  refine g_aload_n 81 dEnd_getAck_81 rfl ?_
  refine g_iload_n 82 dEnd_getAck_82 rfl ?_
  refine g_iload_n 83 dEnd_getAck_83 rfl ?_
  refine g_callV 84 [_, _] dEnd_getAck_84 cs_End_301 rfl (ci := 2) rfl (by decide) (hR.1.tEnd he) rfl ⟨(Nat.le_of_ble_eq_true rfl), (Nat.le_of_ble_eq_true rfl)⟩ (Nat.le_of_ble_eq_true rfl) (ct_frcA hR he) (Nat.le_of_ble_eq_true rfl) (Nat.le_of_ble_eq_true rfl) ?_
  rintro _ M1 ⟨rfl, hR1, hc⟩
  have hC1 := hC.tr hc
  refine g_iconst 87 0 dEnd_getAck_87 rfl ?_
  exact g_iret 88 dEnd_getAck_88 rfl ⟨rfl, hR1, hC1⟩
set_option maxRecDepth 100000 in
set_option maxHeartbeats 4000000 in
theorem ct_gAk {X : mX} {l : Launch} {M : mM} {A : zA} {e : Nat} (hR : RC M A) (he : e < 2) {x : Int32 × Int32} {D : List (Int32 × Int32)} (hd : zD A e = x :: D) : Ct X l uEnd_getAck (rn 4 80 2 14) [.ref (9 + 80 * e)] M (fun r M' => r = some (.int 0) ∧ RC M' (frcA (yD A e D) e x.1 x.2) ∧ Chg M M' cP cP) := by
  refine Ct.of (by decide) (Nat.le_of_ble_eq_true rfl) ?_
  show G X l uEnd_getAck (rn 4 80 2 14) 2 14 M 0 [some (.ref (9 + 80 * e)), none, none, none] [] _
  have hC : Chg M M cP cP := Chg.rf
  have hpd := hR.2.2.2.2.2.2.2.2.2 e he
  have hd8 := hR.pd8 he
  refine g_aload_n 0 dEnd_getAck_0 rfl ?_
  refine g_geti 1 2 14 dEnd_getAck_1 fs_End_65 rfl (hR.1.tEnd he) ?_
  refine g_top _ (hR.pdc he) ?_
  refine g_if_neN 4 13 dEnd_getAck_4 rfl (by omega) (fun h4 => ?_) (fun h4 => ?_)
  · refine g_aload_n 13 dEnd_getAck_13 rfl ?_
    refine g_getr 14 2 12 dEnd_getAck_14 fs_End_58 rfl (hR.1.tEnd he) (hR.1.rEnd12 he) ?_
    refine g_iconst 17 (nI 0) dEnd_getAck_17 rfl ?_
    refine g_ialdN 18 dEnd_getAck_18 (hR.1.TPS he) (by decide) (by decide) ?_
    refine g_top (x.1) ((hpd.2.2 0 x (by rw [hd]; rfl)).1) ?_
    refine g_istore_n 19 dEnd_getAck_19 (by decide) rfl ?_
    refine g_aload_n 20 dEnd_getAck_20 rfl ?_
    refine g_getr 21 2 13 dEnd_getAck_21 fs_End_62 rfl (hR.1.tEnd he) (hR.1.rEnd13 he) ?_
    refine g_iconst 24 (nI 0) dEnd_getAck_24 rfl ?_
    refine g_ialdN 25 dEnd_getAck_25 (hR.1.TPV he) (by decide) (by decide) ?_
    refine g_top (x.2) ((hpd.2.2 0 x (by rw [hd]; rfl)).2) ?_
    refine g_istore_n 26 dEnd_getAck_26 (by decide) rfl ?_
    refine g_aload_n 27 dEnd_getAck_27 rfl ?_
    refine g_dup 28 dEnd_getAck_28 rfl ?_
    refine g_geti 29 2 14 dEnd_getAck_29 fs_End_65 rfl (hR.1.tEnd he) ?_
    refine g_top _ (hR.pdc he) ?_
    refine g_iconst 32 (nI 1) dEnd_getAck_32 rfl ?_
    refine g_isubN 33 dEnd_getAck_33 (by omega) ?_
    refine g_top (nI (D.length)) (by rw [hd]; rfl) ?_
    refine g_puti 34 2 14 dEnd_getAck_34 ps_End_65 rfl (hR.1.tEnd he) ?_
    refine g_iconst 37 (nI 0) dEnd_getAck_37 rfl ?_
    refine g_istore_n 38 dEnd_getAck_38 (by decide) rfl ?_
    refine g_ack hR.1 he (by have := hpd.2.1; rw [hd] at this; exact Nat.le_of_succ_le_succ this) (fun M1 hI => ?_) D.length 0 (Nat.zero_add _) _ ⟨Chg.rf.setI (Or.inl (Or.inl ⟨rfl, rfl⟩)), up2_same, fun a ha j => ?_⟩
    · have hR1 : RC M1 (yD A e D) := hR.yD he hI.1 ⟨hI.2.1, Nat.le_of_succ_le (by have := hpd.2.1; rw [hd] at this; exact this), fun j y hj => by
        have := hpd.2.2 (j + 1) y (by rw [hd, List.getElem?_cons_succ]; exact hj)
        have hlt := (List.getElem?_eq_some_iff.mp hj).1
        rw [hI.2.2 _ (Or.inl rfl), hI.2.2 _ (Or.inr rfl), if_pos hlt, if_pos hlt]
        exact this⟩
      have hC1 : Chg M M1 cP cP := hI.1.mono (fun a j q => by unfold pdP at q; show a < 169; omega) fun _ _ q => q.elim
      exact g_ack2 hR1 hC1 he
    · rw [mI_setI, up2_a (by omega), if_neg (Nat.not_lt_zero _)]
  · exact absurd h4 (by rw [hd]; exact Nat.succ_ne_zero _)

theorem dMod_getReset_0 : decode uMod_getReset.2.1 0 = .ok (.iload_n 2, 1) := by decide +kernel
theorem dMod_getReset_1 : decode uMod_getReset.2.1 1 = .ok (.invokestatic 246, 3) := by decide +kernel
theorem dMod_getReset_4 : decode uMod_getReset.2.1 4 = .ok (.ifCond .eq 16, 3) := by decide +kernel
theorem dMod_getReset_7 : decode uMod_getReset.2.1 7 = .ok (.aload_n 0, 1) := by decide +kernel
theorem dMod_getReset_8 : decode uMod_getReset.2.1 8 = .ok (.getfield 51, 3) := by decide +kernel
theorem dMod_getReset_11 : decode uMod_getReset.2.1 11 = .ok (.iload_n 1, 1) := by decide +kernel
theorem dMod_getReset_12 : decode uMod_getReset.2.1 12 = .ok (.iload_n 2, 1) := by decide +kernel
theorem dMod_getReset_13 : decode uMod_getReset.2.1 13 = .ok (.invokestatic 190, 3) := by decide +kernel
theorem dMod_getReset_16 : decode uMod_getReset.2.1 16 = .ok (.baload, 1) := by decide +kernel
theorem dMod_getReset_17 : decode uMod_getReset.2.1 17 = .ok (.ifCond .ne 10, 3) := by decide +kernel
theorem dMod_getReset_20 : decode uMod_getReset.2.1 20 = .ok (.aload_n 0, 1) := by decide +kernel
theorem dMod_getReset_21 : decode uMod_getReset.2.1 21 = .ok (.iload_n 1, 1) := by decide +kernel
theorem dMod_getReset_22 : decode uMod_getReset.2.1 22 = .ok (.iconst 1, 1) := by decide +kernel
theorem dMod_getReset_23 : decode uMod_getReset.2.1 23 = .ok (.invokevirtual 249, 3) := by decide +kernel
theorem dMod_getReset_26 : decode uMod_getReset.2.1 26 = .ok (.ireturn, 1) := by decide +kernel
theorem dMod_getReset_27 : decode uMod_getReset.2.1 27 = .ok (.aload_n 0, 1) := by decide +kernel
theorem dMod_getReset_28 : decode uMod_getReset.2.1 28 = .ok (.iload_n 1, 1) := by decide +kernel
theorem dMod_getReset_29 : decode uMod_getReset.2.1 29 = .ok (.iload_n 2, 1) := by decide +kernel
theorem dMod_getReset_30 : decode uMod_getReset.2.1 30 = .ok (.invokestatic 190, 3) := by decide +kernel
theorem dMod_getReset_33 : decode uMod_getReset.2.1 33 = .ok (.invokevirtual 179, 3) := by decide +kernel
theorem dMod_getReset_36 : decode uMod_getReset.2.1 36 = .ok (.ifCond .eq 16, 3) := by decide +kernel
theorem dMod_getReset_39 : decode uMod_getReset.2.1 39 = .ok (.aload_n 0, 1) := by decide +kernel
theorem dMod_getReset_40 : decode uMod_getReset.2.1 40 = .ok (.iload_n 1, 1) := by decide +kernel
theorem dMod_getReset_41 : decode uMod_getReset.2.1 41 = .ok (.iload_n 2, 1) := by decide +kernel
theorem dMod_getReset_42 : decode uMod_getReset.2.1 42 = .ok (.invokevirtual 198, 3) := by decide +kernel
theorem dMod_getReset_45 : decode uMod_getReset.2.1 45 = .ok (.istore_n 3, 1) := by decide +kernel
theorem dMod_getReset_46 : decode uMod_getReset.2.1 46 = .ok (.aload_n 0, 1) := by decide +kernel
theorem dMod_getReset_47 : decode uMod_getReset.2.1 47 = .ok (.iload_n 1, 1) := by decide +kernel
theorem dMod_getReset_48 : decode uMod_getReset.2.1 48 = .ok (.iload_n 3, 1) := by decide +kernel
theorem dMod_getReset_49 : decode uMod_getReset.2.1 49 = .ok (.invokevirtual 201, 3) := by decide +kernel
theorem dMod_getReset_52 : decode uMod_getReset.2.1 52 = .ok (.iconst 0, 1) := by decide +kernel
theorem dMod_getReset_53 : decode uMod_getReset.2.1 53 = .ok (.ireturn, 1) := by decide +kernel
theorem dMod_getWindow_0 : decode uMod_getWindow.2.1 0 = .ok (.iload_n 2, 1) := by decide +kernel
theorem dMod_getWindow_1 : decode uMod_getWindow.2.1 1 = .ok (.ifCond .ne 53, 3) := by decide +kernel
theorem dMod_getWindow_4 : decode uMod_getWindow.2.1 4 = .ok (.iload_n 3, 1) := by decide +kernel
theorem dMod_getWindow_5 : decode uMod_getWindow.2.1 5 = .ok (.iconst 1, 1) := by decide +kernel
theorem dMod_getWindow_6 : decode uMod_getWindow.2.1 6 = .ok (.if_icmp .lt 16, 3) := by decide +kernel
theorem dMod_getWindow_9 : decode uMod_getWindow.2.1 9 = .ok (.iload_n 3, 1) := by decide +kernel
theorem dMod_getWindow_10 : decode uMod_getWindow.2.1 10 = .ok (.sipush 200, 3) := by decide +kernel
theorem dMod_getWindow_13 : decode uMod_getWindow.2.1 13 = .ok (.aload_n 0, 1) := by decide +kernel
theorem dMod_getWindow_14 : decode uMod_getWindow.2.1 14 = .ok (.iload_n 1, 1) := by decide +kernel
theorem dMod_getWindow_15 : decode uMod_getWindow.2.1 15 = .ok (.invokevirtual 285, 3) := by decide +kernel
theorem dMod_getWindow_18 : decode uMod_getWindow.2.1 18 = .ok (.isub, 1) := by decide +kernel
theorem dMod_getWindow_19 : decode uMod_getWindow.2.1 19 = .ok (.if_icmp .le 19, 3) := by decide +kernel
theorem dMod_getWindow_22 : decode uMod_getWindow.2.1 22 = .ok (.aload_n 0, 1) := by decide +kernel
theorem dMod_getWindow_23 : decode uMod_getWindow.2.1 23 = .ok (.iload_n 1, 1) := by decide +kernel
theorem dMod_getWindow_24 : decode uMod_getWindow.2.1 24 = .ok (.iload_n 3, 1) := by decide +kernel
theorem dMod_getWindow_25 : decode uMod_getWindow.2.1 25 = .ok (.iconst 1, 1) := by decide +kernel
theorem dMod_getWindow_26 : decode uMod_getWindow.2.1 26 = .ok (.if_icmp .ge 7, 3) := by decide +kernel
theorem dMod_getWindow_29 : decode uMod_getWindow.2.1 29 = .ok (.iconst 1, 1) := by decide +kernel
theorem dMod_getWindow_30 : decode uMod_getWindow.2.1 30 = .ok (.goto 4, 3) := by decide +kernel
theorem dMod_getWindow_33 : decode uMod_getWindow.2.1 33 = .ok (.iconst 3, 1) := by decide +kernel
theorem dMod_getWindow_34 : decode uMod_getWindow.2.1 34 = .ok (.invokevirtual 249, 3) := by decide +kernel
theorem dMod_getWindow_37 : decode uMod_getWindow.2.1 37 = .ok (.ireturn, 1) := by decide +kernel
theorem dMod_getWindow_38 : decode uMod_getWindow.2.1 38 = .ok (.aload_n 0, 1) := by decide +kernel
theorem dMod_getWindow_39 : decode uMod_getWindow.2.1 39 = .ok (.getfield 111, 3) := by decide +kernel
theorem dMod_getWindow_42 : decode uMod_getWindow.2.1 42 = .ok (.iload_n 1, 1) := by decide +kernel
theorem dMod_getWindow_43 : decode uMod_getWindow.2.1 43 = .ok (.aload_n 0, 1) := by decide +kernel
theorem dMod_getWindow_44 : decode uMod_getWindow.2.1 44 = .ok (.getfield 111, 3) := by decide +kernel
theorem dMod_getWindow_47 : decode uMod_getWindow.2.1 47 = .ok (.iload_n 1, 1) := by decide +kernel
theorem dMod_getWindow_48 : decode uMod_getWindow.2.1 48 = .ok (.iaload, 1) := by decide +kernel
theorem dMod_getWindow_49 : decode uMod_getWindow.2.1 49 = .ok (.iload_n 3, 1) := by decide +kernel
theorem dMod_getWindow_50 : decode uMod_getWindow.2.1 50 = .ok (.iadd, 1) := by decide +kernel
theorem dMod_getWindow_51 : decode uMod_getWindow.2.1 51 = .ok (.iastore, 1) := by decide +kernel
theorem dMod_getWindow_52 : decode uMod_getWindow.2.1 52 = .ok (.iconst 0, 1) := by decide +kernel
theorem dMod_getWindow_53 : decode uMod_getWindow.2.1 53 = .ok (.ireturn, 1) := by decide +kernel
theorem dMod_getWindow_54 : decode uMod_getWindow.2.1 54 = .ok (.iload_n 2, 1) := by decide +kernel
theorem dMod_getWindow_55 : decode uMod_getWindow.2.1 55 = .ok (.invokestatic 246, 3) := by decide +kernel
theorem dMod_getWindow_58 : decode uMod_getWindow.2.1 58 = .ok (.ifCond .eq 16, 3) := by decide +kernel
theorem dMod_getWindow_61 : decode uMod_getWindow.2.1 61 = .ok (.aload_n 0, 1) := by decide +kernel
theorem dMod_getWindow_62 : decode uMod_getWindow.2.1 62 = .ok (.getfield 51, 3) := by decide +kernel
theorem dMod_getWindow_65 : decode uMod_getWindow.2.1 65 = .ok (.iload_n 1, 1) := by decide +kernel
theorem dMod_getWindow_66 : decode uMod_getWindow.2.1 66 = .ok (.iload_n 2, 1) := by decide +kernel
theorem dMod_getWindow_67 : decode uMod_getWindow.2.1 67 = .ok (.invokestatic 190, 3) := by decide +kernel
theorem dMod_getWindow_70 : decode uMod_getWindow.2.1 70 = .ok (.baload, 1) := by decide +kernel
theorem dMod_getWindow_71 : decode uMod_getWindow.2.1 71 = .ok (.ifCond .ne 10, 3) := by decide +kernel
theorem dMod_getWindow_74 : decode uMod_getWindow.2.1 74 = .ok (.aload_n 0, 1) := by decide +kernel
theorem dMod_getWindow_75 : decode uMod_getWindow.2.1 75 = .ok (.iload_n 1, 1) := by decide +kernel
theorem dMod_getWindow_76 : decode uMod_getWindow.2.1 76 = .ok (.iconst 1, 1) := by decide +kernel
theorem dMod_getWindow_77 : decode uMod_getWindow.2.1 77 = .ok (.invokevirtual 249, 3) := by decide +kernel
theorem dMod_getWindow_80 : decode uMod_getWindow.2.1 80 = .ok (.ireturn, 1) := by decide +kernel
theorem dMod_getWindow_81 : decode uMod_getWindow.2.1 81 = .ok (.iload_n 1, 1) := by decide +kernel
theorem dMod_getWindow_82 : decode uMod_getWindow.2.1 82 = .ok (.iload_n 2, 1) := by decide +kernel
theorem dMod_getWindow_83 : decode uMod_getWindow.2.1 83 = .ok (.invokestatic 190, 3) := by decide +kernel
theorem dMod_getWindow_86 : decode uMod_getWindow.2.1 86 = .ok (.istore 4, 2) := by decide +kernel
theorem dMod_getWindow_88 : decode uMod_getWindow.2.1 88 = .ok (.aload_n 0, 1) := by decide +kernel
theorem dMod_getWindow_89 : decode uMod_getWindow.2.1 89 = .ok (.iload 4, 2) := by decide +kernel
theorem dMod_getWindow_91 : decode uMod_getWindow.2.1 91 = .ok (.invokevirtual 179, 3) := by decide +kernel
theorem dMod_getWindow_94 : decode uMod_getWindow.2.1 94 = .ok (.ifCond .ne 5, 3) := by decide +kernel
theorem dMod_getWindow_97 : decode uMod_getWindow.2.1 97 = .ok (.iconst 0, 1) := by decide +kernel
theorem dMod_getWindow_98 : decode uMod_getWindow.2.1 98 = .ok (.ireturn, 1) := by decide +kernel
theorem dMod_getWindow_99 : decode uMod_getWindow.2.1 99 = .ok (.iload_n 3, 1) := by decide +kernel
theorem dMod_getWindow_100 : decode uMod_getWindow.2.1 100 = .ok (.iconst 1, 1) := by decide +kernel
theorem dMod_getWindow_101 : decode uMod_getWindow.2.1 101 = .ok (.if_icmp .lt 17, 3) := by decide +kernel
theorem dMod_getWindow_104 : decode uMod_getWindow.2.1 104 = .ok (.iload_n 3, 1) := by decide +kernel
theorem dMod_getWindow_105 : decode uMod_getWindow.2.1 105 = .ok (.sipush 200, 3) := by decide +kernel
theorem dMod_getWindow_108 : decode uMod_getWindow.2.1 108 = .ok (.aload_n 0, 1) := by decide +kernel
theorem dMod_getWindow_109 : decode uMod_getWindow.2.1 109 = .ok (.iload 4, 2) := by decide +kernel
theorem dMod_getWindow_111 : decode uMod_getWindow.2.1 111 = .ok (.invokevirtual 288, 3) := by decide +kernel
theorem dMod_getWindow_114 : decode uMod_getWindow.2.1 114 = .ok (.isub, 1) := by decide +kernel
theorem dMod_getWindow_115 : decode uMod_getWindow.2.1 115 = .ok (.if_icmp .le 21, 3) := by decide +kernel
theorem dMod_getWindow_118 : decode uMod_getWindow.2.1 118 = .ok (.aload_n 0, 1) := by decide +kernel
theorem dMod_getWindow_119 : decode uMod_getWindow.2.1 119 = .ok (.iload_n 1, 1) := by decide +kernel
theorem dMod_getWindow_120 : decode uMod_getWindow.2.1 120 = .ok (.iload_n 2, 1) := by decide +kernel
theorem dMod_getWindow_121 : decode uMod_getWindow.2.1 121 = .ok (.iload_n 3, 1) := by decide +kernel
theorem dMod_getWindow_122 : decode uMod_getWindow.2.1 122 = .ok (.iconst 1, 1) := by decide +kernel
theorem dMod_getWindow_123 : decode uMod_getWindow.2.1 123 = .ok (.if_icmp .ge 7, 3) := by decide +kernel
theorem dMod_getWindow_126 : decode uMod_getWindow.2.1 126 = .ok (.iconst 1, 1) := by decide +kernel
theorem dMod_getWindow_127 : decode uMod_getWindow.2.1 127 = .ok (.goto 4, 3) := by decide +kernel
theorem dMod_getWindow_130 : decode uMod_getWindow.2.1 130 = .ok (.iconst 3, 1) := by decide +kernel
theorem dMod_getWindow_131 : decode uMod_getWindow.2.1 131 = .ok (.iconst 0, 1) := by decide +kernel
theorem dMod_getWindow_132 : decode uMod_getWindow.2.1 132 = .ok (.invokevirtual 255, 3) := by decide +kernel
theorem dMod_getWindow_135 : decode uMod_getWindow.2.1 135 = .ok (.ireturn, 1) := by decide +kernel
theorem dMod_getWindow_136 : decode uMod_getWindow.2.1 136 = .ok (.aload_n 0, 1) := by decide +kernel
theorem dMod_getWindow_137 : decode uMod_getWindow.2.1 137 = .ok (.getfield 75, 3) := by decide +kernel
theorem dMod_getWindow_140 : decode uMod_getWindow.2.1 140 = .ok (.iload 4, 2) := by decide +kernel
theorem dMod_getWindow_142 : decode uMod_getWindow.2.1 142 = .ok (.aload_n 0, 1) := by decide +kernel
theorem dMod_getWindow_143 : decode uMod_getWindow.2.1 143 = .ok (.getfield 75, 3) := by decide +kernel
theorem dMod_getWindow_146 : decode uMod_getWindow.2.1 146 = .ok (.iload 4, 2) := by decide +kernel
theorem dMod_getWindow_148 : decode uMod_getWindow.2.1 148 = .ok (.iaload, 1) := by decide +kernel
theorem dMod_getWindow_149 : decode uMod_getWindow.2.1 149 = .ok (.iload_n 3, 1) := by decide +kernel
theorem dMod_getWindow_150 : decode uMod_getWindow.2.1 150 = .ok (.iadd, 1) := by decide +kernel
theorem dMod_getWindow_151 : decode uMod_getWindow.2.1 151 = .ok (.iastore, 1) := by decide +kernel
theorem dMod_getWindow_152 : decode uMod_getWindow.2.1 152 = .ok (.iconst 0, 1) := by decide +kernel
theorem dMod_getWindow_153 : decode uMod_getWindow.2.1 153 = .ok (.ireturn, 1) := by decide +kernel
theorem cs_Mod_249 : cV "InterleavedLinkModel" 249 uMod_linkError 2 := ⟨⟨Or.inl (gW_in 1048 (by decide +kernel) rfl), (gW_in 74 (by decide +kernel) rfl), (gW_in 1051 (by decide +kernel) rfl), ⟨by decide, by decide⟩, by decide +kernel⟩, (gW_in 1050 (by decide +kernel) rfl), (gW_in 27 (by decide +kernel) rfl)⟩
theorem cs_Mod_255 : cV "InterleavedLinkModel" 255 uMod_streamError 4 := ⟨⟨Or.inl (gW_in 1064 (by decide +kernel) rfl), (gW_in 74 (by decide +kernel) rfl), (gW_in 1067 (by decide +kernel) rfl), ⟨by decide, by decide⟩, by decide +kernel⟩, (gW_in 1066 (by decide +kernel) rfl), (gW_in 31 (by decide +kernel) rfl)⟩
/-! ===== the reference over the state: frames that come ===== -/
section RRE
variable {X : mX} {l : Launch} {M M' : mM} {A : zA} {e k : Nat}
theorem st_ac4 {s : Int32} (h : s = 0 ∨ s = 1 ∨ s = 2 ∨ s = 3 ∨ s = 4) (hs : ¬ s = 0) : (if s = 1 then (1 : Int32) else if s = 2 then 1 else if ¬ s = 3 then 0 else 1) = 0 ↔ s = 4 := by
  rcases h with rfl | rfl | rfl | rfl | rfl
  · exact absurd rfl hs
  all_goals decide
theorem RR.ac4 (h : RR M A) (he : e < 2) (hk : k < 12) (hs : ¬ zI A (29 + 80 * e + 5 * k) 1 = 0) : acZ A e k = 0 ↔ zI A (29 + 80 * e + 5 * k) 1 = 4 := st_ac4 (h.s5 he hk) hs
theorem ct_acM (h : RR M A) (he : e < 2) (hk : k < 12) : Ct X l uMod_active (rk 1 21) [.ref 169, .int (nI (12 * e + k))] M (fun r M' => r = some (.int (acZ A e k)) ∧ M' = M) := by rw [← h.ac he hk]; exact ct_Mod_active h.1 (by omega)
theorem ct_lsM (h : RR M A) (he : e < 2) : Ct X l uMod_linkSend (rk 0 0) [.ref 169, .int (nI e)] M (fun r M' => r = some (.int (zI A (9 + 80 * e) 4)) ∧ M' = M) := by rw [← h.ls he]; exact ct_Mod_linkSend h.1 he
theorem ct_stM (h : RR M A) (he : e < 2) (hk : k < 12) : Ct X l uMod_stateAt (rk 0 0) [.ref 169, .int (nI (12 * e + k))] M (fun r M' => r = some (.int (zI A (29 + 80 * e + 5 * k) 1)) ∧ M' = M) := by rw [← h.sta he hk]; exact ct_Mod_stateAt h.1 (by omega)
theorem RR.win (h : RR M A) (he : e < 2) (hk : k < 12) (hs : ¬ zI A (29 + 80 * e + 5 * k) 1 = 0) (h4 : ¬ zI A (29 + 80 * e + 5 * k) 1 = 4) : Rtold M (3 * e + 2) + Rcredit M (12 * e + k) - Rsent M (12 * e + k) = zI A (29 + 80 * e + 5 * k) 3 ∧ Rforce M (3 * e + 2) + Rback M (12 * e + k) - Rgot M (12 * e + k) = zI A (29 + 80 * e + 5 * k) 4 := by
  refine (h.stk he hk).2.2.1 ?_
  rcases h.s5 he hk with q | q | q | q | q
  · exact absurd q hs
  · exact Or.inl q
  · exact Or.inr (Or.inl q)
  · exact Or.inr (Or.inr q)
  · exact absurd q h4
theorem ct_swM (h : RR M A) (he : e < 2) (hk : k < 12) (hs : ¬ zI A (29 + 80 * e + 5 * k) 1 = 0) (h4 : ¬ zI A (29 + 80 * e + 5 * k) 1 = 4) : Ct X l uMod_sendWindow (rk 0 0) [.ref 169, .int (nI (12 * e + k))] M (fun r M' => r = some (.int (zI A (29 + 80 * e + 5 * k) 3)) ∧ M' = M) := by
  rw [← (h.win he hk hs h4).1]
  have := ct_Mod_sendWindow (X := X) (l := l) h.1 (i := 12 * e + k) (by omega)
  rwa [show (12 * e + k) / 12 = e by omega] at this
theorem ct_rwM (h : RR M A) (he : e < 2) (hk : k < 12) (hs : ¬ zI A (29 + 80 * e + 5 * k) 1 = 0) (h4 : ¬ zI A (29 + 80 * e + 5 * k) 1 = 4) : Ct X l uMod_receiveWindow (rk 0 0) [.ref 169, .int (nI (12 * e + k))] M (fun r M' => r = some (.int (zI A (29 + 80 * e + 5 * k) 4)) ∧ M' = M) := by
  rw [← (h.win he hk hs h4).2]
  have := ct_Mod_receiveWindow (X := X) (l := l) h.1 (i := 12 * e + k) (by omega)
  rwa [show (12 * e + k) / 12 = e by omega] at this
theorem add_mid (a b c x : Int32) : a + (b + x) - c = a + b - c + x := by
  rw [Int32.sub_eq_add_neg, Int32.sub_eq_add_neg, ← Int32.add_assoc, Int32.add_assoc (a + b), Int32.add_comm x, ← Int32.add_assoc]
theorem sub_mid (a b c x : Int32) : a + b - (c + x) = a + b - c - x := by
  rw [Int32.sub_eq_add_neg, Int32.neg_add, Int32.sub_eq_add_neg, ← Int32.add_assoc, ← Int32.sub_eq_add_neg, ← Int32.sub_eq_add_neg]
theorem RR.lcr {x : Int32} (h : RR M A) (he : e < 2) : RR (setI M 203 e (RlinkCredit M e + x)) (yI A (9 + 80 * e) 4 (zI A (9 + 80 * e) 4 + x)) := by
  refine h.yE he (Or.inr (Or.inl rfl)) (Chg.rf.setI (Or.inl ⟨by omega, rfl⟩)) ⟨?_, ?_, ?_⟩
  · show mI (setI M 203 e _) 170 e = zI (yI A _ _ _) _ _
    rw [sI_a (by decide), zI_k (by decide)]
    exact h.dn he
  · show 40 + mI (setI M 203 e _) 203 e - mI (setI M 203 e _) 202 e = zI (yI A _ _ _) _ _
    rw [sI_s, sI_a (by decide), zI_s, add_mid, ← h.ls he]
  · show mI (setI M 203 e _) 204 e = zI (yI A _ _ _) _ _
    rw [sI_a (by decide), zI_k (by decide)]
    exact h.ld he
theorem RR.scr {x : Int32} (h : RR M A) (he : e < 2) (hk : k < 12) (hs : ¬ zI A (29 + 80 * e + 5 * k) 1 = 0) : RR (setI M 191 (12 * e + k) (Rcredit M (12 * e + k) + x)) (yI A (29 + 80 * e + 5 * k) 3 (zI A (29 + 80 * e + 5 * k) 3 + x)) := by
  refine h.yS (f := up2 (zI A) (29 + 80 * e + 5 * k) 3 (zI A (29 + 80 * e + 5 * k) 3 + x)) he hk (fun a j q => up2_a q) (Chg.rf.setI (Or.inl ⟨by omega, by omega, by omega, rfl⟩)) ?_
  obtain ⟨g1, g2, g3, g4, g5⟩ := h.stk he hk
  have u : ∀ a j, a ≠ 191 → mI (setI M 191 (12 * e + k) (Rcredit M (12 * e + k) + x)) a j = mI M a j := fun a j q => up2_a q
  have w : ∀ j, j ≠ 3 → up2 (zI A) (29 + 80 * e + 5 * k) 3 (zI A (29 + 80 * e + 5 * k) 3 + x) (29 + 80 * e + 5 * k) j = zI A (29 + 80 * e + 5 * k) j := fun j q => up2_k q
  unfold StR
  show stR (up2 _ _ _ _ _ 1) (up2 _ _ _ _ _ 2) (mI (setI M _ _ _) 183 _) (mI (setI M _ _ _) 184 _) (mI (setI M _ _ _) 185 _) (mI (setI M _ _ _) 186 _) ∧ (up2 _ _ _ _ _ 1 = 0 → _) ∧ (up2 _ _ _ _ _ 1 = 1 ∨ up2 _ _ _ _ _ 1 = 2 ∨ up2 _ _ _ _ _ 1 = 3 → mI (setI M _ _ _) 206 _ + mI (setI M _ _ _) 191 _ - mI (setI M _ _ _) 190 _ = up2 _ _ _ _ _ 3 ∧ mI (setI M _ _ _) 205 _ + mI (setI M _ _ _) 193 _ - mI (setI M _ _ _) 192 _ = up2 _ _ _ _ _ 4) ∧ (e = 1 → mI (setI M _ _ _) 188 _ = up2 _ _ _ _ _ 5) ∧ mI (setI M _ _ _) 189 _ = up2 _ _ _ _ _ 6
  rw [w 1 (by decide), w 2 (by decide), w 4 (by decide), w 5 (by decide), w 6 (by decide), u 183 _ (by decide), u 184 _ (by decide), u 185 _ (by decide), u 186 _ (by decide), u 206 _ (by decide), u 190 _ (by decide), u 205 _ (by decide), u 193 _ (by decide), u 192 _ (by decide), u 188 _ (by decide), u 189 _ (by decide), up2_same]
  refine ⟨g1, fun q => absurd q hs, fun q => ⟨?_, (g3 q).2⟩, g4, g5⟩
  rw [show mI (setI M 191 (12 * e + k) (Rcredit M (12 * e + k) + x)) 191 (12 * e + k) = Rcredit M (12 * e + k) + x from up2_same, add_mid, ← (g3 q).1]
end RRE
set_option maxRecDepth 100000 in
set_option maxHeartbeats 4000000 in
theorem ct_gRsM_no {X : mX} {l : Launch} {M : mM} {A : zA} {e : Nat} (hR : RR M A) (he : e < 2) {s : Int32} (hfs : ¬ isStr s) (hp : (zP A (1 - e)).length ≤ 44) : Ct X l uMod_getReset (rk 2 49) [.ref 169, .int (nI e), .int s] M (fun r M' => r = some (.int (100 + 1)) ∧ RR M' (lerr A e 1) ∧ Chg M M' mP no2) := by
  refine Ct.of (by decide) (Nat.le_of_ble_eq_true rfl) ?_
  show G X l uMod_getReset (rk 2 49) 0 0 M 0 [some (.ref 169), some (.int (nI e)), some (.int s), none] [] _
  have hC : Chg M M mP no2 := Chg.rf
  refine g_iload_n 0 dMod_getReset_0 rfl ?_
  refine g_callS 1 [_] dMod_getReset_1 cs_Mod_246 rfl rfl ⟨(Nat.le_of_ble_eq_true rfl), (Nat.le_of_ble_eq_true rfl)⟩ (Nat.le_of_ble_eq_true rfl) (ct_isStr_n hfs) (Nat.le_of_ble_eq_true rfl) (Nat.le_of_ble_eq_true rfl) ?_
  rintro _ M2 ⟨rfl, hM2⟩
  rw [hM2]
  clear hM2 M2
  refine g_if_eq 4 20 dMod_getReset_4 rfl (fun h4 => ?_) (fun h4 => ?_)
  · refine g_aload_n 20 dMod_getReset_20 rfl ?_
    refine g_iload_n 21 dMod_getReset_21 rfl ?_
    refine g_iconst 22 1 dMod_getReset_22 rfl ?_
    refine g_callV 23 [_, _] dMod_getReset_23 cs_Mod_249 rfl (ci := 10) rfl (by decide) hR.1.mod rfl ⟨(Nat.le_of_ble_eq_true rfl), (Nat.le_of_ble_eq_true rfl)⟩ (Nat.le_of_ble_eq_true rfl) (ct_lerrM hR he (show (zP A (1 - e)).length < 47 by omega)) (Nat.le_of_ble_eq_true rfl) (Nat.le_of_ble_eq_true rfl) ?_
    rintro _ M1 ⟨rfl, hR1, hc⟩
    have hC1 := hC.tr hc
    exact g_iret 26 dMod_getReset_26 rfl ⟨rfl, hR1, hC1⟩
  · exact absurd rfl h4

set_option maxRecDepth 100000 in
set_option maxHeartbeats 4000000 in
theorem ct_gRsM {X : mX} {l : Launch} {M : mM} {A : zA} {e k : Nat} (hR : RR M A) (he : e < 2) (hk : k < 12) (hp : (zP A (1 - e)).length ≤ 44) : Ct X l uMod_getReset (rk 2 49) [.ref 169, .int (nI e), .int (nI (2 * k + 1))] M (fun r M' => r = some (.int (gRs A e k).1) ∧ RR M' (gRs A e k).2 ∧ Chg M M' mP no2) := by
  refine Ct.of (by decide) (Nat.le_of_ble_eq_true rfl) ?_
  show G X l uMod_getReset (rk 2 49) 0 0 M 0 [some (.ref 169), some (.int (nI e)), some (.int (nI (2 * k + 1))), none] [] _
  have hC : Chg M M mP no2 := Chg.rf
  refine g_iload_n 0 dMod_getReset_0 rfl ?_
  refine g_callS 1 [_] dMod_getReset_1 cs_Mod_246 rfl rfl ⟨(Nat.le_of_ble_eq_true rfl), (Nat.le_of_ble_eq_true rfl)⟩ (Nat.le_of_ble_eq_true rfl) (ct_isStr_y hk) (Nat.le_of_ble_eq_true rfl) (Nat.le_of_ble_eq_true rfl) ?_
  rintro _ M2 ⟨rfl, hM2⟩
  rw [hM2]
  clear hM2 M2
  refine g_if_eq 4 20 dMod_getReset_4 rfl (fun h4 => ?_) (fun h4 => ?_)
  · exact absurd h4 (by decide)
  · refine g_aload_n 7 dMod_getReset_7 rfl ?_
    refine g_getr 8 10 13 dMod_getReset_8 fs_Mod_51 rfl hR.1.mod hR.1.R_opened ?_
    refine g_iload_n 11 dMod_getReset_11 rfl ?_
    refine g_iload_n 12 dMod_getReset_12 rfl ?_
    refine g_callS 13 [_, _] dMod_getReset_13 cs_Mod_190 rfl rfl ⟨(Nat.le_of_ble_eq_true rfl), (Nat.le_of_ble_eq_true rfl)⟩ (Nat.le_of_ble_eq_true rfl) (ct_Mod_at (by omega) (by omega)) (Nat.le_of_ble_eq_true rfl) (Nat.le_of_ble_eq_true rfl) ?_
    rintro _ M2 ⟨rfl, hM2⟩
    rw [hM2]
    clear hM2 M2
    refine g_top (nI (12 * e + k)) (by rw [show (2 * k + 1) / 2 = k by omega]) ?_
    refine g_zaldN 16 dMod_getReset_16 hR.1.T_opened (by omega) (by decide) ?_
    refine g_if_ne 17 27 dMod_getReset_17 rfl (fun h17 => ?_) (fun h17 => ?_)
    · have hs : ¬ zI A (29 + 80 * e + 5 * k) 1 = 0 := fun q => h17 ((hR.opn he hk).mpr q)
      refine g_aload_n 27 dMod_getReset_27 rfl ?_
      refine g_iload_n 28 dMod_getReset_28 rfl ?_
      refine g_iload_n 29 dMod_getReset_29 rfl ?_
      refine g_callS 30 [_, _] dMod_getReset_30 cs_Mod_190 rfl rfl ⟨(Nat.le_of_ble_eq_true rfl), (Nat.le_of_ble_eq_true rfl)⟩ (Nat.le_of_ble_eq_true rfl) (ct_Mod_at (by omega) (by omega)) (Nat.le_of_ble_eq_true rfl) (Nat.le_of_ble_eq_true rfl) ?_
      rintro _ M2 ⟨rfl, hM2⟩
      rw [hM2]
      clear hM2 M2
      refine g_top (nI (12 * e + k)) (by rw [show (2 * k + 1) / 2 = k by omega]) ?_
      refine g_callV 33 [_] dMod_getReset_33 cs_Mod_179 rfl (ci := 10) rfl (by decide) hR.1.mod rfl ⟨(Nat.le_of_ble_eq_true rfl), (Nat.le_of_ble_eq_true rfl)⟩ (Nat.le_of_ble_eq_true rfl) (ct_acM hR he hk) (Nat.le_of_ble_eq_true rfl) (Nat.le_of_ble_eq_true rfl) ?_
      rintro _ M2 ⟨rfl, hM2⟩
      rw [hM2]
      clear hM2 M2
      refine g_if_eq 36 52 dMod_getReset_36 rfl (fun h36 => ?_) (fun h36 => ?_)
      · have h4 := (hR.ac4 he hk hs).mp h36
        refine g_iconst 52 0 dMod_getReset_52 rfl ?_
        exact g_iret 53 dMod_getReset_53 rfl (by unfold gRs; rw [if_neg hs]; first | (rw [if_pos h4]; exact ⟨rfl, hR, hC⟩) | (rw [if_neg h4]; exact ⟨rfl, hR, hC⟩))
      · have h4 : ¬ zI A (29 + 80 * e + 5 * k) 1 = 4 := fun q => h36 ((hR.ac4 he hk hs).mpr q)
        refine g_aload_n 39 dMod_getReset_39 rfl ?_
        refine g_iload_n 40 dMod_getReset_40 rfl ?_
        refine g_iload_n 41 dMod_getReset_41 rfl ?_
        refine g_callV 42 [_, _] dMod_getReset_42 cs_Mod_198 rfl (ci := 10) rfl (by decide) hR.1.mod rfl ⟨(Nat.le_of_ble_eq_true rfl), (Nat.le_of_ble_eq_true rfl)⟩ (Nat.le_of_ble_eq_true rfl) (ct_severM hR he hk hs) (Nat.le_of_ble_eq_true rfl) (Nat.le_of_ble_eq_true rfl) ?_
        rintro _ M1 ⟨rfl, hR1, hc⟩
        have hC1 := hC.tr hc
        refine g_istore_n 45 dMod_getReset_45 (by decide) rfl ?_
        refine g_aload_n 46 dMod_getReset_46 rfl ?_
        refine g_iload_n 47 dMod_getReset_47 rfl ?_
        refine g_iload_n 48 dMod_getReset_48 rfl ?_
        refine g_callV 49 [_, _] dMod_getReset_49 cs_Mod_201 rfl (ci := 10) rfl (by decide) hR1.1.mod rfl ⟨(Nat.le_of_ble_eq_true rfl), (Nat.le_of_ble_eq_true rfl)⟩ (Nat.le_of_ble_eq_true rfl) (ct_giveM hR1 he (show (zP A (1 - e)).length < 47 by omega)) (Nat.le_of_ble_eq_true rfl) (Nat.le_of_ble_eq_true rfl) ?_
        rintro _ M2 ⟨rfl, hR2, hc⟩
        have hC2 := hC1.tr hc
        refine g_iconst 52 0 dMod_getReset_52 rfl ?_
        exact g_iret 53 dMod_getReset_53 rfl (by unfold gRs; rw [if_neg hs]; first | (rw [if_pos h4]; exact ⟨rfl, hR2, hC2⟩) | (rw [if_neg h4]; exact ⟨rfl, hR2, hC2⟩))
    · have hs : zI A (29 + 80 * e + 5 * k) 1 = 0 := (hR.opn he hk).mp h17
      refine g_aload_n 20 dMod_getReset_20 rfl ?_
      refine g_iload_n 21 dMod_getReset_21 rfl ?_
      refine g_iconst 22 1 dMod_getReset_22 rfl ?_
      refine g_callV 23 [_, _] dMod_getReset_23 cs_Mod_249 rfl (ci := 10) rfl (by decide) hR.1.mod rfl ⟨(Nat.le_of_ble_eq_true rfl), (Nat.le_of_ble_eq_true rfl)⟩ (Nat.le_of_ble_eq_true rfl) (ct_lerrM hR he (show (zP A (1 - e)).length < 47 by omega)) (Nat.le_of_ble_eq_true rfl) (Nat.le_of_ble_eq_true rfl) ?_
      rintro _ M1 ⟨rfl, hR1, hc⟩
      have hC1 := hC.tr hc
      exact g_iret 26 dMod_getReset_26 rfl (by unfold gRs; rw [if_pos hs]; exact ⟨rfl, hR1, hC1⟩)

set_option maxRecDepth 100000 in
set_option maxHeartbeats 4000000 in
theorem ct_gLWM {X : mX} {l : Launch} {M : mM} {A : zA} {e : Nat} (hR : RR M A) (he : e < 2) {n : Int32} (hp : (zP A (1 - e)).length ≤ 44) : Ct X l uMod_getWindow (rk 3 74) [.ref 169, .int (nI e), .int 0, .int n] M (fun r M' => r = some (.int (gLW A e n).1) ∧ RR M' (gLW A e n).2 ∧ Chg M M' mP no2) := by
  refine Ct.of (by decide) (Nat.le_of_ble_eq_true rfl) ?_
  show G X l uMod_getWindow (rk 3 74) 0 0 M 0 [some (.ref 169), some (.int (nI e)), some (.int 0), some (.int n), none] [] _
  have hC : Chg M M mP no2 := Chg.rf
  refine g_iload_n 0 dMod_getWindow_0 rfl ?_
  refine g_if_ne 1 54 dMod_getWindow_1 rfl (fun h1 => ?_) (fun h1 => ?_)
  · exact absurd rfl h1
  · refine g_iload_n 4 dMod_getWindow_4 rfl ?_
    refine g_iconst 5 1 dMod_getWindow_5 rfl ?_
    refine g_icmp_lt 6 22 dMod_getWindow_6 rfl (fun h6 => ?_) (fun h6 => ?_)
    · have h1 : ¬ 1 ≤ n := Int32.not_le.mpr h6
      refine g_aload_n 22 dMod_getWindow_22 rfl ?_
      refine g_iload_n 23 dMod_getWindow_23 rfl ?_
      refine g_iload_n 24 dMod_getWindow_24 rfl ?_
      refine g_iconst 25 1 dMod_getWindow_25 rfl ?_
      refine g_icmp_ge 26 33 dMod_getWindow_26 rfl (fun h26 => ?_) (fun h26 => ?_)
      · have h26_ := h26
        refine g_iconst 33 3 dMod_getWindow_33 rfl ?_
        refine g_callV 34 [_, _] dMod_getWindow_34 cs_Mod_249 rfl (ci := 10) rfl (by decide) hR.1.mod rfl ⟨(Nat.le_of_ble_eq_true rfl), (Nat.le_of_ble_eq_true rfl)⟩ (Nat.le_of_ble_eq_true rfl) (ct_lerrM hR he (show (zP A (1 - e)).length < 47 by omega)) (Nat.le_of_ble_eq_true rfl) (Nat.le_of_ble_eq_true rfl) ?_
        rintro _ M1 ⟨rfl, hR1, hc⟩
        have hC1 := hC.tr hc
        exact g_iret 37 dMod_getWindow_37 rfl (by unfold gLW; first | (rw [if_pos h1, if_neg h19]; first | exact ⟨rfl, hR1, hC1⟩ | exact absurd h1 h26) | (rw [if_neg h1]; first | exact ⟨rfl, hR1, hC1⟩ | exact absurd h26 h1))
      · have h26_ := h26
        refine g_iconst 29 1 dMod_getWindow_29 rfl ?_
        refine g_goto 30 34 dMod_getWindow_30 rfl ?_
        refine g_callV 34 [_, _] dMod_getWindow_34 cs_Mod_249 rfl (ci := 10) rfl (by decide) hR.1.mod rfl ⟨(Nat.le_of_ble_eq_true rfl), (Nat.le_of_ble_eq_true rfl)⟩ (Nat.le_of_ble_eq_true rfl) (ct_lerrM hR he (show (zP A (1 - e)).length < 47 by omega)) (Nat.le_of_ble_eq_true rfl) (Nat.le_of_ble_eq_true rfl) ?_
        rintro _ M1 ⟨rfl, hR1, hc⟩
        have hC1 := hC.tr hc
        exact g_iret 37 dMod_getWindow_37 rfl (by unfold gLW; first | (rw [if_pos h1, if_neg h19]; first | exact ⟨rfl, hR1, hC1⟩ | exact absurd h1 h26) | (rw [if_neg h1]; first | exact ⟨rfl, hR1, hC1⟩ | exact absurd h26 h1))
    · have h1 : 1 ≤ n := Int32.not_lt.mp h6
      refine g_iload_n 9 dMod_getWindow_9 rfl ?_
      refine g_sipush 10 200 dMod_getWindow_10 rfl ?_
      refine g_aload_n 13 dMod_getWindow_13 rfl ?_
      refine g_iload_n 14 dMod_getWindow_14 rfl ?_
      refine g_callV 15 [_] dMod_getWindow_15 cs_Mod_285 rfl (ci := 10) rfl (by decide) hR.1.mod rfl ⟨(Nat.le_of_ble_eq_true rfl), (Nat.le_of_ble_eq_true rfl)⟩ (Nat.le_of_ble_eq_true rfl) (ct_lsM hR he) (Nat.le_of_ble_eq_true rfl) (Nat.le_of_ble_eq_true rfl) ?_
      rintro _ M2 ⟨rfl, hM2⟩
      rw [hM2]
      clear hM2 M2
      refine g_isub 18 dMod_getWindow_18 ?_
      refine g_icmp_le 19 38 dMod_getWindow_19 rfl (fun h19 => ?_) (fun h19 => ?_)
      · refine g_aload_n 38 dMod_getWindow_38 rfl ?_
        refine g_getr 39 10 33 dMod_getWindow_39 fs_Mod_111 rfl hR.1.mod hR.1.R_linkCredit ?_
        refine g_iload_n 42 dMod_getWindow_42 rfl ?_
        refine g_aload_n 43 dMod_getWindow_43 rfl ?_
        refine g_getr 44 10 33 dMod_getWindow_44 fs_Mod_111 rfl hR.1.mod hR.1.R_linkCredit ?_
        refine g_iload_n 47 dMod_getWindow_47 rfl ?_
        refine g_ialdN 48 dMod_getWindow_48 hR.1.T_linkCredit (by omega) (by decide) ?_
        refine g_iload_n 49 dMod_getWindow_49 rfl ?_
        refine g_iadd 50 dMod_getWindow_50 ?_
        refine g_iastN 51 dMod_getWindow_51 hR.1.T_linkCredit (by omega) (by decide) ?_
        refine g_memM (hR.lcr he) (kM hC (by decide)) (fun M1 hR1 hC1 => ?_)
        refine g_iconst 52 0 dMod_getWindow_52 rfl ?_
        exact g_iret 53 dMod_getWindow_53 rfl (by unfold gLW; rw [if_pos h1, if_pos h19]; exact ⟨rfl, hR1, hC1⟩)
      · refine g_aload_n 22 dMod_getWindow_22 rfl ?_
        refine g_iload_n 23 dMod_getWindow_23 rfl ?_
        refine g_iload_n 24 dMod_getWindow_24 rfl ?_
        refine g_iconst 25 1 dMod_getWindow_25 rfl ?_
        refine g_icmp_ge 26 33 dMod_getWindow_26 rfl (fun h26 => ?_) (fun h26 => ?_)
        · have h26_ := h26
          refine g_iconst 33 3 dMod_getWindow_33 rfl ?_
          refine g_callV 34 [_, _] dMod_getWindow_34 cs_Mod_249 rfl (ci := 10) rfl (by decide) hR.1.mod rfl ⟨(Nat.le_of_ble_eq_true rfl), (Nat.le_of_ble_eq_true rfl)⟩ (Nat.le_of_ble_eq_true rfl) (ct_lerrM hR he (show (zP A (1 - e)).length < 47 by omega)) (Nat.le_of_ble_eq_true rfl) (Nat.le_of_ble_eq_true rfl) ?_
          rintro _ M1 ⟨rfl, hR1, hc⟩
          have hC1 := hC.tr hc
          exact g_iret 37 dMod_getWindow_37 rfl (by unfold gLW; first | (rw [if_pos h1, if_neg h19]; first | exact ⟨rfl, hR1, hC1⟩ | exact absurd h1 h26) | (rw [if_neg h1]; first | exact ⟨rfl, hR1, hC1⟩ | exact absurd h26 h1))
        · have h26_ := h26
          refine g_iconst 29 1 dMod_getWindow_29 rfl ?_
          refine g_goto 30 34 dMod_getWindow_30 rfl ?_
          refine g_callV 34 [_, _] dMod_getWindow_34 cs_Mod_249 rfl (ci := 10) rfl (by decide) hR.1.mod rfl ⟨(Nat.le_of_ble_eq_true rfl), (Nat.le_of_ble_eq_true rfl)⟩ (Nat.le_of_ble_eq_true rfl) (ct_lerrM hR he (show (zP A (1 - e)).length < 47 by omega)) (Nat.le_of_ble_eq_true rfl) (Nat.le_of_ble_eq_true rfl) ?_
          rintro _ M1 ⟨rfl, hR1, hc⟩
          have hC1 := hC.tr hc
          exact g_iret 37 dMod_getWindow_37 rfl (by unfold gLW; first | (rw [if_pos h1, if_neg h19]; first | exact ⟨rfl, hR1, hC1⟩ | exact absurd h1 h26) | (rw [if_neg h1]; first | exact ⟨rfl, hR1, hC1⟩ | exact absurd h26 h1))

set_option maxRecDepth 100000 in
set_option maxHeartbeats 4000000 in
theorem ct_gSWM_no {X : mX} {l : Launch} {M : mM} {A : zA} {e : Nat} (hR : RR M A) (he : e < 2) {s n : Int32} (h0 : ¬ s = 0) (hfs : ¬ isStr s) (hp : (zP A (1 - e)).length ≤ 44) : Ct X l uMod_getWindow (rk 3 74) [.ref 169, .int (nI e), .int s, .int n] M (fun r M' => r = some (.int (100 + 1)) ∧ RR M' (lerr A e 1) ∧ Chg M M' mP no2) := by
  refine Ct.of (by decide) (Nat.le_of_ble_eq_true rfl) ?_
  show G X l uMod_getWindow (rk 3 74) 0 0 M 0 [some (.ref 169), some (.int (nI e)), some (.int s), some (.int n), none] [] _
  have hC : Chg M M mP no2 := Chg.rf
  refine g_iload_n 0 dMod_getWindow_0 rfl ?_
  refine g_if_ne 1 54 dMod_getWindow_1 rfl (fun h1 => ?_) (fun h1 => ?_)
  · refine g_iload_n 54 dMod_getWindow_54 rfl ?_
    refine g_callS 55 [_] dMod_getWindow_55 cs_Mod_246 rfl rfl ⟨(Nat.le_of_ble_eq_true rfl), (Nat.le_of_ble_eq_true rfl)⟩ (Nat.le_of_ble_eq_true rfl) (ct_isStr_n hfs) (Nat.le_of_ble_eq_true rfl) (Nat.le_of_ble_eq_true rfl) ?_
    rintro _ M2 ⟨rfl, hM2⟩
    rw [hM2]
    clear hM2 M2
    refine g_if_eq 58 74 dMod_getWindow_58 rfl (fun h58 => ?_) (fun h58 => ?_)
    · refine g_aload_n 74 dMod_getWindow_74 rfl ?_
      refine g_iload_n 75 dMod_getWindow_75 rfl ?_
      refine g_iconst 76 1 dMod_getWindow_76 rfl ?_
      refine g_callV 77 [_, _] dMod_getWindow_77 cs_Mod_249 rfl (ci := 10) rfl (by decide) hR.1.mod rfl ⟨(Nat.le_of_ble_eq_true rfl), (Nat.le_of_ble_eq_true rfl)⟩ (Nat.le_of_ble_eq_true rfl) (ct_lerrM hR he (show (zP A (1 - e)).length < 47 by omega)) (Nat.le_of_ble_eq_true rfl) (Nat.le_of_ble_eq_true rfl) ?_
      rintro _ M1 ⟨rfl, hR1, hc⟩
      have hC1 := hC.tr hc
      exact g_iret 80 dMod_getWindow_80 rfl ⟨rfl, hR1, hC1⟩
    · exact absurd rfl h58
  · exact absurd h1 h0

set_option maxRecDepth 100000 in
set_option maxHeartbeats 4000000 in
theorem ct_gSWM {X : mX} {l : Launch} {M : mM} {A : zA} {e k : Nat} (hR : RR M A) (he : e < 2) (hk : k < 12) {n : Int32} (hp : (zP A (1 - e)).length ≤ 44) : Ct X l uMod_getWindow (rk 3 74) [.ref 169, .int (nI e), .int (nI (2 * k + 1)), .int n] M (fun r M' => r = some (.int (gSW A e k n).1) ∧ RR M' (gSW A e k n).2 ∧ Chg M M' mP no2) := by
  refine Ct.of (by decide) (Nat.le_of_ble_eq_true rfl) ?_
  show G X l uMod_getWindow (rk 3 74) 0 0 M 0 [some (.ref 169), some (.int (nI e)), some (.int (nI (2 * k + 1))), some (.int n), none] [] _
  have hC : Chg M M mP no2 := Chg.rf
  refine g_iload_n 0 dMod_getWindow_0 rfl ?_
  refine g_if_neN 1 54 dMod_getWindow_1 rfl (by omega) (fun h1 => ?_) (fun h1 => ?_)
  · refine g_iload_n 54 dMod_getWindow_54 rfl ?_
    refine g_callS 55 [_] dMod_getWindow_55 cs_Mod_246 rfl rfl ⟨(Nat.le_of_ble_eq_true rfl), (Nat.le_of_ble_eq_true rfl)⟩ (Nat.le_of_ble_eq_true rfl) (ct_isStr_y hk) (Nat.le_of_ble_eq_true rfl) (Nat.le_of_ble_eq_true rfl) ?_
    rintro _ M2 ⟨rfl, hM2⟩
    rw [hM2]
    clear hM2 M2
    refine g_if_eq 58 74 dMod_getWindow_58 rfl (fun h58 => ?_) (fun h58 => ?_)
    · exact absurd h58 (by decide)
    · refine g_aload_n 61 dMod_getWindow_61 rfl ?_
      refine g_getr 62 10 13 dMod_getWindow_62 fs_Mod_51 rfl hR.1.mod hR.1.R_opened ?_
      refine g_iload_n 65 dMod_getWindow_65 rfl ?_
      refine g_iload_n 66 dMod_getWindow_66 rfl ?_
      refine g_callS 67 [_, _] dMod_getWindow_67 cs_Mod_190 rfl rfl ⟨(Nat.le_of_ble_eq_true rfl), (Nat.le_of_ble_eq_true rfl)⟩ (Nat.le_of_ble_eq_true rfl) (ct_Mod_at (by omega) (by omega)) (Nat.le_of_ble_eq_true rfl) (Nat.le_of_ble_eq_true rfl) ?_
      rintro _ M2 ⟨rfl, hM2⟩
      rw [hM2]
      clear hM2 M2
      refine g_top (nI (12 * e + k)) (by rw [show (2 * k + 1) / 2 = k by omega]) ?_
      refine g_zaldN 70 dMod_getWindow_70 hR.1.T_opened (by omega) (by decide) ?_
      refine g_if_ne 71 81 dMod_getWindow_71 rfl (fun h71 => ?_) (fun h71 => ?_)
      · have hs : ¬ zI A (29 + 80 * e + 5 * k) 1 = 0 := fun q => h71 ((hR.opn he hk).mpr q)
        refine g_iload_n 81 dMod_getWindow_81 rfl ?_
        refine g_iload_n 82 dMod_getWindow_82 rfl ?_
        refine g_callS 83 [_, _] dMod_getWindow_83 cs_Mod_190 rfl rfl ⟨(Nat.le_of_ble_eq_true rfl), (Nat.le_of_ble_eq_true rfl)⟩ (Nat.le_of_ble_eq_true rfl) (ct_Mod_at (by omega) (by omega)) (Nat.le_of_ble_eq_true rfl) (Nat.le_of_ble_eq_true rfl) ?_
        rintro _ M2 ⟨rfl, hM2⟩
        rw [hM2]
        clear hM2 M2
        refine g_top (nI (12 * e + k)) (by rw [show (2 * k + 1) / 2 = k by omega]) ?_
        refine g_istore 86 dMod_getWindow_86 (by decide) rfl ?_
        refine g_aload_n 88 dMod_getWindow_88 rfl ?_
        refine g_iload 89 dMod_getWindow_89 rfl ?_
        refine g_callV 91 [_] dMod_getWindow_91 cs_Mod_179 rfl (ci := 10) rfl (by decide) hR.1.mod rfl ⟨(Nat.le_of_ble_eq_true rfl), (Nat.le_of_ble_eq_true rfl)⟩ (Nat.le_of_ble_eq_true rfl) (ct_acM hR he hk) (Nat.le_of_ble_eq_true rfl) (Nat.le_of_ble_eq_true rfl) ?_
        rintro _ M2 ⟨rfl, hM2⟩
        rw [hM2]
        clear hM2 M2
        refine g_if_ne 94 99 dMod_getWindow_94 rfl (fun h94 => ?_) (fun h94 => ?_)
        · have h4 : ¬ zI A (29 + 80 * e + 5 * k) 1 = 4 := fun q => h94 ((hR.ac4 he hk hs).mpr q)
          refine g_iload_n 99 dMod_getWindow_99 rfl ?_
          refine g_iconst 100 1 dMod_getWindow_100 rfl ?_
          refine g_icmp_lt 101 118 dMod_getWindow_101 rfl (fun h101 => ?_) (fun h101 => ?_)
          · have hx1 : ¬ 1 ≤ n := Int32.not_le.mpr h101
            refine g_aload_n 118 dMod_getWindow_118 rfl ?_
            refine g_iload_n 119 dMod_getWindow_119 rfl ?_
            refine g_iload_n 120 dMod_getWindow_120 rfl ?_
            refine g_iload_n 121 dMod_getWindow_121 rfl ?_
            refine g_iconst 122 1 dMod_getWindow_122 rfl ?_
            refine g_icmp_ge 123 130 dMod_getWindow_123 rfl (fun h123 => ?_) (fun h123 => ?_)
            · refine g_iconst 130 3 dMod_getWindow_130 rfl ?_
              refine g_iconst 131 0 dMod_getWindow_131 rfl ?_
              refine g_callV 132 [_, _, _, _] dMod_getWindow_132 cs_Mod_255 rfl (ci := 10) rfl (by decide) hR.1.mod rfl ⟨(Nat.le_of_ble_eq_true rfl), (Nat.le_of_ble_eq_true rfl)⟩ (Nat.le_of_ble_eq_true rfl) (ct_rstM hR he hk hs (by omega)) (Nat.le_of_ble_eq_true rfl) (Nat.le_of_ble_eq_true rfl) ?_
              rintro _ M1 ⟨rfl, hR1, hc⟩
              have hC1 := hC.tr hc
              exact g_iret 135 dMod_getWindow_135 rfl (by unfold gSW; rw [if_neg hs, if_neg h4]; first | (rw [if_pos hx1, if_neg h115]; first | exact ⟨rfl, hR1, hC1⟩ | exact absurd hx1 h123) | (rw [if_neg hx1]; first | exact ⟨rfl, hR1, hC1⟩ | exact absurd h123 hx1))
            · refine g_iconst 126 1 dMod_getWindow_126 rfl ?_
              refine g_goto 127 131 dMod_getWindow_127 rfl ?_
              refine g_iconst 131 0 dMod_getWindow_131 rfl ?_
              refine g_callV 132 [_, _, _, _] dMod_getWindow_132 cs_Mod_255 rfl (ci := 10) rfl (by decide) hR.1.mod rfl ⟨(Nat.le_of_ble_eq_true rfl), (Nat.le_of_ble_eq_true rfl)⟩ (Nat.le_of_ble_eq_true rfl) (ct_rstM hR he hk hs (by omega)) (Nat.le_of_ble_eq_true rfl) (Nat.le_of_ble_eq_true rfl) ?_
              rintro _ M1 ⟨rfl, hR1, hc⟩
              have hC1 := hC.tr hc
              exact g_iret 135 dMod_getWindow_135 rfl (by unfold gSW; rw [if_neg hs, if_neg h4]; first | (rw [if_pos hx1, if_neg h115]; first | exact ⟨rfl, hR1, hC1⟩ | exact absurd hx1 h123) | (rw [if_neg hx1]; first | exact ⟨rfl, hR1, hC1⟩ | exact absurd h123 hx1))
          · have hx1 : 1 ≤ n := Int32.not_lt.mp h101
            refine g_iload_n 104 dMod_getWindow_104 rfl ?_
            refine g_sipush 105 200 dMod_getWindow_105 rfl ?_
            refine g_aload_n 108 dMod_getWindow_108 rfl ?_
            refine g_iload 109 dMod_getWindow_109 rfl ?_
            refine g_callV 111 [_] dMod_getWindow_111 cs_Mod_288 rfl (ci := 10) rfl (by decide) hR.1.mod rfl ⟨(Nat.le_of_ble_eq_true rfl), (Nat.le_of_ble_eq_true rfl)⟩ (Nat.le_of_ble_eq_true rfl) (ct_swM hR he hk hs h4) (Nat.le_of_ble_eq_true rfl) (Nat.le_of_ble_eq_true rfl) ?_
            rintro _ M2 ⟨rfl, hM2⟩
            rw [hM2]
            clear hM2 M2
            refine g_isub 114 dMod_getWindow_114 ?_
            refine g_icmp_le 115 136 dMod_getWindow_115 rfl (fun h115 => ?_) (fun h115 => ?_)
            · refine g_aload_n 136 dMod_getWindow_136 rfl ?_
              refine g_getr 137 10 21 dMod_getWindow_137 fs_Mod_75 rfl hR.1.mod hR.1.R_credit ?_
              refine g_iload 140 dMod_getWindow_140 rfl ?_
              refine g_aload_n 142 dMod_getWindow_142 rfl ?_
              refine g_getr 143 10 21 dMod_getWindow_143 fs_Mod_75 rfl hR.1.mod hR.1.R_credit ?_
              refine g_iload 146 dMod_getWindow_146 rfl ?_
              refine g_ialdN 148 dMod_getWindow_148 hR.1.T_credit (by omega) (by decide) ?_
              refine g_iload_n 149 dMod_getWindow_149 rfl ?_
              refine g_iadd 150 dMod_getWindow_150 ?_
              refine g_iastN 151 dMod_getWindow_151 hR.1.T_credit (by omega) (by decide) ?_
              refine g_memM (hR.scr he hk hs) (kM hC (by decide)) (fun M1 hR1 hC1 => ?_)
              refine g_iconst 152 0 dMod_getWindow_152 rfl ?_
              exact g_iret 153 dMod_getWindow_153 rfl (by unfold gSW; rw [if_neg hs, if_neg h4, if_pos hx1, if_pos h115]; exact ⟨rfl, hR1, hC1⟩)
            · refine g_aload_n 118 dMod_getWindow_118 rfl ?_
              refine g_iload_n 119 dMod_getWindow_119 rfl ?_
              refine g_iload_n 120 dMod_getWindow_120 rfl ?_
              refine g_iload_n 121 dMod_getWindow_121 rfl ?_
              refine g_iconst 122 1 dMod_getWindow_122 rfl ?_
              refine g_icmp_ge 123 130 dMod_getWindow_123 rfl (fun h123 => ?_) (fun h123 => ?_)
              · refine g_iconst 130 3 dMod_getWindow_130 rfl ?_
                refine g_iconst 131 0 dMod_getWindow_131 rfl ?_
                refine g_callV 132 [_, _, _, _] dMod_getWindow_132 cs_Mod_255 rfl (ci := 10) rfl (by decide) hR.1.mod rfl ⟨(Nat.le_of_ble_eq_true rfl), (Nat.le_of_ble_eq_true rfl)⟩ (Nat.le_of_ble_eq_true rfl) (ct_rstM hR he hk hs (by omega)) (Nat.le_of_ble_eq_true rfl) (Nat.le_of_ble_eq_true rfl) ?_
                rintro _ M1 ⟨rfl, hR1, hc⟩
                have hC1 := hC.tr hc
                exact g_iret 135 dMod_getWindow_135 rfl (by unfold gSW; rw [if_neg hs, if_neg h4]; first | (rw [if_pos hx1, if_neg h115]; first | exact ⟨rfl, hR1, hC1⟩ | exact absurd hx1 h123) | (rw [if_neg hx1]; first | exact ⟨rfl, hR1, hC1⟩ | exact absurd h123 hx1))
              · refine g_iconst 126 1 dMod_getWindow_126 rfl ?_
                refine g_goto 127 131 dMod_getWindow_127 rfl ?_
                refine g_iconst 131 0 dMod_getWindow_131 rfl ?_
                refine g_callV 132 [_, _, _, _] dMod_getWindow_132 cs_Mod_255 rfl (ci := 10) rfl (by decide) hR.1.mod rfl ⟨(Nat.le_of_ble_eq_true rfl), (Nat.le_of_ble_eq_true rfl)⟩ (Nat.le_of_ble_eq_true rfl) (ct_rstM hR he hk hs (by omega)) (Nat.le_of_ble_eq_true rfl) (Nat.le_of_ble_eq_true rfl) ?_
                rintro _ M1 ⟨rfl, hR1, hc⟩
                have hC1 := hC.tr hc
                exact g_iret 135 dMod_getWindow_135 rfl (by unfold gSW; rw [if_neg hs, if_neg h4]; first | (rw [if_pos hx1, if_neg h115]; first | exact ⟨rfl, hR1, hC1⟩ | exact absurd hx1 h123) | (rw [if_neg hx1]; first | exact ⟨rfl, hR1, hC1⟩ | exact absurd h123 hx1))
        · have h4 := (hR.ac4 he hk hs).mp h94
          refine g_iconst 97 0 dMod_getWindow_97 rfl ?_
          exact g_iret 98 dMod_getWindow_98 rfl (by unfold gSW; rw [if_neg hs, if_pos h4]; exact ⟨rfl, hR, hC⟩)
      · have hs : zI A (29 + 80 * e + 5 * k) 1 = 0 := (hR.opn he hk).mp h71
        refine g_aload_n 74 dMod_getWindow_74 rfl ?_
        refine g_iload_n 75 dMod_getWindow_75 rfl ?_
        refine g_iconst 76 1 dMod_getWindow_76 rfl ?_
        refine g_callV 77 [_, _] dMod_getWindow_77 cs_Mod_249 rfl (ci := 10) rfl (by decide) hR.1.mod rfl ⟨(Nat.le_of_ble_eq_true rfl), (Nat.le_of_ble_eq_true rfl)⟩ (Nat.le_of_ble_eq_true rfl) (ct_lerrM hR he (show (zP A (1 - e)).length < 47 by omega)) (Nat.le_of_ble_eq_true rfl) (Nat.le_of_ble_eq_true rfl) ?_
        rintro _ M1 ⟨rfl, hR1, hc⟩
        have hC1 := hC.tr hc
        exact g_iret 80 dMod_getWindow_80 rfl (by unfold gSW; rw [if_pos hs]; exact ⟨rfl, hR1, hC1⟩)
  · exact absurd h1 (by omega)

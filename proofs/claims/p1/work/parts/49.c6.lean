theorem dLink_strangeFrame_0 : decode uLink_strangeFrame.2.1 0 = .ok (.iload_n 2, 1) := by decide +kernel
theorem dLink_strangeFrame_1 : decode uLink_strangeFrame.2.1 1 = .ok (.iconst 0, 1) := by decide +kernel
theorem dLink_strangeFrame_2 : decode uLink_strangeFrame.2.1 2 = .ok (.bipush 15, 2) := by decide +kernel
theorem dLink_strangeFrame_4 : decode uLink_strangeFrame.2.1 4 = .ok (.invokestatic 25, 3) := by decide +kernel
theorem dLink_strangeFrame_7 : decode uLink_strangeFrame.2.1 7 = .ok (.istore 4, 2) := by decide +kernel
theorem dLink_strangeFrame_9 : decode uLink_strangeFrame.2.1 9 = .ok (.iload_n 0, 1) := by decide +kernel
theorem dLink_strangeFrame_10 : decode uLink_strangeFrame.2.1 10 = .ok (.tableswitch 137 0 8 #[50, 68, 137, 95, 101, 137, 137, 117, 131], 50) := by decide +kernel
theorem dLink_strangeFrame_60 : decode uLink_strangeFrame.2.1 60 = .ok (.iload 4, 2) := by decide +kernel
theorem dLink_strangeFrame_62 : decode uLink_strangeFrame.2.1 62 = .ok (.ifCond .eq 14, 3) := by decide +kernel
theorem dLink_strangeFrame_65 : decode uLink_strangeFrame.2.1 65 = .ok (.iload_n 1, 1) := by decide +kernel
theorem dLink_strangeFrame_66 : decode uLink_strangeFrame.2.1 66 = .ok (.iload_n 2, 1) := by decide +kernel
theorem dLink_strangeFrame_67 : decode uLink_strangeFrame.2.1 67 = .ok (.newarray .byte, 2) := by decide +kernel
theorem dLink_strangeFrame_69 : decode uLink_strangeFrame.2.1 69 = .ok (.iload_n 3, 1) := by decide +kernel
theorem dLink_strangeFrame_70 : decode uLink_strangeFrame.2.1 70 = .ok (.invokestatic 213, 3) := by decide +kernel
theorem dLink_strangeFrame_73 : decode uLink_strangeFrame.2.1 73 = .ok (.goto 4, 3) := by decide +kernel
theorem dLink_strangeFrame_76 : decode uLink_strangeFrame.2.1 76 = .ok (.aconst_null, 1) := by decide +kernel
theorem dLink_strangeFrame_77 : decode uLink_strangeFrame.2.1 77 = .ok (.areturn, 1) := by decide +kernel
theorem dLink_strangeFrame_78 : decode uLink_strangeFrame.2.1 78 = .ok (.new 217, 3) := by decide +kernel
theorem dLink_strangeFrame_81 : decode uLink_strangeFrame.2.1 81 = .ok (.dup, 1) := by decide +kernel
theorem dLink_strangeFrame_82 : decode uLink_strangeFrame.2.1 82 = .ok (.iconst 1, 1) := by decide +kernel
theorem dLink_strangeFrame_83 : decode uLink_strangeFrame.2.1 83 = .ok (.invokespecial 219, 3) := by decide +kernel
theorem dLink_strangeFrame_86 : decode uLink_strangeFrame.2.1 86 = .ok (.astore 5, 2) := by decide +kernel
theorem dLink_strangeFrame_88 : decode uLink_strangeFrame.2.1 88 = .ok (.aload 5, 2) := by decide +kernel
theorem dLink_strangeFrame_90 : decode uLink_strangeFrame.2.1 90 = .ok (.iconst 1, 1) := by decide +kernel
theorem dLink_strangeFrame_91 : decode uLink_strangeFrame.2.1 91 = .ok (.iload_n 2, 1) := by decide +kernel
theorem dLink_strangeFrame_92 : decode uLink_strangeFrame.2.1 92 = .ok (.iconst 0, 1) := by decide +kernel
theorem dLink_strangeFrame_93 : decode uLink_strangeFrame.2.1 93 = .ok (.iconst 0, 1) := by decide +kernel
theorem dLink_strangeFrame_94 : decode uLink_strangeFrame.2.1 94 = .ok (.invokevirtual 222, 3) := by decide +kernel
theorem dLink_strangeFrame_97 : decode uLink_strangeFrame.2.1 97 = .ok (.iload_n 1, 1) := by decide +kernel
theorem dLink_strangeFrame_98 : decode uLink_strangeFrame.2.1 98 = .ok (.aload 5, 2) := by decide +kernel
theorem dLink_strangeFrame_100 : decode uLink_strangeFrame.2.1 100 = .ok (.iload_n 3, 1) := by decide +kernel
theorem dLink_strangeFrame_101 : decode uLink_strangeFrame.2.1 101 = .ok (.invokestatic 225, 3) := by decide +kernel
theorem dLink_strangeFrame_104 : decode uLink_strangeFrame.2.1 104 = .ok (.areturn, 1) := by decide +kernel
theorem dLink_strangeFrame_105 : decode uLink_strangeFrame.2.1 105 = .ok (.iload_n 1, 1) := by decide +kernel
theorem dLink_strangeFrame_106 : decode uLink_strangeFrame.2.1 106 = .ok (.iload_n 2, 1) := by decide +kernel
theorem dLink_strangeFrame_107 : decode uLink_strangeFrame.2.1 107 = .ok (.invokestatic 229, 3) := by decide +kernel
theorem dLink_strangeFrame_110 : decode uLink_strangeFrame.2.1 110 = .ok (.areturn, 1) := by decide +kernel
theorem dLink_strangeFrame_111 : decode uLink_strangeFrame.2.1 111 = .ok (.iload_n 3, 1) := by decide +kernel
theorem dLink_strangeFrame_112 : decode uLink_strangeFrame.2.1 112 = .ok (.ifCond .eq 9, 3) := by decide +kernel
theorem dLink_strangeFrame_115 : decode uLink_strangeFrame.2.1 115 = .ok (.invokestatic 233, 3) := by decide +kernel
theorem dLink_strangeFrame_118 : decode uLink_strangeFrame.2.1 118 = .ok (.goto 8, 3) := by decide +kernel
theorem dLink_strangeFrame_121 : decode uLink_strangeFrame.2.1 121 = .ok (.iload_n 1, 1) := by decide +kernel
theorem dLink_strangeFrame_122 : decode uLink_strangeFrame.2.1 122 = .ok (.iload_n 2, 1) := by decide +kernel
theorem dLink_strangeFrame_123 : decode uLink_strangeFrame.2.1 123 = .ok (.invokestatic 236, 3) := by decide +kernel
theorem dLink_strangeFrame_126 : decode uLink_strangeFrame.2.1 126 = .ok (.areturn, 1) := by decide +kernel
theorem dLink_strangeFrame_127 : decode uLink_strangeFrame.2.1 127 = .ok (.iload 4, 2) := by decide +kernel
theorem dLink_strangeFrame_129 : decode uLink_strangeFrame.2.1 129 = .ok (.ifCond .eq 10, 3) := by decide +kernel
theorem dLink_strangeFrame_132 : decode uLink_strangeFrame.2.1 132 = .ok (.iload_n 2, 1) := by decide +kernel
theorem dLink_strangeFrame_133 : decode uLink_strangeFrame.2.1 133 = .ok (.invokestatic 239, 3) := by decide +kernel
theorem dLink_strangeFrame_136 : decode uLink_strangeFrame.2.1 136 = .ok (.goto 4, 3) := by decide +kernel
theorem dLink_strangeFrame_139 : decode uLink_strangeFrame.2.1 139 = .ok (.aconst_null, 1) := by decide +kernel
theorem dLink_strangeFrame_140 : decode uLink_strangeFrame.2.1 140 = .ok (.areturn, 1) := by decide +kernel
theorem dLink_strangeFrame_141 : decode uLink_strangeFrame.2.1 141 = .ok (.iload_n 1, 1) := by decide +kernel
theorem dLink_strangeFrame_142 : decode uLink_strangeFrame.2.1 142 = .ok (.iload_n 2, 1) := by decide +kernel
theorem dLink_strangeFrame_143 : decode uLink_strangeFrame.2.1 143 = .ok (.invokestatic 242, 3) := by decide +kernel
theorem dLink_strangeFrame_146 : decode uLink_strangeFrame.2.1 146 = .ok (.areturn, 1) := by decide +kernel
theorem dLink_strangeFrame_147 : decode uLink_strangeFrame.2.1 147 = .ok (.aconst_null, 1) := by decide +kernel
theorem dLink_strangeFrame_148 : decode uLink_strangeFrame.2.1 148 = .ok (.areturn, 1) := by decide +kernel
theorem cs_Link_229 : cSt "InterleavedLink" 229 uFrame_ofReset 2 := ⟨⟨Or.inl (gW_in 816 (by decide +kernel) rfl), (gW_in 76 (by decide +kernel) rfl), (gW_in 660 (by decide +kernel) rfl), ⟨by decide, by decide⟩, by decide +kernel⟩, (gW_in 659 (by decide +kernel) rfl)⟩
theorem cs_Link_242 : cSt "InterleavedLink" 242 uFrame_ofWindow 2 := ⟨⟨Or.inl (gW_in 820 (by decide +kernel) rfl), (gW_in 76 (by decide +kernel) rfl), (gW_in 644 (by decide +kernel) rfl), ⟨by decide, by decide⟩, by decide +kernel⟩, (gW_in 643 (by decide +kernel) rfl)⟩
theorem cs_Link_239 : cSt "InterleavedLink" 239 uFrame_ofFarewell 1 := ⟨⟨Or.inl (gW_in 819 (by decide +kernel) rfl), (gW_in 76 (by decide +kernel) rfl), (gW_in 713 (by decide +kernel) rfl), ⟨by decide, by decide⟩, by decide +kernel⟩, (gW_in 712 (by decide +kernel) rfl)⟩
theorem cs_Link_236 : cSt "InterleavedLink" 236 uFrame_ofSetting 2 := ⟨⟨Or.inl (gW_in 818 (by decide +kernel) rfl), (gW_in 76 (by decide +kernel) rfl), (gW_in 686 (by decide +kernel) rfl), ⟨by decide, by decide⟩, by decide +kernel⟩, (gW_in 685 (by decide +kernel) rfl)⟩
theorem cs_Link_233 : cSt "InterleavedLink" 233 uFrame_ofAck 0 := ⟨⟨Or.inl (gW_in 817 (by decide +kernel) rfl), (gW_in 76 (by decide +kernel) rfl), (gW_in 795 (by decide +kernel) rfl), ⟨by decide, by decide⟩, by decide +kernel⟩, (gW_in 794 (by decide +kernel) rfl)⟩
theorem cs_Link_213 : cSt "InterleavedLink" 213 uFrame_ofData 3 := ⟨⟨Or.inl (gW_in 811 (by decide +kernel) rfl), (gW_in 76 (by decide +kernel) rfl), (gW_in 627 (by decide +kernel) rfl), ⟨by decide, by decide⟩, by decide +kernel⟩, (gW_in 626 (by decide +kernel) rfl)⟩
theorem ns_Link_217 : nS "InterleavedLink" 217 11 6 := ⟨"InterleavedLink$Block", T_Block, cf_Block, (gW_in 812 (by decide +kernel) rfl), (gW_in 426 (by decide +kernel) rfl), (gW_in 75 (by decide +kernel) rfl)⟩
theorem cs_Link_219 : cI "InterleavedLink" 219 uBlock_init 1 := ⟨⟨Or.inl (gW_in 813 (by decide +kernel) rfl), (gW_in 75 (by decide +kernel) rfl), (gW_in 429 (by decide +kernel) rfl), ⟨by decide, by decide⟩, by decide +kernel⟩, (gW_in 428 (by decide +kernel) rfl), rfl, rfl⟩
theorem cs_Link_222 : cV "InterleavedLink" 222 uBlock_add 4 := ⟨⟨Or.inl (gW_in 814 (by decide +kernel) rfl), (gW_in 75 (by decide +kernel) rfl), (gW_in 464 (by decide +kernel) rfl), ⟨by decide, by decide⟩, by decide +kernel⟩, (gW_in 462 (by decide +kernel) rfl), (gW_in 463 (by decide +kernel) rfl)⟩
theorem cs_Link_225 : cSt "InterleavedLink" 225 uFrame_ofHeaders 3 := ⟨⟨Or.inl (gW_in 815 (by decide +kernel) rfl), (gW_in 76 (by decide +kernel) rfl), (gW_in 512 (by decide +kernel) rfl), ⟨by decide, by decide⟩, by decide +kernel⟩, (gW_in 511 (by decide +kernel) rfl)⟩
/-! ===== the class: frames that nobody sent ===== -/
theorem g_newaN {X : mX} {l : Launch} {u : mU} {rm : Room} {bc bs : Nat} {M : mM} {ls : List (Option Value)} {st : List Value} {Q : Option Value → mM → Prop} (pc : Nat) {n : Nat} {atype : ArrayType} (t K : Nat) {ty : FieldType} (hd : decode u.2.1 pc = .ok (.newarray atype, 2)) (hw : Cond.arrayClass (newarray.typeOf atype) ∈ gW) (hty : newarray.typeOf atype = ty) (ht : (mTys X)[t]? = some (xK X (100 + t), ty)) (hk : ∀ k, defaultValue ty = dv X (100 + t) k) (hra : ∀ (U : State) (cA : ClassId), va_RA U cA ty → U.vm.findClass ("[" ++ ty.toString) = some cA) (hb8 : componentBytes ty ≤ 8) (hK : n ≤ K) (hK2 : K ≤ 1000000) (h1 : 1 ≤ bc) (h2 : K ≤ bs)
    (k : G X l u rm (bc - 1) (bs - K) (newM M (100 + t) n) (pc + 2) ls (.ref (mN M) :: st) Q) : G X l u rm bc bs M pc ls (.int (nI n) :: st) Q := g_newa pc t K hd hw hty ht hk hra hb8 (nI_pos (by omega)) (by rw [nI_clamp (by omega)]; exact hK) hK2 h1 h2 (by rw [nI_clamp (by omega)]; exact k)
set_option maxRecDepth 100000 in
set_option maxHeartbeats 4000000 in
theorem sf_3 {X : mX} {l : Launch} {M : mM} {s x z : Int32} : Ct X l uLink_strangeFrame (rn 3 61 6 45) [.int 3, .int s, .int x, .int z] M (fun r M' => r = some (.ref (mN M)) ∧ M' = frM (newM M 12 7) (mN M) 3 s x 0 0 none none) := by
  refine Ct.of (by decide) (Nat.le_of_ble_eq_true rfl) ?_
  show G X l uLink_strangeFrame (rn 3 61 6 45) 6 45 M 0 [some (.int 3), some (.int s), some (.int x), some (.int z), none, none] [] _
  refine g_iload_n 0 dLink_strangeFrame_0 rfl ?_
  refine g_iconst 1 0 dLink_strangeFrame_1 rfl ?_
  refine g_bipush 2 15 dLink_strangeFrame_2 rfl ?_
  refine g_callS 4 [_, _, _] dLink_strangeFrame_4 cs_Link_25 rfl rfl ⟨(Nat.le_of_ble_eq_true rfl), (Nat.le_of_ble_eq_true rfl)⟩ (Nat.le_of_ble_eq_true rfl) (ct_isWithin) (Nat.le_of_ble_eq_true rfl) (Nat.le_of_ble_eq_true rfl) ?_
  rintro _ M2 ⟨rfl, hM2⟩
  rw [hM2]
  clear hM2 M2
  refine g_istore 7 dLink_strangeFrame_7 (by decide) rfl ?_
  refine g_iload_n 9 dLink_strangeFrame_9 rfl ?_
  refine g_tableIn 10 105 dLink_strangeFrame_10 (by decide) (by decide) rfl rfl ?_
  refine g_iload_n 105 dLink_strangeFrame_105 rfl ?_
  refine g_iload_n 106 dLink_strangeFrame_106 rfl ?_
  refine g_callS 107 [_, _] dLink_strangeFrame_107 cs_Link_229 rfl rfl ⟨(Nat.le_of_ble_eq_true rfl), (Nat.le_of_ble_eq_true rfl)⟩ (Nat.le_of_ble_eq_true rfl) (ct_ofReset) (Nat.le_of_ble_eq_true rfl) (Nat.le_of_ble_eq_true rfl) ?_
  rintro _ _ ⟨rfl, rfl⟩
  exact g_aret 110 dLink_strangeFrame_110 rfl (Or.inl ⟨_, rfl⟩) ⟨rfl, rfl⟩

set_option maxRecDepth 100000 in
set_option maxHeartbeats 4000000 in
theorem sf_8 {X : mX} {l : Launch} {M : mM} {s x z : Int32} : Ct X l uLink_strangeFrame (rn 3 61 6 45) [.int 8, .int s, .int x, .int z] M (fun r M' => r = some (.ref (mN M)) ∧ M' = frM (newM M 12 7) (mN M) 8 s x 0 0 none none) := by
  refine Ct.of (by decide) (Nat.le_of_ble_eq_true rfl) ?_
  show G X l uLink_strangeFrame (rn 3 61 6 45) 6 45 M 0 [some (.int 8), some (.int s), some (.int x), some (.int z), none, none] [] _
  refine g_iload_n 0 dLink_strangeFrame_0 rfl ?_
  refine g_iconst 1 0 dLink_strangeFrame_1 rfl ?_
  refine g_bipush 2 15 dLink_strangeFrame_2 rfl ?_
  refine g_callS 4 [_, _, _] dLink_strangeFrame_4 cs_Link_25 rfl rfl ⟨(Nat.le_of_ble_eq_true rfl), (Nat.le_of_ble_eq_true rfl)⟩ (Nat.le_of_ble_eq_true rfl) (ct_isWithin) (Nat.le_of_ble_eq_true rfl) (Nat.le_of_ble_eq_true rfl) ?_
  rintro _ M2 ⟨rfl, hM2⟩
  rw [hM2]
  clear hM2 M2
  refine g_istore 7 dLink_strangeFrame_7 (by decide) rfl ?_
  refine g_iload_n 9 dLink_strangeFrame_9 rfl ?_
  refine g_tableIn 10 141 dLink_strangeFrame_10 (by decide) (by decide) rfl rfl ?_
  refine g_iload_n 141 dLink_strangeFrame_141 rfl ?_
  refine g_iload_n 142 dLink_strangeFrame_142 rfl ?_
  refine g_callS 143 [_, _] dLink_strangeFrame_143 cs_Link_242 rfl rfl ⟨(Nat.le_of_ble_eq_true rfl), (Nat.le_of_ble_eq_true rfl)⟩ (Nat.le_of_ble_eq_true rfl) (ct_ofWindow) (Nat.le_of_ble_eq_true rfl) (Nat.le_of_ble_eq_true rfl) ?_
  rintro _ _ ⟨rfl, rfl⟩
  exact g_aret 146 dLink_strangeFrame_146 rfl (Or.inl ⟨_, rfl⟩) ⟨rfl, rfl⟩

set_option maxRecDepth 100000 in
set_option maxHeartbeats 4000000 in
theorem sf_7 {X : mX} {l : Launch} {M : mM} {s x z : Int32} (hx : ¬ wi x 0 15 = 0) : Ct X l uLink_strangeFrame (rn 3 61 6 45) [.int 7, .int s, .int x, .int z] M (fun r M' => r = some (.ref (mN M)) ∧ M' = frM (newM M 12 7) (mN M) 7 0 x 0 0 none none) := by
  refine Ct.of (by decide) (Nat.le_of_ble_eq_true rfl) ?_
  show G X l uLink_strangeFrame (rn 3 61 6 45) 6 45 M 0 [some (.int 7), some (.int s), some (.int x), some (.int z), none, none] [] _
  refine g_iload_n 0 dLink_strangeFrame_0 rfl ?_
  refine g_iconst 1 0 dLink_strangeFrame_1 rfl ?_
  refine g_bipush 2 15 dLink_strangeFrame_2 rfl ?_
  refine g_callS 4 [_, _, _] dLink_strangeFrame_4 cs_Link_25 rfl rfl ⟨(Nat.le_of_ble_eq_true rfl), (Nat.le_of_ble_eq_true rfl)⟩ (Nat.le_of_ble_eq_true rfl) (ct_isWithin) (Nat.le_of_ble_eq_true rfl) (Nat.le_of_ble_eq_true rfl) ?_
  rintro _ M2 ⟨rfl, hM2⟩
  rw [hM2]
  clear hM2 M2
  refine g_istore 7 dLink_strangeFrame_7 (by decide) rfl ?_
  refine g_iload_n 9 dLink_strangeFrame_9 rfl ?_
  refine g_tableIn 10 127 dLink_strangeFrame_10 (by decide) (by decide) rfl rfl ?_
  refine g_iload 127 dLink_strangeFrame_127 rfl ?_
  refine g_if_eq 129 139 dLink_strangeFrame_129 rfl (fun h129 => ?_) (fun h129 => ?_)
  · exact absurd h129 hx
  · refine g_iload_n 132 dLink_strangeFrame_132 rfl ?_
    refine g_callS 133 [_] dLink_strangeFrame_133 cs_Link_239 rfl rfl ⟨(Nat.le_of_ble_eq_true rfl), (Nat.le_of_ble_eq_true rfl)⟩ (Nat.le_of_ble_eq_true rfl) (ct_ofFarewell) (Nat.le_of_ble_eq_true rfl) (Nat.le_of_ble_eq_true rfl) ?_
    rintro _ _ ⟨rfl, rfl⟩
    refine g_goto 136 140 dLink_strangeFrame_136 rfl ?_
    exact g_aret 140 dLink_strangeFrame_140 rfl (Or.inl ⟨_, rfl⟩) ⟨rfl, rfl⟩

set_option maxRecDepth 100000 in
set_option maxHeartbeats 4000000 in
theorem sf_7n {X : mX} {l : Launch} {M : mM} {s x z : Int32} (hx : wi x 0 15 = 0) : Ct X l uLink_strangeFrame (rn 3 61 6 45) [.int 7, .int s, .int x, .int z] M (fun r M' => r = some (.null) ∧ M' = M) := by
  refine Ct.of (by decide) (Nat.le_of_ble_eq_true rfl) ?_
  show G X l uLink_strangeFrame (rn 3 61 6 45) 6 45 M 0 [some (.int 7), some (.int s), some (.int x), some (.int z), none, none] [] _
  refine g_iload_n 0 dLink_strangeFrame_0 rfl ?_
  refine g_iconst 1 0 dLink_strangeFrame_1 rfl ?_
  refine g_bipush 2 15 dLink_strangeFrame_2 rfl ?_
  refine g_callS 4 [_, _, _] dLink_strangeFrame_4 cs_Link_25 rfl rfl ⟨(Nat.le_of_ble_eq_true rfl), (Nat.le_of_ble_eq_true rfl)⟩ (Nat.le_of_ble_eq_true rfl) (ct_isWithin) (Nat.le_of_ble_eq_true rfl) (Nat.le_of_ble_eq_true rfl) ?_
  rintro _ M2 ⟨rfl, hM2⟩
  rw [hM2]
  clear hM2 M2
  refine g_istore 7 dLink_strangeFrame_7 (by decide) rfl ?_
  refine g_iload_n 9 dLink_strangeFrame_9 rfl ?_
  refine g_tableIn 10 127 dLink_strangeFrame_10 (by decide) (by decide) rfl rfl ?_
  refine g_iload 127 dLink_strangeFrame_127 rfl ?_
  refine g_if_eq 129 139 dLink_strangeFrame_129 rfl (fun h129 => ?_) (fun h129 => ?_)
  · refine g_null 139 dLink_strangeFrame_139 ?_
    exact g_aretN 140 dLink_strangeFrame_140 rfl (Or.inl ⟨_, rfl⟩) ⟨rfl, rfl⟩
  · exact absurd hx h129

set_option maxRecDepth 100000 in
set_option maxHeartbeats 4000000 in
theorem sf_0n {X : mX} {l : Launch} {M : mM} {s x z : Int32} (hx : wi x 0 15 = 0) : Ct X l uLink_strangeFrame (rn 3 61 6 45) [.int 0, .int s, .int x, .int z] M (fun r M' => r = some (.null) ∧ M' = M) := by
  refine Ct.of (by decide) (Nat.le_of_ble_eq_true rfl) ?_
  show G X l uLink_strangeFrame (rn 3 61 6 45) 6 45 M 0 [some (.int 0), some (.int s), some (.int x), some (.int z), none, none] [] _
  refine g_iload_n 0 dLink_strangeFrame_0 rfl ?_
  refine g_iconst 1 0 dLink_strangeFrame_1 rfl ?_
  refine g_bipush 2 15 dLink_strangeFrame_2 rfl ?_
  refine g_callS 4 [_, _, _] dLink_strangeFrame_4 cs_Link_25 rfl rfl ⟨(Nat.le_of_ble_eq_true rfl), (Nat.le_of_ble_eq_true rfl)⟩ (Nat.le_of_ble_eq_true rfl) (ct_isWithin) (Nat.le_of_ble_eq_true rfl) (Nat.le_of_ble_eq_true rfl) ?_
  rintro _ M2 ⟨rfl, hM2⟩
  rw [hM2]
  clear hM2 M2
  refine g_istore 7 dLink_strangeFrame_7 (by decide) rfl ?_
  refine g_iload_n 9 dLink_strangeFrame_9 rfl ?_
  refine g_tableIn 10 60 dLink_strangeFrame_10 (by decide) (by decide) rfl rfl ?_
  refine g_iload 60 dLink_strangeFrame_60 rfl ?_
  refine g_if_eq 62 76 dLink_strangeFrame_62 rfl (fun h62 => ?_) (fun h62 => ?_)
  · refine g_null 76 dLink_strangeFrame_76 ?_
    exact g_aretN 77 dLink_strangeFrame_77 rfl (Or.inl ⟨_, rfl⟩) ⟨rfl, rfl⟩
  · exact absurd hx h62

set_option maxRecDepth 100000 in
set_option maxHeartbeats 4000000 in
theorem sf_4 {X : mX} {l : Launch} {M : mM} {s x : Int32} : Ct X l uLink_strangeFrame (rn 3 61 6 45) [.int 4, .int s, .int x, .int 0] M (fun r M' => r = some (.ref (mN M)) ∧ M' = frM (newM M 12 7) (mN M) 4 0 x 0 s none none) := by
  refine Ct.of (by decide) (Nat.le_of_ble_eq_true rfl) ?_
  show G X l uLink_strangeFrame (rn 3 61 6 45) 6 45 M 0 [some (.int 4), some (.int s), some (.int x), some (.int 0), none, none] [] _
  refine g_iload_n 0 dLink_strangeFrame_0 rfl ?_
  refine g_iconst 1 0 dLink_strangeFrame_1 rfl ?_
  refine g_bipush 2 15 dLink_strangeFrame_2 rfl ?_
  refine g_callS 4 [_, _, _] dLink_strangeFrame_4 cs_Link_25 rfl rfl ⟨(Nat.le_of_ble_eq_true rfl), (Nat.le_of_ble_eq_true rfl)⟩ (Nat.le_of_ble_eq_true rfl) (ct_isWithin) (Nat.le_of_ble_eq_true rfl) (Nat.le_of_ble_eq_true rfl) ?_
  rintro _ M2 ⟨rfl, hM2⟩
  rw [hM2]
  clear hM2 M2
  refine g_istore 7 dLink_strangeFrame_7 (by decide) rfl ?_
  refine g_iload_n 9 dLink_strangeFrame_9 rfl ?_
  refine g_tableIn 10 111 dLink_strangeFrame_10 (by decide) (by decide) rfl rfl ?_
  refine g_iload_n 111 dLink_strangeFrame_111 rfl ?_
  refine g_if_eq 112 121 dLink_strangeFrame_112 rfl (fun h112 => ?_) (fun h112 => ?_)
  · refine g_iload_n 121 dLink_strangeFrame_121 rfl ?_
    refine g_iload_n 122 dLink_strangeFrame_122 rfl ?_
    refine g_callS 123 [_, _] dLink_strangeFrame_123 cs_Link_236 rfl rfl ⟨(Nat.le_of_ble_eq_true rfl), (Nat.le_of_ble_eq_true rfl)⟩ (Nat.le_of_ble_eq_true rfl) (ct_ofSetting) (Nat.le_of_ble_eq_true rfl) (Nat.le_of_ble_eq_true rfl) ?_
    rintro _ _ ⟨rfl, rfl⟩
    exact g_aret 126 dLink_strangeFrame_126 rfl (Or.inl ⟨_, rfl⟩) ⟨rfl, rfl⟩
  · exact absurd rfl h112

set_option maxRecDepth 100000 in
set_option maxHeartbeats 4000000 in
theorem sf_4a {X : mX} {l : Launch} {M : mM} {s x : Int32} : Ct X l uLink_strangeFrame (rn 3 61 6 45) [.int 4, .int s, .int x, .int 1] M (fun r M' => r = some (.ref (mN M)) ∧ M' = frM (newM M 12 7) (mN M) 4 0 0 1 0 none none) := by
  refine Ct.of (by decide) (Nat.le_of_ble_eq_true rfl) ?_
  show G X l uLink_strangeFrame (rn 3 61 6 45) 6 45 M 0 [some (.int 4), some (.int s), some (.int x), some (.int 1), none, none] [] _
  refine g_iload_n 0 dLink_strangeFrame_0 rfl ?_
  refine g_iconst 1 0 dLink_strangeFrame_1 rfl ?_
  refine g_bipush 2 15 dLink_strangeFrame_2 rfl ?_
  refine g_callS 4 [_, _, _] dLink_strangeFrame_4 cs_Link_25 rfl rfl ⟨(Nat.le_of_ble_eq_true rfl), (Nat.le_of_ble_eq_true rfl)⟩ (Nat.le_of_ble_eq_true rfl) (ct_isWithin) (Nat.le_of_ble_eq_true rfl) (Nat.le_of_ble_eq_true rfl) ?_
  rintro _ M2 ⟨rfl, hM2⟩
  rw [hM2]
  clear hM2 M2
  refine g_istore 7 dLink_strangeFrame_7 (by decide) rfl ?_
  refine g_iload_n 9 dLink_strangeFrame_9 rfl ?_
  refine g_tableIn 10 111 dLink_strangeFrame_10 (by decide) (by decide) rfl rfl ?_
  refine g_iload_n 111 dLink_strangeFrame_111 rfl ?_
  refine g_if_eq 112 121 dLink_strangeFrame_112 rfl (fun h112 => ?_) (fun h112 => ?_)
  · exact absurd h112 (by decide)
  · refine g_callS 115 [] dLink_strangeFrame_115 cs_Link_233 rfl rfl ⟨(Nat.le_of_ble_eq_true rfl), (Nat.le_of_ble_eq_true rfl)⟩ (Nat.le_of_ble_eq_true rfl) (ct_ofAck) (Nat.le_of_ble_eq_true rfl) (Nat.le_of_ble_eq_true rfl) ?_
    rintro _ _ ⟨rfl, rfl⟩
    refine g_goto 118 126 dLink_strangeFrame_118 rfl ?_
    exact g_aret 126 dLink_strangeFrame_126 rfl (Or.inl ⟨_, rfl⟩) ⟨rfl, rfl⟩

set_option maxRecDepth 100000 in
set_option maxHeartbeats 4000000 in
theorem sf_2n {X : mX} {l : Launch} {M : mM} {s x z : Int32} : Ct X l uLink_strangeFrame (rn 3 61 6 45) [.int 2, .int s, .int x, .int z] M (fun r M' => r = some (.null) ∧ M' = M) := by
  refine Ct.of (by decide) (Nat.le_of_ble_eq_true rfl) ?_
  show G X l uLink_strangeFrame (rn 3 61 6 45) 6 45 M 0 [some (.int 2), some (.int s), some (.int x), some (.int z), none, none] [] _
  refine g_iload_n 0 dLink_strangeFrame_0 rfl ?_
  refine g_iconst 1 0 dLink_strangeFrame_1 rfl ?_
  refine g_bipush 2 15 dLink_strangeFrame_2 rfl ?_
  refine g_callS 4 [_, _, _] dLink_strangeFrame_4 cs_Link_25 rfl rfl ⟨(Nat.le_of_ble_eq_true rfl), (Nat.le_of_ble_eq_true rfl)⟩ (Nat.le_of_ble_eq_true rfl) (ct_isWithin) (Nat.le_of_ble_eq_true rfl) (Nat.le_of_ble_eq_true rfl) ?_
  rintro _ M2 ⟨rfl, hM2⟩
  rw [hM2]
  clear hM2 M2
  refine g_istore 7 dLink_strangeFrame_7 (by decide) rfl ?_
  refine g_iload_n 9 dLink_strangeFrame_9 rfl ?_
  refine g_tableIn 10 147 dLink_strangeFrame_10 (by decide) (by decide) rfl rfl ?_
  refine g_null 147 dLink_strangeFrame_147 ?_
  exact g_aretN 148 dLink_strangeFrame_148 rfl (Or.inl ⟨_, rfl⟩) ⟨rfl, rfl⟩

set_option maxRecDepth 100000 in
set_option maxHeartbeats 4000000 in
theorem sf_5n {X : mX} {l : Launch} {M : mM} {s x z : Int32} : Ct X l uLink_strangeFrame (rn 3 61 6 45) [.int 5, .int s, .int x, .int z] M (fun r M' => r = some (.null) ∧ M' = M) := by
  refine Ct.of (by decide) (Nat.le_of_ble_eq_true rfl) ?_
  show G X l uLink_strangeFrame (rn 3 61 6 45) 6 45 M 0 [some (.int 5), some (.int s), some (.int x), some (.int z), none, none] [] _
  refine g_iload_n 0 dLink_strangeFrame_0 rfl ?_
  refine g_iconst 1 0 dLink_strangeFrame_1 rfl ?_
  refine g_bipush 2 15 dLink_strangeFrame_2 rfl ?_
  refine g_callS 4 [_, _, _] dLink_strangeFrame_4 cs_Link_25 rfl rfl ⟨(Nat.le_of_ble_eq_true rfl), (Nat.le_of_ble_eq_true rfl)⟩ (Nat.le_of_ble_eq_true rfl) (ct_isWithin) (Nat.le_of_ble_eq_true rfl) (Nat.le_of_ble_eq_true rfl) ?_
  rintro _ M2 ⟨rfl, hM2⟩
  rw [hM2]
  clear hM2 M2
  refine g_istore 7 dLink_strangeFrame_7 (by decide) rfl ?_
  refine g_iload_n 9 dLink_strangeFrame_9 rfl ?_
  refine g_tableIn 10 147 dLink_strangeFrame_10 (by decide) (by decide) rfl rfl ?_
  refine g_null 147 dLink_strangeFrame_147 ?_
  exact g_aretN 148 dLink_strangeFrame_148 rfl (Or.inl ⟨_, rfl⟩) ⟨rfl, rfl⟩

set_option maxRecDepth 100000 in
set_option maxHeartbeats 4000000 in
theorem sf_6n {X : mX} {l : Launch} {M : mM} {s x z : Int32} : Ct X l uLink_strangeFrame (rn 3 61 6 45) [.int 6, .int s, .int x, .int z] M (fun r M' => r = some (.null) ∧ M' = M) := by
  refine Ct.of (by decide) (Nat.le_of_ble_eq_true rfl) ?_
  show G X l uLink_strangeFrame (rn 3 61 6 45) 6 45 M 0 [some (.int 6), some (.int s), some (.int x), some (.int z), none, none] [] _
  refine g_iload_n 0 dLink_strangeFrame_0 rfl ?_
  refine g_iconst 1 0 dLink_strangeFrame_1 rfl ?_
  refine g_bipush 2 15 dLink_strangeFrame_2 rfl ?_
  refine g_callS 4 [_, _, _] dLink_strangeFrame_4 cs_Link_25 rfl rfl ⟨(Nat.le_of_ble_eq_true rfl), (Nat.le_of_ble_eq_true rfl)⟩ (Nat.le_of_ble_eq_true rfl) (ct_isWithin) (Nat.le_of_ble_eq_true rfl) (Nat.le_of_ble_eq_true rfl) ?_
  rintro _ M2 ⟨rfl, hM2⟩
  rw [hM2]
  clear hM2 M2
  refine g_istore 7 dLink_strangeFrame_7 (by decide) rfl ?_
  refine g_iload_n 9 dLink_strangeFrame_9 rfl ?_
  refine g_tableIn 10 147 dLink_strangeFrame_10 (by decide) (by decide) rfl rfl ?_
  refine g_null 147 dLink_strangeFrame_147 ?_
  exact g_aretN 148 dLink_strangeFrame_148 rfl (Or.inl ⟨_, rfl⟩) ⟨rfl, rfl⟩

set_option maxRecDepth 100000 in
set_option maxHeartbeats 4000000 in
theorem sf_0 {X : mX} {l : Launch} {M : mM} {s z : Int32} {j : Nat} (hj : j ≤ 15) (hz : z = 0 ∨ z = 1) (hx : ¬ wi (nI j) 0 15 = 0) : Ct X l uLink_strangeFrame (rn 3 61 6 45) [.int 0, .int s, .int (nI j), .int z] M (fun r M' => r = some (.ref (mN M + 1)) ∧ M' = frM (newM (newM M 101 j) 12 7) (mN M + 1) 0 s (nI j) z 0 (some (mN M)) none) := by
  refine Ct.of (by decide) (Nat.le_of_ble_eq_true rfl) ?_
  show G X l uLink_strangeFrame (rn 3 61 6 45) 6 45 M 0 [some (.int 0), some (.int s), some (.int (nI j)), some (.int z), none, none] [] _
  refine g_iload_n 0 dLink_strangeFrame_0 rfl ?_
  refine g_iconst 1 0 dLink_strangeFrame_1 rfl ?_
  refine g_bipush 2 15 dLink_strangeFrame_2 rfl ?_
  refine g_callS 4 [_, _, _] dLink_strangeFrame_4 cs_Link_25 rfl rfl ⟨(Nat.le_of_ble_eq_true rfl), (Nat.le_of_ble_eq_true rfl)⟩ (Nat.le_of_ble_eq_true rfl) (ct_isWithin) (Nat.le_of_ble_eq_true rfl) (Nat.le_of_ble_eq_true rfl) ?_
  rintro _ M2 ⟨rfl, hM2⟩
  rw [hM2]
  clear hM2 M2
  refine g_istore 7 dLink_strangeFrame_7 (by decide) rfl ?_
  refine g_iload_n 9 dLink_strangeFrame_9 rfl ?_
  refine g_tableIn 10 60 dLink_strangeFrame_10 (by decide) (by decide) rfl rfl ?_
  refine g_iload 60 dLink_strangeFrame_60 rfl ?_
  refine g_if_eq 62 76 dLink_strangeFrame_62 rfl (fun h62 => ?_) (fun h62 => ?_)
  · exact absurd h62 hx
  · refine g_iload_n 65 dLink_strangeFrame_65 rfl ?_
    refine g_iload_n 66 dLink_strangeFrame_66 rfl ?_
    refine g_newaN 67 1 15 dLink_strangeFrame_67 aw_byte rfl rfl (fun _ => rfl) (fun _ _ h => h) (by decide) (by omega) (by decide) (Nat.le_of_ble_eq_true rfl) (Nat.le_of_ble_eq_true rfl) ?_
    refine g_iload_n 69 dLink_strangeFrame_69 rfl ?_
    refine g_callS 70 [_, _, _] dLink_strangeFrame_70 cs_Link_213 rfl rfl ⟨(Nat.le_of_ble_eq_true rfl), (Nat.le_of_ble_eq_true rfl)⟩ (Nat.le_of_ble_eq_true rfl) (ct_ofData (M := newM M 101 j) (p := mN M) (n := j) (mT_new M 101 j) hz) (Nat.le_of_ble_eq_true rfl) (Nat.le_of_ble_eq_true rfl) ?_
    rintro _ _ ⟨rfl, rfl⟩
    refine g_goto 73 77 dLink_strangeFrame_73 rfl ?_
    exact g_aret 77 dLink_strangeFrame_77 rfl (Or.inl ⟨_, rfl⟩) ⟨rfl, rfl⟩

def blk1 (M : mM) (x : Int32) : mM := setI (setI (setI (setI (setI (setI (mkBlk (newM M 11 6) (mN M) 1) (mN M + 1) 0 1) (mN M + 2) 0 x) (mN M + 3) 0 0) (mN M + 4) 0 0) (mN M) 4 (nI (0 + 1))) (mN M) 5 (0 + x)
section BLK
variable {N : mM} {t n : Nat}
theorem blk_t (h : t < mN N) (hp : (mT N t).1 = 11) : (mT (mkBlk N t n) t).1 = 11 := oT (Nat.lt_add_right 3 h) (oT (Nat.lt_add_right 2 h) (oT (Nat.lt_add_right 1 h) (oT (Nat.lt_add_right 0 h) hp)))
theorem blk_r0 (h : t < mN N) : mR (mkBlk N t n) t 0 = some (mN N) := rR (Nat.lt_add_right 3 h) (by decide) (rR (Nat.lt_add_right 2 h) (by decide) (rR (Nat.lt_add_right 1 h) (by decide) rS))
theorem blk_r1 (h : t < mN N) : mR (mkBlk N t n) t 1 = some (mN N + 1) := rR (Nat.lt_add_right 3 h) (by decide) (rR (Nat.lt_add_right 2 h) (by decide) rS)
theorem blk_r2 (h : t < mN N) : mR (mkBlk N t n) t 2 = some (mN N + 2) := rR (Nat.lt_add_right 3 h) (by decide) rS
theorem blk_r3 : mR (mkBlk N t n) t 3 = some (mN N + 3) := rS
theorem blk_t0 : mT (mkBlk N t n) (mN N) = (100, n) := oTT (show mN N < mN N + 3 by omega) (oTT (show mN N < mN N + 2 by omega) (oTT (show mN N < mN N + 1 by omega) (nTS rfl)))
theorem blk_t1 : mT (mkBlk N t n) (mN N + 1) = (100, n) := oTT (show mN N + 1 < mN N + 3 by omega) (oTT (show mN N + 1 < mN N + 2 by omega) (nTS rfl))
theorem blk_t2 : mT (mkBlk N t n) (mN N + 2) = (100, n) := oTT (show mN N + 2 < mN N + 3 by omega) (nTS rfl)
theorem blk_t3 : mT (mkBlk N t n) (mN N + 3) = (100, n) := nTS rfl
theorem blk_c (h : t < mN N) : mI (mkBlk N t n) t 4 = 0 := by
  show mI (newM (setR (newM (setR (newM (setR (newM (setI (setI N t 4 0) t 5 0) 100 n) t 0 (some (mN N))) 100 n) t 1 (some (mN N + 1))) 100 n) t 2 (some (mN N + 2))) 100 n) t 4 = 0
  rw [mI_new_ne (show t ≠ mN N + 3 by omega), mI_setR, mI_new_ne (show t ≠ mN N + 2 by omega), mI_setR, mI_new_ne (show t ≠ mN N + 1 by omega), mI_setR, mI_new_ne (M := setI (setI N t 4 0) t 5 0) (show t ≠ mN N by omega), mI_setI, up2_k (by decide), mI_setI, up2_same]
theorem blk_s (h : t < mN N) : mI (mkBlk N t n) t 5 = 0 := by
  show mI (newM (setR (newM (setR (newM (setR (newM (setI (setI N t 4 0) t 5 0) 100 n) t 0 (some (mN N))) 100 n) t 1 (some (mN N + 1))) 100 n) t 2 (some (mN N + 2))) 100 n) t 5 = 0
  rw [mI_new_ne (show t ≠ mN N + 3 by omega), mI_setR, mI_new_ne (show t ≠ mN N + 2 by omega), mI_setR, mI_new_ne (show t ≠ mN N + 1 by omega), mI_setR, mI_new_ne (M := setI (setI N t 4 0) t 5 0) (show t ≠ mN N by omega), mI_setI, up2_same]
end BLK
set_option maxRecDepth 100000 in
set_option maxHeartbeats 4000000 in
theorem sf_1 {X : mX} {l : Launch} {M : mM} {s x z : Int32} (hz : z = 0 ∨ z = 1) : Ct X l uLink_strangeFrame (rn 3 61 6 45) [.int 1, .int s, .int x, .int z] M (fun r M' => r = some (.ref (mN M + 5)) ∧ M' = frM (newM (blk1 M x) 12 7) (mN M + 5) 1 s (nI 1) z (0 + x) none (some (mN M))) := by
  refine Ct.of (by decide) (Nat.le_of_ble_eq_true rfl) ?_
  show G X l uLink_strangeFrame (rn 3 61 6 45) 6 45 M 0 [some (.int 1), some (.int s), some (.int x), some (.int z), none, none] [] _
  refine g_iload_n 0 dLink_strangeFrame_0 rfl ?_
  refine g_iconst 1 0 dLink_strangeFrame_1 rfl ?_
  refine g_bipush 2 15 dLink_strangeFrame_2 rfl ?_
  refine g_callS 4 [_, _, _] dLink_strangeFrame_4 cs_Link_25 rfl rfl ⟨(Nat.le_of_ble_eq_true rfl), (Nat.le_of_ble_eq_true rfl)⟩ (Nat.le_of_ble_eq_true rfl) (ct_isWithin) (Nat.le_of_ble_eq_true rfl) (Nat.le_of_ble_eq_true rfl) ?_
  rintro _ M2 ⟨rfl, hM2⟩
  rw [hM2]
  clear hM2 M2
  refine g_istore 7 dLink_strangeFrame_7 (by decide) rfl ?_
  refine g_iload_n 9 dLink_strangeFrame_9 rfl ?_
  refine g_tableIn 10 78 dLink_strangeFrame_10 (by decide) (by decide) rfl rfl ?_
  refine g_new 78 11 6 dLink_strangeFrame_78 ns_Link_217 (Nat.le_of_ble_eq_true rfl) (Nat.le_of_ble_eq_true rfl) ?_
  refine g_dup 81 dLink_strangeFrame_81 rfl ?_
  refine g_iconst 82 (nI 1) dLink_strangeFrame_82 rfl ?_
  refine g_callI 83 [_] dLink_strangeFrame_83 cs_Link_219 rfl rfl ⟨(Nat.le_of_ble_eq_true rfl), (Nat.le_of_ble_eq_true rfl)⟩ (Nat.le_of_ble_eq_true rfl) (ct_Blk_init (n := 1) nT (by decide)) (Nat.le_of_ble_eq_true rfl) (Nat.le_of_ble_eq_true rfl) ?_
  rintro _ _ ⟨rfl, rfl⟩
  have hlt : mN M < mN (newM M 11 6) := Nat.lt_succ_self _
  have hbt := blk_t (n := 1) hlt (nT (M := M) (n := 6))
  refine g_astore 86 dLink_strangeFrame_86 (by decide) rfl ?_
  refine g_aload 88 dLink_strangeFrame_88 rfl ?_
  refine g_iconst 90 1 dLink_strangeFrame_90 rfl ?_
  refine g_iload_n 91 dLink_strangeFrame_91 rfl ?_
  refine g_iconst 92 0 dLink_strangeFrame_92 rfl ?_
  refine g_iconst 93 0 dLink_strangeFrame_93 rfl ?_
  refine g_callV 94 [_, _, _, _] dLink_strangeFrame_94 cs_Link_222 rfl (ci := 11) rfl (by decide) hbt rfl ⟨(Nat.le_of_ble_eq_true rfl), (Nat.le_of_ble_eq_true rfl)⟩ (Nat.le_of_ble_eq_true rfl) (ct_Blk_add (c := 0) (n := 1) hbt (blk_r0 hlt) (blk_r1 hlt) (blk_r2 hlt) blk_r3 blk_t0 blk_t1 blk_t2 blk_t3 (blk_c hlt) (by decide) (by decide)) (Nat.le_of_ble_eq_true rfl) (Nat.le_of_ble_eq_true rfl) ?_
  rw [blk_s hlt]
  rintro _ _ ⟨rfl, rfl⟩
  refine g_iload_n 97 dLink_strangeFrame_97 rfl ?_
  refine g_aload 98 dLink_strangeFrame_98 rfl ?_
  refine g_iload_n 100 dLink_strangeFrame_100 rfl ?_
  refine g_callS 101 [_, _, _] dLink_strangeFrame_101 cs_Link_225 rfl rfl ⟨(Nat.le_of_ble_eq_true rfl), (Nat.le_of_ble_eq_true rfl)⟩ (Nat.le_of_ble_eq_true rfl) (ct_ofHeaders (M := blk1 M x) (b := mN M) hbt hz) (Nat.le_of_ble_eq_true rfl) (Nat.le_of_ble_eq_true rfl) ?_
  rintro _ _ ⟨rfl, rfl⟩
  exact g_aret 104 dLink_strangeFrame_104 rfl (Or.inl ⟨_, rfl⟩) ⟨rfl, by congr 1; show up2 (up2 _ (mN M) 4 (nI (0 + 1))) (mN M) 5 _ (mN M) 4 = _; rw [up2_k (by decide), up2_same]; show up2 _ (mN M) 5 (0 + x) (mN M) 5 = _; exact up2_same⟩

theorem dMod_keepList_0 : decode uMod_keepList.2.1 0 = .ok (.aload_n 0, 1) := by decide +kernel
theorem dMod_keepList_1 : decode uMod_keepList.2.1 1 = .ok (.getfield 63, 3) := by decide +kernel
theorem dMod_keepList_4 : decode uMod_keepList.2.1 4 = .ok (.iload_n 1, 1) := by decide +kernel
theorem dMod_keepList_5 : decode uMod_keepList.2.1 5 = .ok (.iconst 1, 1) := by decide +kernel
theorem dMod_keepList_6 : decode uMod_keepList.2.1 6 = .ok (.bastore, 1) := by decide +kernel
theorem dMod_keepList_7 : decode uMod_keepList.2.1 7 = .ok (.aload_n 0, 1) := by decide +kernel
theorem dMod_keepList_8 : decode uMod_keepList.2.1 8 = .ok (.getfield 84, 3) := by decide +kernel
theorem dMod_keepList_11 : decode uMod_keepList.2.1 11 = .ok (.iload_n 1, 1) := by decide +kernel
theorem dMod_keepList_12 : decode uMod_keepList.2.1 12 = .ok (.aload_n 0, 1) := by decide +kernel
theorem dMod_keepList_13 : decode uMod_keepList.2.1 13 = .ok (.getfield 238, 3) := by decide +kernel
theorem dMod_keepList_16 : decode uMod_keepList.2.1 16 = .ok (.iastore, 1) := by decide +kernel
theorem dMod_keepList_17 : decode uMod_keepList.2.1 17 = .ok (.iconst 0, 1) := by decide +kernel
theorem dMod_keepList_18 : decode uMod_keepList.2.1 18 = .ok (.istore_n 2, 1) := by decide +kernel
theorem dMod_keepList_19 : decode uMod_keepList.2.1 19 = .ok (.iload_n 2, 1) := by decide +kernel
theorem dMod_keepList_20 : decode uMod_keepList.2.1 20 = .ok (.aload_n 0, 1) := by decide +kernel
theorem dMod_keepList_21 : decode uMod_keepList.2.1 21 = .ok (.getfield 238, 3) := by decide +kernel
theorem dMod_keepList_24 : decode uMod_keepList.2.1 24 = .ok (.if_icmp .ge 43, 3) := by decide +kernel
theorem dMod_keepList_27 : decode uMod_keepList.2.1 27 = .ok (.aload_n 0, 1) := by decide +kernel
theorem dMod_keepList_28 : decode uMod_keepList.2.1 28 = .ok (.getfield 87, 3) := by decide +kernel
theorem dMod_keepList_31 : decode uMod_keepList.2.1 31 = .ok (.bipush 6, 2) := by decide +kernel
theorem dMod_keepList_33 : decode uMod_keepList.2.1 33 = .ok (.iload_n 1, 1) := by decide +kernel
theorem dMod_keepList_34 : decode uMod_keepList.2.1 34 = .ok (.imul, 1) := by decide +kernel
theorem dMod_keepList_35 : decode uMod_keepList.2.1 35 = .ok (.iload_n 2, 1) := by decide +kernel
theorem dMod_keepList_36 : decode uMod_keepList.2.1 36 = .ok (.iadd, 1) := by decide +kernel
theorem dMod_keepList_37 : decode uMod_keepList.2.1 37 = .ok (.aload_n 0, 1) := by decide +kernel
theorem dMod_keepList_38 : decode uMod_keepList.2.1 38 = .ok (.getfield 165, 3) := by decide +kernel
theorem dMod_keepList_41 : decode uMod_keepList.2.1 41 = .ok (.iload_n 2, 1) := by decide +kernel
theorem dMod_keepList_42 : decode uMod_keepList.2.1 42 = .ok (.iaload, 1) := by decide +kernel
theorem dMod_keepList_43 : decode uMod_keepList.2.1 43 = .ok (.iastore, 1) := by decide +kernel
theorem dMod_keepList_44 : decode uMod_keepList.2.1 44 = .ok (.aload_n 0, 1) := by decide +kernel
theorem dMod_keepList_45 : decode uMod_keepList.2.1 45 = .ok (.getfield 90, 3) := by decide +kernel
theorem dMod_keepList_48 : decode uMod_keepList.2.1 48 = .ok (.bipush 6, 2) := by decide +kernel
theorem dMod_keepList_50 : decode uMod_keepList.2.1 50 = .ok (.iload_n 1, 1) := by decide +kernel
theorem dMod_keepList_51 : decode uMod_keepList.2.1 51 = .ok (.imul, 1) := by decide +kernel
theorem dMod_keepList_52 : decode uMod_keepList.2.1 52 = .ok (.iload_n 2, 1) := by decide +kernel
theorem dMod_keepList_53 : decode uMod_keepList.2.1 53 = .ok (.iadd, 1) := by decide +kernel
theorem dMod_keepList_54 : decode uMod_keepList.2.1 54 = .ok (.aload_n 0, 1) := by decide +kernel
theorem dMod_keepList_55 : decode uMod_keepList.2.1 55 = .ok (.getfield 168, 3) := by decide +kernel
theorem dMod_keepList_58 : decode uMod_keepList.2.1 58 = .ok (.iload_n 2, 1) := by decide +kernel
theorem dMod_keepList_59 : decode uMod_keepList.2.1 59 = .ok (.iaload, 1) := by decide +kernel
theorem dMod_keepList_60 : decode uMod_keepList.2.1 60 = .ok (.iastore, 1) := by decide +kernel
theorem dMod_keepList_61 : decode uMod_keepList.2.1 61 = .ok (.iinc 2 1, 3) := by decide +kernel
theorem dMod_keepList_64 : decode uMod_keepList.2.1 64 = .ok (.goto (-45), 3) := by decide +kernel
theorem dMod_keepList_67 : decode uMod_keepList.2.1 67 = .ok (.return_, 1) := by decide +kernel
theorem dMod_getNew_0 : decode uMod_getNew.2.1 0 = .ok (.iload_n 1, 1) := by decide +kernel
theorem dMod_getNew_1 : decode uMod_getNew.2.1 1 = .ok (.iload_n 2, 1) := by decide +kernel
theorem dMod_getNew_2 : decode uMod_getNew.2.1 2 = .ok (.invokestatic 190, 3) := by decide +kernel
theorem dMod_getNew_5 : decode uMod_getNew.2.1 5 = .ok (.istore 4, 2) := by decide +kernel
theorem dMod_getNew_7 : decode uMod_getNew.2.1 7 = .ok (.bipush 12, 2) := by decide +kernel
theorem dMod_getNew_9 : decode uMod_getNew.2.1 9 = .ok (.iload_n 1, 1) := by decide +kernel
theorem dMod_getNew_10 : decode uMod_getNew.2.1 10 = .ok (.imul, 1) := by decide +kernel
theorem dMod_getNew_11 : decode uMod_getNew.2.1 11 = .ok (.istore 5, 2) := by decide +kernel
theorem dMod_getNew_13 : decode uMod_getNew.2.1 13 = .ok (.iload 5, 2) := by decide +kernel
theorem dMod_getNew_15 : decode uMod_getNew.2.1 15 = .ok (.iload 4, 2) := by decide +kernel
theorem dMod_getNew_17 : decode uMod_getNew.2.1 17 = .ok (.if_icmp .ge 43, 3) := by decide +kernel
theorem dMod_getNew_20 : decode uMod_getNew.2.1 20 = .ok (.aload_n 0, 1) := by decide +kernel
theorem dMod_getNew_21 : decode uMod_getNew.2.1 21 = .ok (.getfield 51, 3) := by decide +kernel
theorem dMod_getNew_24 : decode uMod_getNew.2.1 24 = .ok (.iload 5, 2) := by decide +kernel
theorem dMod_getNew_26 : decode uMod_getNew.2.1 26 = .ok (.baload, 1) := by decide +kernel
theorem dMod_getNew_27 : decode uMod_getNew.2.1 27 = .ok (.ifCond .ne 27, 3) := by decide +kernel
theorem dMod_getNew_30 : decode uMod_getNew.2.1 30 = .ok (.aload_n 0, 1) := by decide +kernel
theorem dMod_getNew_31 : decode uMod_getNew.2.1 31 = .ok (.getfield 51, 3) := by decide +kernel
theorem dMod_getNew_34 : decode uMod_getNew.2.1 34 = .ok (.iload 5, 2) := by decide +kernel
theorem dMod_getNew_36 : decode uMod_getNew.2.1 36 = .ok (.iconst 1, 1) := by decide +kernel
theorem dMod_getNew_37 : decode uMod_getNew.2.1 37 = .ok (.bastore, 1) := by decide +kernel
theorem dMod_getNew_38 : decode uMod_getNew.2.1 38 = .ok (.aload_n 0, 1) := by decide +kernel
theorem dMod_getNew_39 : decode uMod_getNew.2.1 39 = .ok (.getfield 57, 3) := by decide +kernel
theorem dMod_getNew_42 : decode uMod_getNew.2.1 42 = .ok (.iload 5, 2) := by decide +kernel
theorem dMod_getNew_44 : decode uMod_getNew.2.1 44 = .ok (.iconst 1, 1) := by decide +kernel
theorem dMod_getNew_45 : decode uMod_getNew.2.1 45 = .ok (.bastore, 1) := by decide +kernel
theorem dMod_getNew_46 : decode uMod_getNew.2.1 46 = .ok (.aload_n 0, 1) := by decide +kernel
theorem dMod_getNew_47 : decode uMod_getNew.2.1 47 = .ok (.getfield 60, 3) := by decide +kernel
theorem dMod_getNew_50 : decode uMod_getNew.2.1 50 = .ok (.iload 5, 2) := by decide +kernel
theorem dMod_getNew_52 : decode uMod_getNew.2.1 52 = .ok (.iconst 1, 1) := by decide +kernel
theorem dMod_getNew_53 : decode uMod_getNew.2.1 53 = .ok (.bastore, 1) := by decide +kernel
theorem dMod_getNew_54 : decode uMod_getNew.2.1 54 = .ok (.iinc 5 1, 3) := by decide +kernel
theorem dMod_getNew_57 : decode uMod_getNew.2.1 57 = .ok (.goto (-44), 3) := by decide +kernel
theorem dMod_getNew_60 : decode uMod_getNew.2.1 60 = .ok (.aload_n 0, 1) := by decide +kernel
theorem dMod_getNew_61 : decode uMod_getNew.2.1 61 = .ok (.iload_n 1, 1) := by decide +kernel
theorem dMod_getNew_62 : decode uMod_getNew.2.1 62 = .ok (.invokevirtual 273, 3) := by decide +kernel
theorem dMod_getNew_65 : decode uMod_getNew.2.1 65 = .ok (.aload_n 0, 1) := by decide +kernel
theorem dMod_getNew_66 : decode uMod_getNew.2.1 66 = .ok (.getfield 117, 3) := by decide +kernel
theorem dMod_getNew_69 : decode uMod_getNew.2.1 69 = .ok (.iconst 3, 1) := by decide +kernel
theorem dMod_getNew_70 : decode uMod_getNew.2.1 70 = .ok (.iload_n 1, 1) := by decide +kernel
theorem dMod_getNew_71 : decode uMod_getNew.2.1 71 = .ok (.imul, 1) := by decide +kernel
theorem dMod_getNew_72 : decode uMod_getNew.2.1 72 = .ok (.iconst 1, 1) := by decide +kernel
theorem dMod_getNew_73 : decode uMod_getNew.2.1 73 = .ok (.iadd, 1) := by decide +kernel
theorem dMod_getNew_74 : decode uMod_getNew.2.1 74 = .ok (.iaload, 1) := by decide +kernel
theorem dMod_getNew_75 : decode uMod_getNew.2.1 75 = .ok (.if_icmp .lt 7, 3) := by decide +kernel
theorem dMod_getNew_78 : decode uMod_getNew.2.1 78 = .ok (.iconst 1, 1) := by decide +kernel
theorem dMod_getNew_79 : decode uMod_getNew.2.1 79 = .ok (.goto 4, 3) := by decide +kernel
theorem dMod_getNew_82 : decode uMod_getNew.2.1 82 = .ok (.iconst 0, 1) := by decide +kernel
theorem dMod_getNew_83 : decode uMod_getNew.2.1 83 = .ok (.istore 5, 2) := by decide +kernel
theorem dMod_getNew_85 : decode uMod_getNew.2.1 85 = .ok (.aload_n 0, 1) := by decide +kernel
theorem dMod_getNew_86 : decode uMod_getNew.2.1 86 = .ok (.getfield 51, 3) := by decide +kernel
theorem dMod_getNew_89 : decode uMod_getNew.2.1 89 = .ok (.iload 4, 2) := by decide +kernel
theorem dMod_getNew_91 : decode uMod_getNew.2.1 91 = .ok (.iconst 1, 1) := by decide +kernel
theorem dMod_getNew_92 : decode uMod_getNew.2.1 92 = .ok (.bastore, 1) := by decide +kernel
theorem dMod_getNew_93 : decode uMod_getNew.2.1 93 = .ok (.iload 5, 2) := by decide +kernel
theorem dMod_getNew_95 : decode uMod_getNew.2.1 95 = .ok (.ifCond .eq 27, 3) := by decide +kernel
theorem dMod_getNew_98 : decode uMod_getNew.2.1 98 = .ok (.aload_n 0, 1) := by decide +kernel
theorem dMod_getNew_99 : decode uMod_getNew.2.1 99 = .ok (.getfield 54, 3) := by decide +kernel
theorem dMod_getNew_102 : decode uMod_getNew.2.1 102 = .ok (.iload 4, 2) := by decide +kernel
theorem dMod_getNew_104 : decode uMod_getNew.2.1 104 = .ok (.iconst 1, 1) := by decide +kernel
theorem dMod_getNew_105 : decode uMod_getNew.2.1 105 = .ok (.bastore, 1) := by decide +kernel
theorem dMod_getNew_106 : decode uMod_getNew.2.1 106 = .ok (.aload_n 0, 1) := by decide +kernel
theorem dMod_getNew_107 : decode uMod_getNew.2.1 107 = .ok (.iconst 1, 1) := by decide +kernel
theorem dMod_getNew_108 : decode uMod_getNew.2.1 108 = .ok (.iload_n 1, 1) := by decide +kernel
theorem dMod_getNew_109 : decode uMod_getNew.2.1 109 = .ok (.isub, 1) := by decide +kernel
theorem dMod_getNew_110 : decode uMod_getNew.2.1 110 = .ok (.iconst 3, 1) := by decide +kernel
theorem dMod_getNew_111 : decode uMod_getNew.2.1 111 = .ok (.iload_n 2, 1) := by decide +kernel
theorem dMod_getNew_112 : decode uMod_getNew.2.1 112 = .ok (.bipush 7, 2) := by decide +kernel
theorem dMod_getNew_114 : decode uMod_getNew.2.1 114 = .ok (.iconst 0, 1) := by decide +kernel
theorem dMod_getNew_115 : decode uMod_getNew.2.1 115 = .ok (.invokevirtual 182, 3) := by decide +kernel
theorem dMod_getNew_118 : decode uMod_getNew.2.1 118 = .ok (.pop, 1) := by decide +kernel
theorem dMod_getNew_119 : decode uMod_getNew.2.1 119 = .ok (.bipush 7, 2) := by decide +kernel
theorem dMod_getNew_121 : decode uMod_getNew.2.1 121 = .ok (.ireturn, 1) := by decide +kernel
theorem dMod_getNew_122 : decode uMod_getNew.2.1 122 = .ok (.aload_n 0, 1) := by decide +kernel
theorem dMod_getNew_123 : decode uMod_getNew.2.1 123 = .ok (.iload 4, 2) := by decide +kernel
theorem dMod_getNew_125 : decode uMod_getNew.2.1 125 = .ok (.invokevirtual 269, 3) := by decide +kernel
theorem dMod_getNew_128 : decode uMod_getNew.2.1 128 = .ok (.aload_n 0, 1) := by decide +kernel
theorem dMod_getNew_129 : decode uMod_getNew.2.1 129 = .ok (.getfield 60, 3) := by decide +kernel
theorem dMod_getNew_132 : decode uMod_getNew.2.1 132 = .ok (.iload 4, 2) := by decide +kernel
theorem dMod_getNew_134 : decode uMod_getNew.2.1 134 = .ok (.iload_n 3, 1) := by decide +kernel
theorem dMod_getNew_135 : decode uMod_getNew.2.1 135 = .ok (.bastore, 1) := by decide +kernel
theorem dMod_getNew_136 : decode uMod_getNew.2.1 136 = .ok (.iconst 0, 1) := by decide +kernel
theorem dMod_getNew_137 : decode uMod_getNew.2.1 137 = .ok (.ireturn, 1) := by decide +kernel
theorem fs_Mod_63 : fS "InterleavedLinkModel" 63 10 17 := ⟨"InterleavedLinkModel", T_Mod, 56, cf_Mod, by decide, Or.inl (gW_in 878 (by decide +kernel) rfl)⟩
theorem cs_Mod_269 : cV "InterleavedLinkModel" 269 uMod_keepList 1 := ⟨⟨Or.inl (gW_in 1137 (by decide +kernel) rfl), (gW_in 74 (by decide +kernel) rfl), (gW_in 1140 (by decide +kernel) rfl), ⟨by decide, by decide⟩, by decide +kernel⟩, (gW_in 1139 (by decide +kernel) rfl), (gW_in 48 (by decide +kernel) rfl)⟩
/-! ===== the reference over the state: lists kept, requests, data ===== -/
def kpP (i : Nat) (a j : Nat) : Prop := ((a = 187 ∨ a = 194) ∧ j = i) ∨ ((a = 195 ∨ a = 196) ∧ 6 * i ≤ j ∧ j < 6 * i + 6)
def kpI (M M1 : mM) (i n : Nat) (L : List (Int32 × Int32)) : Prop := Chg M M1 (kpP i) no2 ∧ Rcame M1 i = 1 ∧ Rfields M1 i = nI L.length ∧ ∀ j x, j < n → L[j]? = some x → RfieldName M1 (6 * i + j) = x.1 ∧ RfieldValue M1 (6 * i + j) = x.2
theorem kpI_st {M M1 : mM} {i n : Nat} {L : List (Int32 × Int32)} {x : Int32 × Int32} (h : kpI M M1 i n L) (hn : n < 6) (hx : L[n]? = some x) : kpI M (setI (setI M1 195 (6 * i + n) x.1) 196 (6 * i + n) x.2) i (n + 1) L := by
  obtain ⟨h1, h2, h3, h4⟩ := h
  refine ⟨(h1.setI (Or.inl (Or.inr ⟨Or.inl rfl, by omega, by omega⟩))).setI (Or.inl (Or.inr ⟨Or.inr rfl, by omega, by omega⟩)), (sI_a (by decide)).trans ((sI_a (by decide)).trans h2), (sI_a (by decide)).trans ((sI_a (by decide)).trans h3), fun j y hj hy => ?_⟩
  show mI _ 195 _ = _ ∧ mI _ 196 _ = _
  by_cases q : j = n
  · subst q
    rw [hx] at hy
    cases hy
    exact ⟨by rw [sI_a (by decide), sI_s], by rw [sI_s]⟩
  · rw [sI_a (by decide), sI_k (by omega), sI_k (by omega), sI_a (by decide)]
    exact h4 j y (by omega) hy
set_option maxRecDepth 100000 in
set_option maxHeartbeats 4000000 in
theorem g_kpM {X : mX} {l : Launch} {M : mM} {i : Nat} {L : List (Int32 × Int32)} {Q : Option Value → mM → Prop} (hSM : Shp M) (hi : i < 24) (hLM : LiR M L) (hq : ∀ M', kpI M M' i L.length L → Q none M') : ∀ (j n : Nat), n + j = L.length → ∀ M1, kpI M M1 i n L → G X l uMod_keepList (rk 0 0) 0 0 M1 19 [some (.ref 169), some (.int (nI i)), some (.int (nI n))] [] Q
  | 0, n, hn, M1, hI => by
    have hS := hSM.mv hI.1 (fun _ _ q => q.elim)
    have hLi := hLM.mv hI.1 hSM.1 (fun a j q => by unfold kpP at q; omega)
    have hl6 := hLi.2.1
    have hn : n = L.length := by omega
    subst hn
    refine g_iload_n 19 dMod_keepList_19 rfl ?_
    refine g_aload_n 20 dMod_keepList_20 rfl ?_
    refine g_geti 21 10 52 dMod_keepList_21 fs_Mod_238 rfl hS.mod ?_
    refine g_top (nI (L.length)) (hLi.1) ?_
    refine g_icmp_geN 24 67 dMod_keepList_24 rfl (by omega) (by omega) (fun h24 => ?_) (fun h24 => ?_)
    · exact g_vret 67 dMod_keepList_67 rfl (hq M1 hI)
    · exact absurd (Nat.le_refl _) h24
  | j + 1, n, hn, M1, hI => by
    have hS := hSM.mv hI.1 (fun _ _ q => q.elim)
    have hLi := hLM.mv hI.1 hSM.1 (fun a j q => by unfold kpP at q; omega)
    have hl6 := hLi.2.1
    have hlt : n < L.length := by omega
    have hx : L[n]? = some L[n] := List.getElem?_eq_getElem hlt
    have ih := g_kpM (X := X) (l := l) hSM hi hLM hq j (n + 1) (by omega)
    refine g_iload_n 19 dMod_keepList_19 rfl ?_
    refine g_aload_n 20 dMod_keepList_20 rfl ?_
    refine g_geti 21 10 52 dMod_keepList_21 fs_Mod_238 rfl hS.mod ?_
    refine g_top (nI (L.length)) (hLi.1) ?_
    refine g_icmp_geN 24 67 dMod_keepList_24 rfl (by omega) (by omega) (fun h24 => ?_) (fun h24 => ?_)
    · exact absurd h24 (by omega)
    · refine g_aload_n 27 dMod_keepList_27 rfl ?_
      refine g_getr 28 10 25 dMod_keepList_28 fs_Mod_87 rfl hS.mod hS.R_fieldName ?_
      refine g_bipush 31 (nI 6) dMod_keepList_31 rfl ?_
      refine g_iload_n 33 dMod_keepList_33 rfl ?_
      refine g_imulN 34 dMod_keepList_34 ?_
      refine g_iload_n 35 dMod_keepList_35 rfl ?_
      refine g_iaddN 36 dMod_keepList_36 ?_
      refine g_aload_n 37 dMod_keepList_37 rfl ?_
      refine g_getr 38 10 53 dMod_keepList_38 fs_Mod_165 rfl hS.mod hS.R_listName ?_
      refine g_iload_n 41 dMod_keepList_41 rfl ?_
      refine g_ialdN 42 dMod_keepList_42 hS.T_listName (by omega) (by decide) ?_
      refine g_top (L[n].1) ((hLi.2.2 n L[n] hx).1) ?_
      refine g_iastN 43 dMod_keepList_43 hS.T_fieldName (by omega) (by decide) ?_
      refine g_aload_n 44 dMod_keepList_44 rfl ?_
      refine g_getr 45 10 26 dMod_keepList_45 fs_Mod_90 rfl hS.mod hS.R_fieldValue ?_
      refine g_bipush 48 (nI 6) dMod_keepList_48 rfl ?_
      refine g_iload_n 50 dMod_keepList_50 rfl ?_
      refine g_imulN 51 dMod_keepList_51 ?_
      refine g_iload_n 52 dMod_keepList_52 rfl ?_
      refine g_iaddN 53 dMod_keepList_53 ?_
      refine g_aload_n 54 dMod_keepList_54 rfl ?_
      refine g_getr 55 10 54 dMod_keepList_55 fs_Mod_168 rfl hS.mod hS.R_listValue ?_
      refine g_iload_n 58 dMod_keepList_58 rfl ?_
      refine g_ialdN 59 dMod_keepList_59 hS.T_listValue (by omega) (by decide) ?_
      refine g_top (L[n].2) ((sI_a (by decide)).trans (hLi.2.2 n L[n] hx).2) ?_
      refine g_iastN 60 dMod_keepList_60 hS.T_fieldValue (by omega) (by decide) ?_
      refine g_iincN 61 dMod_keepList_61 rfl (by decide) rfl ?_
      refine g_goto 64 19 dMod_keepList_64 rfl ?_
      exact ih _ (kpI_st hI (by omega) hx)
set_option maxRecDepth 100000 in
set_option maxHeartbeats 4000000 in
theorem ct_keepM0 {X : mX} {l : Launch} {M : mM} {A : zA} {e k : Nat} (hR : RR M A) (he : e < 2) (hk : k < 12) {L : List (Int32 × Int32)} (hLi : LiR M L) : Ct X l uMod_keepList (rk 0 0) [.ref 169, .int (nI (12 * e + k))] M (fun r M' => r = none ∧ RR M' (yL A e k (some L)) ∧ Chg M M' (kpP (12 * e + k)) no2) := by
  refine Ct.of (by decide) (Nat.le_of_ble_eq_true rfl) ?_
  show G X l uMod_keepList (rk 0 0) 0 0 M 0 [some (.ref 169), some (.int (nI (12 * e + k))), none] [] _
  have hC : Chg M M mP no2 := Chg.rf
  refine g_aload_n 0 dMod_keepList_0 rfl ?_
  refine g_getr 1 10 17 dMod_keepList_1 fs_Mod_63 rfl hR.1.mod hR.1.R_came ?_
  refine g_iload_n 4 dMod_keepList_4 rfl ?_
  refine g_iconst 5 1 dMod_keepList_5 rfl ?_
  refine g_zastN 6 dMod_keepList_6 hR.1.T_came (by omega) (by decide) (by decide) ?_
  refine g_aload_n 7 dMod_keepList_7 rfl ?_
  refine g_getr 8 10 24 dMod_keepList_8 fs_Mod_84 rfl hR.1.mod hR.1.R_fields ?_
  refine g_iload_n 11 dMod_keepList_11 rfl ?_
  refine g_aload_n 12 dMod_keepList_12 rfl ?_
  refine g_geti 13 10 52 dMod_keepList_13 fs_Mod_238 rfl hR.1.mod ?_
  refine g_top (nI (L.length)) ((sI_a (by decide)).trans hLi.1) ?_
  refine g_iastN 16 dMod_keepList_16 hR.1.T_fields (by omega) (by decide) ?_
  refine g_iconst 17 (nI 0) dMod_keepList_17 rfl ?_
  refine g_istore_n 18 dMod_keepList_18 (by decide) rfl ?_
  have hl6 := hLi.2.1
  refine g_kpM hR.1 (by omega) hLi (fun M1 hI => ⟨rfl, ?_, hI.1⟩) L.length 0 (Nat.zero_add _) _ ⟨(Chg.rf.setI (Or.inl (Or.inl ⟨Or.inl rfl, rfl⟩))).setI (Or.inl (Or.inl ⟨Or.inr rfl, rfl⟩)), (sI_a (by decide)).trans up2_same, up2_same, fun j x hj => absurd hj (Nat.not_lt_zero _)⟩
  exact hR.yL he hk ⟨fun q => (by cases q), fun L2 q => by cases q; exact ⟨hI.2.1, hI.2.2.1, hl6, fun j x hx => hI.2.2.2 j x (List.getElem?_eq_some_iff.mp hx).1 hx⟩⟩ hI.1

theorem ct_keepM {X : mX} {l : Launch} {M : mM} {A : zA} {e k : Nat} {L : List (Int32 × Int32)} (hR : RR M A) (he : e < 2) (hk : k < 12) (hLi : LiR M L) : Ct X l uMod_keepList (rk 0 0) [.ref 169, .int (nI (12 * e + k))] M (fun r M' => r = none ∧ RR M' (yL A e k (some L)) ∧ Chg M M' mP no2) := (ct_keepM0 hR he hk hLi).post fun r M' h => ⟨h.1, h.2.1, mp h.2.2 fun a j q => by unfold kpP at q; omega⟩
section RRG
variable {M : mM} {A : zA} {e k : Nat}
/-- flags of a stream set, with its state -/
theorem RR.fl {M' : mM} {f : Nat → Nat → Int32} (h : RR M A) (he : e < 2) (hk : k < 12) (hf : ∀ a j, a ≠ 29 + 80 * e + 5 * k → f a j = zI A a j) (c : Chg M M' (fun a j => 183 ≤ a ∧ a ≤ 186 ∧ j = 12 * e + k) no2) (h1 : stR (f (29 + 80 * e + 5 * k) 1) (f (29 + 80 * e + 5 * k) 2) (Ropened M' (12 * e + k)) (Rcut M' (12 * e + k)) (RsentEnd M' (12 * e + k)) (RgotEnd M' (12 * e + k))) (h2 : f (29 + 80 * e + 5 * k) 1 = 0 → zI A (29 + 80 * e + 5 * k) 1 = 0) (h3 : (f (29 + 80 * e + 5 * k) 1 = 1 ∨ f (29 + 80 * e + 5 * k) 1 = 2 ∨ f (29 + 80 * e + 5 * k) 1 = 3) → Rtold M (3 * e + 2) + Rcredit M (12 * e + k) - Rsent M (12 * e + k) = f (29 + 80 * e + 5 * k) 3 ∧ Rforce M (3 * e + 2) + Rback M (12 * e + k) - Rgot M (12 * e + k) = f (29 + 80 * e + 5 * k) 4) (h5 : f (29 + 80 * e + 5 * k) 5 = zI A (29 + 80 * e + 5 * k) 5) (h6 : f (29 + 80 * e + 5 * k) 6 = zI A (29 + 80 * e + 5 * k) 6) : RR M' (yII A f) := by
  have hN := h.1.1
  have u : ∀ a j, 187 ≤ a → a < 223 → mI M' a j = mI M a j := fun a j p p2 => c.2.2.1 a j (by omega) (by omega)
  obtain ⟨g1, g2, g3, g4, g5⟩ := h.stk he hk
  refine h.yS he hk hf (c.mono (fun a j q => by omega) fun _ _ q => q) ⟨h1, fun q => ?_, fun q => ?_, fun q => ?_, ?_⟩
  · have := g2 (h2 q)
    refine ⟨(u 190 _ (by omega) (by omega)).trans this.1, (u 191 _ (by omega) (by omega)).trans this.2.1, (u 192 _ (by omega) (by omega)).trans this.2.2.1, (u 193 _ (by omega) (by omega)).trans this.2.2.2⟩
  · have := h3 q
    show mI M' 206 _ + mI M' 191 _ - mI M' 190 _ = _ ∧ mI M' 205 _ + mI M' 193 _ - mI M' 192 _ = _
    rw [u 206 _ (by omega) (by omega), u 191 _ (by omega) (by omega), u 190 _ (by omega) (by omega), u 205 _ (by omega) (by omega), u 193 _ (by omega) (by omega), u 192 _ (by omega) (by omega)]
    exact this
  · exact (u 188 _ (by omega) (by omega)).trans ((g4 q).trans h5.symm)
  · exact (u 189 _ (by omega) (by omega)).trans (g5.trans h6.symm)
/-- the end of a stream got -/
theorem RR.eG (h : RR M A) (he : e < 2) (hk : k < 12) (hg : zI A (29 + 80 * e + 5 * k) 1 = 1 ∨ zI A (29 + 80 * e + 5 * k) 1 = 2) {z : Int32} (hz : z = 0 ∨ z = 1) : RR (setI M 186 (12 * e + k) z) (if z = 0 then A else endG A e k) := by
  obtain ⟨g1, g2, g3, g4, g5⟩ := h.stk he hk
  have c : Chg M (setI M 186 (12 * e + k) z) (fun a j => 183 ≤ a ∧ a ≤ 186 ∧ j = 12 * e + k) no2 := Chg.rf.setI (Or.inl ⟨by omega, by omega, rfl⟩)
  have r0 : Ropened (setI M 186 (12 * e + k) z) (12 * e + k) = Ropened M (12 * e + k) := sI_a (by decide)
  have r1 : Rcut (setI M 186 (12 * e + k) z) (12 * e + k) = Rcut M (12 * e + k) := sI_a (by decide)
  have r2 : RsentEnd (setI M 186 (12 * e + k) z) (12 * e + k) = RsentEnd M (12 * e + k) := sI_a (by decide)
  have r3 : RgotEnd (setI M 186 (12 * e + k) z) (12 * e + k) = z := sI_s
  rcases hz with rfl | rfl
  · rw [if_pos rfl]
    refine h.fl (f := zI A) he hk (fun _ _ _ => rfl) c ?_ (fun q => q) g3 rfl rfl
    rw [r0, r1, r2, r3]
    rcases hg with q | q
    · rcases g1 with w | w | w | w | w | w <;> first | exact absurd (w.1.symm.trans q) (by decide) | exact Or.inr (Or.inl ⟨w.1, w.2.1, w.2.2.1, w.2.2.2.1, w.2.2.2.2.1, rfl⟩)
    · rcases g1 with w | w | w | w | w | w <;> first | exact absurd (w.1.symm.trans q) (by decide) | exact Or.inr (Or.inr (Or.inl ⟨w.1, w.2.1, w.2.2.1, w.2.2.2.1, w.2.2.2.2.1, rfl⟩))
  · rw [if_neg (by decide)]
    unfold endG
    rcases hg with q | q
    · rw [if_pos q]
      refine h.fl (f := up2 (zI A) (29 + 80 * e + 5 * k) 1 3) he hk (fun a j p => up2_a p) c ?_ (fun w => absurd (up2_same.symm.trans w) (by decide)) (fun _ => by rw [up2_k (by decide), up2_k (by decide)]; exact g3 (Or.inl q)) (up2_k (by decide)) (up2_k (by decide))
      rw [r0, r1, r2, r3, up2_same, up2_k (by decide)]
      rcases g1 with w | w | w | w | w | w <;> first | exact absurd (w.1.symm.trans q) (by decide) | exact Or.inr (Or.inr (Or.inr (Or.inl ⟨rfl, w.2.1, w.2.2.1, w.2.2.2.1, w.2.2.2.2.1, rfl⟩)))
    · rw [if_neg (by rw [q]; decide)]
      refine h.fl (f := up2 (zI A) (29 + 80 * e + 5 * k) 1 4) he hk (fun a j p => up2_a p) c ?_ (fun w => absurd (up2_same.symm.trans w) (by decide)) (fun w => by rcases w with w | w | w <;> exact absurd (up2_same.symm.trans w) (by decide)) (up2_k (by decide)) (up2_k (by decide))
      rw [r0, r1, r2, r3, up2_same, up2_k (by decide)]
      rcases g1 with w | w | w | w | w | w <;> first | exact absurd (w.1.symm.trans q) (by decide) | exact Or.inr (Or.inr (Or.inr (Or.inr (Or.inl ⟨rfl, w.2.1, w.2.2.1, w.2.2.2.1, w.2.2.2.2.1, rfl⟩))))
/-- an idle stream opened -/
theorem RR.opnS (h : RR M A) (he : e < 2) (hk : k < 12) (hs : zI A (29 + 80 * e + 5 * k) 1 = 0) : RR (setI M 183 (12 * e + k) 1) (opnA A e k (zI A (25 + 80 * e) 2) (zI A (26 + 80 * e) 2)) := by
  obtain ⟨g1, g2, g3, g4, g5⟩ := h.stk he hk
  obtain ⟨s1, s2, s3, s4⟩ := g2 hs
  have c : Chg M (setI M 183 (12 * e + k) 1) (fun a j => 183 ≤ a ∧ a ≤ 186 ∧ j = 12 * e + k) no2 := Chg.rf.setI (Or.inl ⟨by omega, by omega, rfl⟩)
  have r0 : Ropened (setI M 183 (12 * e + k) 1) (12 * e + k) = 1 := sI_s
  have r1 : Rcut (setI M 183 (12 * e + k) 1) (12 * e + k) = Rcut M (12 * e + k) := sI_a (by decide)
  have r2 : RsentEnd (setI M 183 (12 * e + k) 1) (12 * e + k) = RsentEnd M (12 * e + k) := sI_a (by decide)
  have r3 : RgotEnd (setI M 183 (12 * e + k) 1) (12 * e + k) = RgotEnd M (12 * e + k) := sI_a (by decide)
  have e1 : zI (opnA A e k (zI A (25 + 80 * e) 2) (zI A (26 + 80 * e) 2)) (29 + 80 * e + 5 * k) 1 = 1 := (up2_k (by decide)).trans ((up2_k (by decide)).trans up2_same)
  have eo : ∀ j, j = 2 ∨ j = 5 ∨ j = 6 → zI (opnA A e k (zI A (25 + 80 * e) 2) (zI A (26 + 80 * e) 2)) (29 + 80 * e + 5 * k) j = zI A (29 + 80 * e + 5 * k) j := fun j hj => (up2_k (by omega)).trans ((up2_k (by omega)).trans (up2_k (by omega)))
  refine h.fl (f := zI (opnA A e k (zI A (25 + 80 * e) 2) (zI A (26 + 80 * e) 2))) he hk (fun a j p => (up2_a p).trans ((up2_a p).trans (up2_a p))) c ?_ (fun w => absurd (e1.symm.trans w) (by decide)) (fun _ => ?_) (eo 5 (by omega)) (eo 6 (by omega))
  · rw [r0, r1, r2, r3, e1, eo 2 (by omega)]
    rcases g1 with w | w | w | w | w | w <;> first | exact absurd (w.1.symm.trans hs) (by decide) | exact Or.inr (Or.inl ⟨rfl, w.2.1, rfl, w.2.2.2.1, w.2.2.2.2.1, w.2.2.2.2.2⟩)
  · obtain ⟨⟨a1, a2, a3⟩, ⟨b1, b2⟩, _⟩ := h.se he
    rw [s1, s2, s3, s4, b2, a3]
    have x3 : zI (opnA A e k (zI A (25 + 80 * e) 2) (zI A (26 + 80 * e) 2)) (29 + 80 * e + 5 * k) 3 = zI A (25 + 80 * e) 2 := (up2_k (by decide)).trans up2_same
    have x4 : zI (opnA A e k (zI A (25 + 80 * e) 2) (zI A (26 + 80 * e) 2)) (29 + 80 * e + 5 * k) 4 = zI A (26 + 80 * e) 2 := up2_same
    rw [x3, x4, Int32.add_zero, Int32.sub_zero, Int32.add_zero, Int32.sub_zero]
    exact ⟨rfl, rfl⟩
/-- an idle stream closed -/
theorem RR.clS (h : RR M A) (he : e < 2) (hk : k < 12) (hs : zI A (29 + 80 * e + 5 * k) 1 = 0) : RR (setI (setI (setI M 183 (12 * e + k) 1) 185 (12 * e + k) 1) 186 (12 * e + k) 1) (yI A (29 + 80 * e + 5 * k) 1 4) := by
  obtain ⟨g1, g2, g3, g4, g5⟩ := h.stk he hk
  have c : Chg M (setI (setI (setI M 183 (12 * e + k) 1) 185 (12 * e + k) 1) 186 (12 * e + k) 1) (fun a j => 183 ≤ a ∧ a ≤ 186 ∧ j = 12 * e + k) no2 := ((Chg.rf.setI (Or.inl ⟨by omega, by omega, rfl⟩)).setI (Or.inl ⟨by omega, by omega, rfl⟩)).setI (Or.inl ⟨by omega, by omega, rfl⟩)
  refine h.fl (f := up2 (zI A) (29 + 80 * e + 5 * k) 1 4) he hk (fun a j p => up2_a p) c ?_ (fun w => absurd (up2_same.symm.trans w) (by decide)) (fun w => by rcases w with w | w | w <;> exact absurd (up2_same.symm.trans w) (by decide)) (up2_k (by decide)) (up2_k (by decide))
  rw [up2_same, up2_k (by decide)]
  have r0 : Ropened (setI (setI (setI M 183 (12 * e + k) 1) 185 (12 * e + k) 1) 186 (12 * e + k) 1) (12 * e + k) = 1 := (sI_a (by decide)).trans ((sI_a (by decide)).trans sI_s)
  have r1 : Rcut (setI (setI (setI M 183 (12 * e + k) 1) 185 (12 * e + k) 1) 186 (12 * e + k) 1) (12 * e + k) = Rcut M (12 * e + k) := (sI_a (by decide)).trans ((sI_a (by decide)).trans (sI_a (by decide)))
  have r2 : RsentEnd (setI (setI (setI M 183 (12 * e + k) 1) 185 (12 * e + k) 1) 186 (12 * e + k) 1) (12 * e + k) = 1 := (sI_a (by decide)).trans sI_s
  have r3 : RgotEnd (setI (setI (setI M 183 (12 * e + k) 1) 185 (12 * e + k) 1) 186 (12 * e + k) 1) (12 * e + k) = 1 := sI_s
  rw [r0, r1, r2, r3]
  rcases g1 with w | w | w | w | w | w <;> first | exact absurd (w.1.symm.trans hs) (by decide) | exact Or.inr (Or.inr (Or.inr (Or.inr (Or.inl ⟨rfl, w.2.1, rfl, w.2.2.2.1, rfl, rfl⟩))))
/-- an idle stream opened and cut at once -/
theorem RR.rfS (h : RR M A) (he : e < 2) (hk : k < 12) (hs : zI A (29 + 80 * e + 5 * k) 1 = 0) (hw : zW A e k = []) (hu : unrd (zU A e) k = []) : RR (setI (setI M 183 (12 * e + k) 1) 184 (12 * e + k) 1) (cutA A e k) := by
  obtain ⟨g1, g2, g3, g4, g5⟩ := h.stk he hk
  have c : Chg M (setI (setI M 183 (12 * e + k) 1) 184 (12 * e + k) 1) (fun a j => 183 ≤ a ∧ a ≤ 186 ∧ j = 12 * e + k) no2 := (Chg.rf.setI (Or.inl ⟨by omega, by omega, rfl⟩)).setI (Or.inl ⟨by omega, by omega, rfl⟩)
  have r0 : Ropened (setI (setI M 183 (12 * e + k) 1) 184 (12 * e + k) 1) (12 * e + k) = 1 := (sI_a (by decide)).trans sI_s
  have r1 : Rcut (setI (setI M 183 (12 * e + k) 1) 184 (12 * e + k) 1) (12 * e + k) = 1 := sI_s
  have r2 : RsentEnd (setI (setI M 183 (12 * e + k) 1) 184 (12 * e + k) 1) (12 * e + k) = RsentEnd M (12 * e + k) := (sI_a (by decide)).trans (sI_a (by decide))
  have r3 : RgotEnd (setI (setI M 183 (12 * e + k) 1) 184 (12 * e + k) 1) (12 * e + k) = RgotEnd M (12 * e + k) := (sI_a (by decide)).trans (sI_a (by decide))
  have e1 : up2 (up2 (zI A) (29 + 80 * e + 5 * k) 1 4) (29 + 80 * e + 5 * k) 2 1 (29 + 80 * e + 5 * k) 1 = 4 := (up2_k (by decide)).trans up2_same
  have key : RR (setI (setI M 183 (12 * e + k) 1) 184 (12 * e + k) 1) (yI (yI A (29 + 80 * e + 5 * k) 1 4) (29 + 80 * e + 5 * k) 2 1) := by
    refine h.fl (f := up2 (up2 (zI A) (29 + 80 * e + 5 * k) 1 4) (29 + 80 * e + 5 * k) 2 1) he hk (fun a j p => (up2_a p).trans (up2_a p)) c ?_ (fun w => absurd (e1.symm.trans w) (by decide)) (fun w => by rcases w with w | w | w <;> exact absurd (e1.symm.trans w) (by decide)) ((up2_k (by decide)).trans (up2_k (by decide))) ((up2_k (by decide)).trans (up2_k (by decide)))
    rw [r0, r1, r2, r3, e1, up2_same]
    rcases g1 with w | w | w | w | w | w <;> first | exact absurd (w.1.symm.trans hs) (by decide) | exact Or.inr (Or.inr (Or.inr (Or.inr (Or.inr ⟨rfl, rfl, rfl, rfl, Or.inl w.2.2.2.2.1, Or.inl w.2.2.2.2.2⟩))))
  have hU : unU (zU A e) k = zU A e := by
    rw [← tkU_all (zU A e) k 0 (by rw [hu]; exact Nat.le_refl _), tkU_0]
  have hz : cutA A e k = yI (yI A (29 + 80 * e + 5 * k) 1 4) (29 + 80 * e + 5 * k) 2 1 := by
    unfold cutA
    rw [hU]
    have w1 : up2 (zW A) e k [] = zW A := by
      funext a j
      unfold up2
      split
      · rename_i q
        obtain ⟨rfl, rfl⟩ := q
        exact hw.symm
      · rfl
    have w2 : upf (zU A) e (zU A e) = zU A := by
      funext a
      unfold upf
      split
      · rename_i q
        rw [q]
      · rfl
    show (_, zP A, up2 (zW A) e k [], upf (zU A) e (zU A e), _) = (_, zP A, zW A, zU A, _)
    rw [w1, w2]
    rfl
  rw [hz]
  exact key
end RRG
set_option maxRecDepth 100000 in
set_option maxHeartbeats 4000000 in
theorem g_clM {X : mX} {l : Launch} {M : mM} {A : zA} {e k : Nat} {z : Int32} {Q : Option Value → mM → Prop} (he : e < 2) (hk : k < 12) {L : List (Int32 × Int32)} (hq : ∀ M', RR M' (clI A e k) → Chg M M' mP no2 → LiR M' L → G X l uMod_getNew (rk 3 66) 0 0 M' 60 [some (.ref 169), some (.int (nI e)), some (.int (nI (2 * k + 1))), some (.int z), some (.int (nI (12 * e + k))), some (.int (nI (12 * e + k)))] [] Q) : ∀ (j n : Nat), n + j = k → ∀ M1, RR M1 (clI A e n) → Chg M M1 mP no2 → LiR M1 L → G X l uMod_getNew (rk 3 66) 0 0 M1 13 [some (.ref 169), some (.int (nI e)), some (.int (nI (2 * k + 1))), some (.int z), some (.int (nI (12 * e + k))), some (.int (nI (12 * e + n)))] [] Q
  | 0, n, hn, M1, hR1, hC1, hLi => by
    have hn : n = k := by omega
    subst hn
    refine g_iload 13 dMod_getNew_13 rfl ?_
    refine g_iload 15 dMod_getNew_15 rfl ?_
    refine g_icmp_geN 17 60 dMod_getNew_17 rfl (by omega) (by omega) (fun h17 => ?_) (fun h17 => ?_)
    · exact hq M1 hR1 hC1 hLi
    · exact absurd (Nat.le_refl _) h17
  | j + 1, n, hn, M1, hR1, hC1, hLi => by
    have hn2 : n < 12 := by omega
    have ih := g_clM (X := X) (l := l) he hk hq j (n + 1) (by omega)
    refine g_iload 13 dMod_getNew_13 rfl ?_
    refine g_iload 15 dMod_getNew_15 rfl ?_
    refine g_icmp_geN 17 60 dMod_getNew_17 rfl (by omega) (by omega) (fun h17 => ?_) (fun h17 => ?_)
    · exact absurd h17 (by omega)
    · refine g_aload_n 20 dMod_getNew_20 rfl ?_
      refine g_getr 21 10 13 dMod_getNew_21 fs_Mod_51 rfl hR1.1.mod hR1.1.R_opened ?_
      refine g_iload 24 dMod_getNew_24 rfl ?_
      refine g_zaldN 26 dMod_getNew_26 hR1.1.T_opened (by omega) (by decide) ?_
      refine g_if_ne 27 54 dMod_getNew_27 rfl (fun h27 => ?_) (fun h27 => ?_)
      · have hz : clI A e (n + 1) = clI A e n := by rw [clI, if_neg (fun q => h27 ((hR1.opn he hn2).mpr q))]
        refine g_iincN 54 dMod_getNew_54 rfl (by decide) rfl ?_
        refine g_goto 57 13 dMod_getNew_57 rfl ?_
        exact ih _ (by rw [hz]; exact hR1) hC1 hLi
      · have h0 := (hR1.opn he hn2).mp h27
        have hz : clI A e (n + 1) = yI (clI A e n) (29 + 80 * e + 5 * n) 1 4 := by rw [clI, if_pos h0]
        refine g_aload_n 30 dMod_getNew_30 rfl ?_
        refine g_getr 31 10 13 dMod_getNew_31 fs_Mod_51 rfl hR1.1.mod hR1.1.R_opened ?_
        refine g_iload 34 dMod_getNew_34 rfl ?_
        refine g_iconst 36 1 dMod_getNew_36 rfl ?_
        refine g_zastN 37 dMod_getNew_37 hR1.1.T_opened (by omega) (by decide) (by decide) ?_
        refine g_aload_n 38 dMod_getNew_38 rfl ?_
        refine g_getr 39 10 15 dMod_getNew_39 fs_Mod_57 rfl hR1.1.mod hR1.1.R_sentEnd ?_
        refine g_iload 42 dMod_getNew_42 rfl ?_
        refine g_iconst 44 1 dMod_getNew_44 rfl ?_
        refine g_zastN 45 dMod_getNew_45 hR1.1.T_sentEnd (by omega) (by decide) (by decide) ?_
        refine g_aload_n 46 dMod_getNew_46 rfl ?_
        refine g_getr 47 10 16 dMod_getNew_47 fs_Mod_60 rfl hR1.1.mod hR1.1.R_gotEnd ?_
        refine g_iload 50 dMod_getNew_50 rfl ?_
        refine g_iconst 52 1 dMod_getNew_52 rfl ?_
        refine g_zastN 53 dMod_getNew_53 hR1.1.T_gotEnd (by omega) (by decide) (by decide) ?_
        refine g_iincN 54 dMod_getNew_54 rfl (by decide) rfl ?_
        refine g_goto 57 13 dMod_getNew_57 rfl ?_
        exact ih _ (by rw [hz]; exact hR1.clS he hn2 h0) (kM (kM (kM hC1 (by decide)) (by decide)) (by decide)) (hLi.mv (((Chg.rf.setI (PI := fun a j => 183 ≤ a ∧ a ≤ 186) (PR := no2) (Or.inl (by omega))).setI (Or.inl (by omega))).setI (Or.inl (by omega))) hR1.1.1 fun a j q => by omega)
theorem clI_I {A : zA} {e a i : Nat} : ∀ n, (∀ k, k < n → ¬ (a = 29 + 80 * e + 5 * k ∧ i = 1)) → zI (clI A e n) a i = zI A a i
  | 0, _ => rfl
  | n + 1, h => by
    unfold clI
    split
    · show up2 _ _ _ _ a i = _
      rw [up2_ne (h n (Nat.lt_succ_self _))]
      exact clI_I n fun k hk => h k (by omega)
    · exact clI_I n fun k hk => h k (by omega)
theorem clI_2 {A : zA} {e : Nat} : ∀ n, (clI A e n).2 = A.2
  | 0 => rfl
  | n + 1 => by
    unfold clI
    split
    · exact clI_2 n
    · exact clI_2 n
theorem ct_cntM {X : mX} {l : Launch} {M : mM} {A : zA} {e : Nat} (h : RR M A) (he : e < 2) : Ct X l uMod_activeAt (rk 2 43) [.ref 169, .int (nI e)] M (fun r M' => r = some (.int (nI (cntZ A e 12))) ∧ M' = M) := by rw [← h.cnt he 12 (Nat.le_refl _)]; exact ct_Mod_activeAt h.1 he
set_option maxRecDepth 100000 in
set_option maxHeartbeats 4000000 in
theorem g_newM {X : mX} {l : Launch} {M0 M : mM} {A : zA} {e k : Nat} {z : Int32} {L : List (Int32 × Int32)} (hR : RR M A) (hC : Chg M0 M mP no2) (he : e < 2) (hk : k < 12) (hs : zI A (29 + 80 * e + 5 * k) 1 = 0) (hw : zW A e k = []) (hu : unrd (zU A e) k = []) (hLi : LiR M L) (hz : z = 0 ∨ z = 1) (hp : (zP A (1 - e)).length ≤ 44) : G X l uMod_getNew (rk 3 66) 0 0 M 60 [some (.ref 169), some (.int (nI e)), some (.int (nI (2 * k + 1))), some (.int z), some (.int (nI (12 * e + k))), some (.int (nI (12 * e + k)))] [] (fun r M' => r = some (.int (gRq A e k L z).1) ∧ RR M' (gRq A e k L z).2 ∧ Chg M0 M' mP no2) := by
  refine g_aload_n 60 dMod_getNew_60 rfl ?_
  refine g_iload_n 61 dMod_getNew_61 rfl ?_
  refine g_callV 62 [_] dMod_getNew_62 cs_Mod_273 rfl (ci := 10) rfl (by decide) hR.1.mod rfl ⟨(Nat.le_of_ble_eq_true rfl), (Nat.le_of_ble_eq_true rfl)⟩ (Nat.le_of_ble_eq_true rfl) (ct_cntM hR he) (Nat.le_of_ble_eq_true rfl) (Nat.le_of_ble_eq_true rfl) ?_
  rintro _ M2 ⟨rfl, hM2⟩
  rw [hM2]
  clear hM2 M2
  refine g_aload_n 65 dMod_getNew_65 rfl ?_
  refine g_getr 66 10 36 dMod_getNew_66 fs_Mod_117 rfl hR.1.mod hR.1.R_force ?_
  refine g_iconst 69 (nI 3) dMod_getNew_69 rfl ?_
  refine g_iload_n 70 dMod_getNew_70 rfl ?_
  refine g_imulN 71 dMod_getNew_71 ?_
  refine g_iconst 72 (nI 1) dMod_getNew_72 rfl ?_
  refine g_iaddN 73 dMod_getNew_73 ?_
  refine g_ialdN 74 dMod_getNew_74 hR.1.T_force (by omega) (by decide) ?_
  refine g_top (zI A (26 + 80 * e) 1) ((hR.se he).1.2.1) ?_
  refine g_icmp_lt 75 82 dMod_getNew_75 rfl (fun h75 => ?_) (fun h75 => ?_)
  · refine g_iconst 82 0 dMod_getNew_82 rfl ?_
    refine g_istore 83 dMod_getNew_83 (by decide) rfl ?_
    refine g_aload_n 85 dMod_getNew_85 rfl ?_
    refine g_getr 86 10 13 dMod_getNew_86 fs_Mod_51 rfl hR.1.mod hR.1.R_opened ?_
    refine g_iload 89 dMod_getNew_89 rfl ?_
    refine g_iconst 91 1 dMod_getNew_91 rfl ?_
    refine g_zastN 92 dMod_getNew_92 hR.1.T_opened (by omega) (by decide) (by decide) ?_
    refine g_iload 93 dMod_getNew_93 rfl ?_
    refine g_if_eq 95 122 dMod_getNew_95 rfl (fun h95 => ?_) (fun h95 => ?_)
    · have hR1 := hR.opnS he hk hs
      have hC1 := kM hC (a := 183) (j := 12 * e + k) (v := 1) (by decide)
      have hLi9 : LiR (setI M 183 (12 * e + k) 1) L := hLi.mv (Chg.rf.setI (PI := fun a j => a = 183) (PR := no2) (Or.inl rfl)) hR.1.1 fun a j q => by omega
      refine g_aload_n 122 dMod_getNew_122 rfl ?_
      refine g_iload 123 dMod_getNew_123 rfl ?_
      refine g_callV 125 [_] dMod_getNew_125 cs_Mod_269 rfl (ci := 10) rfl (by decide) hR1.1.mod rfl ⟨(Nat.le_of_ble_eq_true rfl), (Nat.le_of_ble_eq_true rfl)⟩ (Nat.le_of_ble_eq_true rfl) (ct_keepM hR1 he hk hLi9) (Nat.le_of_ble_eq_true rfl) (Nat.le_of_ble_eq_true rfl) ?_
      rintro _ M2 ⟨rfl, hR2, hc⟩
      have hC2 := hC1.tr hc
      refine g_aload_n 128 dMod_getNew_128 rfl ?_
      refine g_getr 129 10 16 dMod_getNew_129 fs_Mod_60 rfl hR2.1.mod hR2.1.R_gotEnd ?_
      refine g_iload 132 dMod_getNew_132 rfl ?_
      refine g_iload_n 134 dMod_getNew_134 rfl ?_
      refine g_zastN 135 dMod_getNew_135 hR2.1.T_gotEnd (by omega) (by decide) hz ?_
      refine g_memM (hR2.eG he hk (Or.inl (show up2 (up2 (up2 (zI A) _ 1 1) _ 3 _) _ 4 _ _ 1 = 1 from (up2_k (by decide)).trans ((up2_k (by decide)).trans up2_same))) hz) (kM hC2 (by decide)) (fun M3 hR3 hC3 => ?_)
      refine g_iconst 136 0 dMod_getNew_136 rfl ?_
      exact g_iret 137 dMod_getNew_137 rfl (by unfold gRq; rw [if_pos h75]; exact ⟨rfl, hR3, hC3⟩)
    · exact absurd rfl h95
  · refine g_iconst 78 1 dMod_getNew_78 rfl ?_
    refine g_goto 79 83 dMod_getNew_79 rfl ?_
    refine g_istore 83 dMod_getNew_83 (by decide) rfl ?_
    refine g_aload_n 85 dMod_getNew_85 rfl ?_
    refine g_getr 86 10 13 dMod_getNew_86 fs_Mod_51 rfl hR.1.mod hR.1.R_opened ?_
    refine g_iload 89 dMod_getNew_89 rfl ?_
    refine g_iconst 91 1 dMod_getNew_91 rfl ?_
    refine g_zastN 92 dMod_getNew_92 hR.1.T_opened (by omega) (by decide) (by decide) ?_
    refine g_iload 93 dMod_getNew_93 rfl ?_
    refine g_if_eq 95 122 dMod_getNew_95 rfl (fun h95 => ?_) (fun h95 => ?_)
    · exact absurd h95 (by decide)
    · refine g_aload_n 98 dMod_getNew_98 rfl ?_
      refine g_getr 99 10 14 dMod_getNew_99 fs_Mod_54 rfl hR.1.mod hR.1.R_cut ?_
      refine g_iload 102 dMod_getNew_102 rfl ?_
      refine g_iconst 104 1 dMod_getNew_104 rfl ?_
      refine g_zastN 105 dMod_getNew_105 hR.1.T_cut (by omega) (by decide) (by decide) ?_
      refine g_memM (hR.rfS he hk hs hw hu) (kM (kM hC (by decide)) (by decide)) (fun M1 hR1 hC1 => ?_)
      refine g_aload_n 106 dMod_getNew_106 rfl ?_
      refine g_iconst 107 (nI 1) dMod_getNew_107 rfl ?_
      refine g_iload_n 108 dMod_getNew_108 rfl ?_
      refine g_isubN 109 dMod_getNew_109 (by omega) ?_
      refine g_iconst 110 3 dMod_getNew_110 rfl ?_
      refine g_iload_n 111 dMod_getNew_111 rfl ?_
      refine g_bipush 112 7 dMod_getNew_112 rfl ?_
      refine g_iconst 114 0 dMod_getNew_114 rfl ?_
      refine g_callV 115 [_, _, _, _, _] dMod_getNew_115 cs_Mod_182 rfl (ci := 10) rfl (by decide) hR1.1.mod rfl ⟨(Nat.le_of_ble_eq_true rfl), (Nat.le_of_ble_eq_true rfl)⟩ (Nat.le_of_ble_eq_true rfl) (ct_pushR hR1 (by omega) (show (zP A (1 - e)).length < 47 by omega) (Or.inl rfl) [] (fun q => absurd q (by decide)) (fun q => absurd q (by decide))) (Nat.le_of_ble_eq_true rfl) (Nat.le_of_ble_eq_true rfl) ?_
      rintro _ M2 ⟨sl, hsl, rfl, hla, hR2, hc⟩
      have hC2 := hC1.tr hc
      refine g_pop 118 dMod_getNew_118 rfl ?_
      refine g_bipush 119 7 dMod_getNew_119 rfl ?_
      exact g_iret 121 dMod_getNew_121 rfl (by unfold gRq; rw [if_neg h75]; exact ⟨rfl, hR2, hC2⟩)

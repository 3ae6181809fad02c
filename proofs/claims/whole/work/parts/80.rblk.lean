theorem dMod_does_0 : decode uMod_does.2.1 0 = .ok (.iconst 2, 1) := by decide +kernel
theorem dMod_does_1 : decode uMod_does.2.1 1 = .ok (.iload_n 1, 1) := by decide +kernel
theorem dMod_does_2 : decode uMod_does.2.1 2 = .ok (.imul, 1) := by decide +kernel
theorem dMod_does_3 : decode uMod_does.2.1 3 = .ok (.iconst 1, 1) := by decide +kernel
theorem dMod_does_4 : decode uMod_does.2.1 4 = .ok (.iadd, 1) := by decide +kernel
theorem dMod_does_5 : decode uMod_does.2.1 5 = .ok (.istore 5, 2) := by decide +kernel
theorem dMod_does_7 : decode uMod_does.2.1 7 = .ok (.aload_n 0, 1) := by decide +kernel
theorem dMod_does_8 : decode uMod_does.2.1 8 = .ok (.getfield 39, 3) := by decide +kernel
theorem dMod_does_11 : decode uMod_does.2.1 11 = .ok (.iload_n 2, 1) := by decide +kernel
theorem dMod_does_12 : decode uMod_does.2.1 12 = .ok (.iaload, 1) := by decide +kernel
theorem dMod_does_13 : decode uMod_does.2.1 13 = .ok (.istore 6, 2) := by decide +kernel
theorem dMod_does_15 : decode uMod_does.2.1 15 = .ok (.aload_n 0, 1) := by decide +kernel
theorem dMod_does_16 : decode uMod_does.2.1 16 = .ok (.getfield 42, 3) := by decide +kernel
theorem dMod_does_19 : decode uMod_does.2.1 19 = .ok (.iload_n 2, 1) := by decide +kernel
theorem dMod_does_20 : decode uMod_does.2.1 20 = .ok (.iaload, 1) := by decide +kernel
theorem dMod_does_21 : decode uMod_does.2.1 21 = .ok (.istore 7, 2) := by decide +kernel
theorem dMod_does_23 : decode uMod_does.2.1 23 = .ok (.iload 6, 2) := by decide +kernel
theorem dMod_does_25 : decode uMod_does.2.1 25 = .ok (.ifCond .ne 33, 3) := by decide +kernel
theorem dMod_does_28 : decode uMod_does.2.1 28 = .ok (.iload 4, 2) := by decide +kernel
theorem dMod_does_30 : decode uMod_does.2.1 30 = .ok (.ifCond .ne 16, 3) := by decide +kernel
theorem dMod_does_33 : decode uMod_does.2.1 33 = .ok (.iload 7, 2) := by decide +kernel
theorem dMod_does_35 : decode uMod_does.2.1 35 = .ok (.aload_n 0, 1) := by decide +kernel
theorem dMod_does_36 : decode uMod_does.2.1 36 = .ok (.getfield 117, 3) := by decide +kernel
theorem dMod_does_39 : decode uMod_does.2.1 39 = .ok (.iconst 3, 1) := by decide +kernel
theorem dMod_does_40 : decode uMod_does.2.1 40 = .ok (.iload_n 1, 1) := by decide +kernel
theorem dMod_does_41 : decode uMod_does.2.1 41 = .ok (.imul, 1) := by decide +kernel
theorem dMod_does_42 : decode uMod_does.2.1 42 = .ok (.iaload, 1) := by decide +kernel
theorem dMod_does_43 : decode uMod_does.2.1 43 = .ok (.if_icmp .le 5, 3) := by decide +kernel
theorem dMod_does_46 : decode uMod_does.2.1 46 = .ok (.iconst 0, 1) := by decide +kernel
theorem dMod_does_47 : decode uMod_does.2.1 47 = .ok (.ireturn, 1) := by decide +kernel
theorem dMod_does_48 : decode uMod_does.2.1 48 = .ok (.aload_n 0, 1) := by decide +kernel
theorem dMod_does_49 : decode uMod_does.2.1 49 = .ok (.iload 5, 2) := by decide +kernel
theorem dMod_does_51 : decode uMod_does.2.1 51 = .ok (.iload 7, 2) := by decide +kernel
theorem dMod_does_53 : decode uMod_does.2.1 53 = .ok (.invokevirtual 223, 3) := by decide +kernel
theorem dMod_does_56 : decode uMod_does.2.1 56 = .ok (.iconst 1, 1) := by decide +kernel
theorem dMod_does_57 : decode uMod_does.2.1 57 = .ok (.ireturn, 1) := by decide +kernel
theorem dMod_does_58 : decode uMod_does.2.1 58 = .ok (.iload 6, 2) := by decide +kernel
theorem dMod_does_60 : decode uMod_does.2.1 60 = .ok (.iconst 1, 1) := by decide +kernel
theorem dMod_does_61 : decode uMod_does.2.1 61 = .ok (.if_icmp .eq 12, 3) := by decide +kernel
theorem dMod_does_64 : decode uMod_does.2.1 64 = .ok (.iload 7, 2) := by decide +kernel
theorem dMod_does_66 : decode uMod_does.2.1 66 = .ok (.ifCond .ne 7, 3) := by decide +kernel
theorem dMod_does_69 : decode uMod_does.2.1 69 = .ok (.iconst 1, 1) := by decide +kernel
theorem dMod_does_70 : decode uMod_does.2.1 70 = .ok (.goto 4, 3) := by decide +kernel
theorem dMod_does_73 : decode uMod_does.2.1 73 = .ok (.iconst 0, 1) := by decide +kernel
theorem dMod_does_74 : decode uMod_does.2.1 74 = .ok (.istore 8, 2) := by decide +kernel
theorem dMod_does_76 : decode uMod_does.2.1 76 = .ok (.iload_n 3, 1) := by decide +kernel
theorem dMod_does_77 : decode uMod_does.2.1 77 = .ok (.ifCond .eq 12, 3) := by decide +kernel
theorem dMod_does_80 : decode uMod_does.2.1 80 = .ok (.aload_n 0, 1) := by decide +kernel
theorem dMod_does_81 : decode uMod_does.2.1 81 = .ok (.getfield 129, 3) := by decide +kernel
theorem dMod_does_84 : decode uMod_does.2.1 84 = .ok (.iload_n 1, 1) := by decide +kernel
theorem dMod_does_85 : decode uMod_does.2.1 85 = .ok (.baload, 1) := by decide +kernel
theorem dMod_does_86 : decode uMod_does.2.1 86 = .ok (.ifCond .ne 19, 3) := by decide +kernel
theorem dMod_does_89 : decode uMod_does.2.1 89 = .ok (.iload 8, 2) := by decide +kernel
theorem dMod_does_91 : decode uMod_does.2.1 91 = .ok (.ifCond .ne 16, 3) := by decide +kernel
theorem dMod_does_94 : decode uMod_does.2.1 94 = .ok (.aload_n 0, 1) := by decide +kernel
theorem dMod_does_95 : decode uMod_does.2.1 95 = .ok (.iload 5, 2) := by decide +kernel
theorem dMod_does_97 : decode uMod_does.2.1 97 = .ok (.iload 7, 2) := by decide +kernel
theorem dMod_does_99 : decode uMod_does.2.1 99 = .ok (.invokevirtual 234, 3) := by decide +kernel
theorem dMod_does_102 : decode uMod_does.2.1 102 = .ok (.ifCond .ne 5, 3) := by decide +kernel
theorem dMod_does_105 : decode uMod_does.2.1 105 = .ok (.iconst 0, 1) := by decide +kernel
theorem dMod_does_106 : decode uMod_does.2.1 106 = .ok (.ireturn, 1) := by decide +kernel
theorem dMod_does_107 : decode uMod_does.2.1 107 = .ok (.iload 8, 2) := by decide +kernel
theorem dMod_does_109 : decode uMod_does.2.1 109 = .ok (.ifCond .eq 12, 3) := by decide +kernel
theorem dMod_does_112 : decode uMod_does.2.1 112 = .ok (.aload_n 0, 1) := by decide +kernel
theorem dMod_does_113 : decode uMod_does.2.1 113 = .ok (.getfield 45, 3) := by decide +kernel
theorem dMod_does_116 : decode uMod_does.2.1 116 = .ok (.iload_n 2, 1) := by decide +kernel
theorem dMod_does_117 : decode uMod_does.2.1 117 = .ok (.iaload, 1) := by decide +kernel
theorem dMod_does_118 : decode uMod_does.2.1 118 = .ok (.goto 11, 3) := by decide +kernel
theorem dMod_does_121 : decode uMod_does.2.1 121 = .ok (.aload_n 0, 1) := by decide +kernel
theorem dMod_does_122 : decode uMod_does.2.1 122 = .ok (.iload 5, 2) := by decide +kernel
theorem dMod_does_124 : decode uMod_does.2.1 124 = .ok (.iload 7, 2) := by decide +kernel
theorem dMod_does_126 : decode uMod_does.2.1 126 = .ok (.invokevirtual 213, 3) := by decide +kernel
theorem dMod_does_129 : decode uMod_does.2.1 129 = .ok (.istore 9, 2) := by decide +kernel
theorem dMod_does_131 : decode uMod_does.2.1 131 = .ok (.iload 6, 2) := by decide +kernel
theorem dMod_does_133 : decode uMod_does.2.1 133 = .ok (.iconst 1, 1) := by decide +kernel
theorem dMod_does_134 : decode uMod_does.2.1 134 = .ok (.if_icmp .ne 14, 3) := by decide +kernel
theorem dMod_does_137 : decode uMod_does.2.1 137 = .ok (.aload_n 0, 1) := by decide +kernel
theorem dMod_does_138 : decode uMod_does.2.1 138 = .ok (.iload 5, 2) := by decide +kernel
theorem dMod_does_140 : decode uMod_does.2.1 140 = .ok (.iload 7, 2) := by decide +kernel
theorem dMod_does_142 : decode uMod_does.2.1 142 = .ok (.invokevirtual 216, 3) := by decide +kernel
theorem dMod_does_145 : decode uMod_does.2.1 145 = .ok (.goto 9, 3) := by decide +kernel
theorem dMod_does_148 : decode uMod_does.2.1 148 = .ok (.aload_n 0, 1) := by decide +kernel
theorem dMod_does_149 : decode uMod_does.2.1 149 = .ok (.getfield 48, 3) := by decide +kernel
theorem dMod_does_152 : decode uMod_does.2.1 152 = .ok (.iload_n 2, 1) := by decide +kernel
theorem dMod_does_153 : decode uMod_does.2.1 153 = .ok (.iaload, 1) := by decide +kernel
theorem dMod_does_154 : decode uMod_does.2.1 154 = .ok (.istore 10, 2) := by decide +kernel
theorem dMod_does_156 : decode uMod_does.2.1 156 = .ok (.aload_n 0, 1) := by decide +kernel
theorem dMod_does_157 : decode uMod_does.2.1 157 = .ok (.getfield 165, 3) := by decide +kernel
theorem dMod_does_160 : decode uMod_does.2.1 160 = .ok (.aload_n 0, 1) := by decide +kernel
theorem dMod_does_161 : decode uMod_does.2.1 161 = .ok (.getfield 238, 3) := by decide +kernel
theorem dMod_does_164 : decode uMod_does.2.1 164 = .ok (.iload 9, 2) := by decide +kernel
theorem dMod_does_166 : decode uMod_does.2.1 166 = .ok (.iastore, 1) := by decide +kernel
theorem dMod_does_167 : decode uMod_does.2.1 167 = .ok (.aload_n 0, 1) := by decide +kernel
theorem dMod_does_168 : decode uMod_does.2.1 168 = .ok (.getfield 168, 3) := by decide +kernel
theorem dMod_does_171 : decode uMod_does.2.1 171 = .ok (.aload_n 0, 1) := by decide +kernel
theorem dMod_does_172 : decode uMod_does.2.1 172 = .ok (.getfield 238, 3) := by decide +kernel
theorem dMod_does_175 : decode uMod_does.2.1 175 = .ok (.iload 10, 2) := by decide +kernel
theorem dMod_does_177 : decode uMod_does.2.1 177 = .ok (.iastore, 1) := by decide +kernel
theorem dMod_does_178 : decode uMod_does.2.1 178 = .ok (.aload_n 0, 1) := by decide +kernel
theorem dMod_does_179 : decode uMod_does.2.1 179 = .ok (.aload_n 0, 1) := by decide +kernel
theorem dMod_does_180 : decode uMod_does.2.1 180 = .ok (.getfield 238, 3) := by decide +kernel
theorem dMod_does_183 : decode uMod_does.2.1 183 = .ok (.iconst 1, 1) := by decide +kernel
theorem dMod_does_184 : decode uMod_does.2.1 184 = .ok (.iadd, 1) := by decide +kernel
theorem dMod_does_185 : decode uMod_does.2.1 185 = .ok (.putfield 238, 3) := by decide +kernel
theorem dMod_does_188 : decode uMod_does.2.1 188 = .ok (.iload 6, 2) := by decide +kernel
theorem dMod_does_190 : decode uMod_does.2.1 190 = .ok (.iconst 2, 1) := by decide +kernel
theorem dMod_does_191 : decode uMod_does.2.1 191 = .ok (.if_icmp .ne 13, 3) := by decide +kernel
theorem dMod_does_194 : decode uMod_does.2.1 194 = .ok (.aload_n 0, 1) := by decide +kernel
theorem dMod_does_195 : decode uMod_does.2.1 195 = .ok (.iload 5, 2) := by decide +kernel
theorem dMod_does_197 : decode uMod_does.2.1 197 = .ok (.iload 9, 2) := by decide +kernel
theorem dMod_does_199 : decode uMod_does.2.1 199 = .ok (.iload 10, 2) := by decide +kernel
theorem dMod_does_201 : decode uMod_does.2.1 201 = .ok (.invokevirtual 230, 3) := by decide +kernel
theorem dMod_does_204 : decode uMod_does.2.1 204 = .ok (.iconst 1, 1) := by decide +kernel
theorem dMod_does_205 : decode uMod_does.2.1 205 = .ok (.ireturn, 1) := by decide +kernel
theorem cs_Mod_223 : cV "InterleavedLinkModel" 223 uMod_bound 2 := ⟨⟨Or.inl (gW_in 1092 (by decide +kernel) rfl), (gW_in 74 (by decide +kernel) rfl), (gW_in 1095 (by decide +kernel) rfl), ⟨by decide, by decide⟩, by decide +kernel⟩, (gW_in 1094 (by decide +kernel) rfl), (gW_in 38 (by decide +kernel) rfl)⟩
theorem cs_Mod_234 : cV "InterleavedLinkModel" 234 uMod_means 2 := ⟨⟨Or.inl (gW_in 1105 (by decide +kernel) rfl), (gW_in 74 (by decide +kernel) rfl), (gW_in 1108 (by decide +kernel) rfl), ⟨by decide, by decide⟩, by decide +kernel⟩, (gW_in 1107 (by decide +kernel) rfl), (gW_in 40 (by decide +kernel) rfl)⟩
theorem fs_Mod_165 : fS "InterleavedLinkModel" 165 10 53 := ⟨"InterleavedLinkModel", T_Mod, 56, cf_Mod, by decide, Or.inl (gW_in 914 (by decide +kernel) rfl)⟩
theorem fs_Mod_238 : fS "InterleavedLinkModel" 238 10 52 := ⟨"InterleavedLinkModel", T_Mod, 56, cf_Mod, by decide, Or.inl (gW_in 913 (by decide +kernel) rfl)⟩
theorem fs_Mod_168 : fS "InterleavedLinkModel" 168 10 54 := ⟨"InterleavedLinkModel", T_Mod, 56, cf_Mod, by decide, Or.inl (gW_in 915 (by decide +kernel) rfl)⟩
theorem ps_Mod_238 {nm : String} : pS "InterleavedLinkModel" nm 238 10 52 .int := ⟨"InterleavedLinkModel", T_Mod, 56, cf_Mod, by decide, by decide +kernel, Or.inl ⟨rfl, Or.inl (gW_in 913 (by decide +kernel) rfl)⟩⟩
theorem cs_Mod_230 : cV "InterleavedLinkModel" 230 uMod_add 3 := ⟨⟨Or.inl (gW_in 1117 (by decide +kernel) rfl), (gW_in 74 (by decide +kernel) rfl), (gW_in 1120 (by decide +kernel) rfl), ⟨by decide, by decide⟩, by decide +kernel⟩, (gW_in 1119 (by decide +kernel) rfl), (gW_in 43 (by decide +kernel) rfl)⟩
/-! ===== the reference over the state: blocks read ===== -/
/-- the list in the making, in the reference's scratch rows -/
def LiR (M : mM) (L : List (Int32 × Int32)) : Prop := Rlisted M = nI L.length ∧ L.length ≤ 6 ∧ ∀ j x, L[j]? = some x → RlistName M j = x.1 ∧ RlistValue M j = x.2
theorem LiR.mv {M M' : mM} {L : List (Int32 × Int32)} {PI PR : Nat → Nat → Prop} (h : LiR M L) (c : Chg M M' PI PR) (hN : 223 ≤ mN M) (n : ∀ a j, PI a j → ¬ (a = 169 ∧ j = 52) ∧ a ≠ 221 ∧ a ≠ 222) : LiR M' L := by
  obtain ⟨h1, h2, h3⟩ := h
  refine ⟨(c.2.2.1 169 52 (by omega) fun q => (n _ _ q).1 ⟨rfl, rfl⟩).trans h1, h2, fun j x hx => ?_⟩
  exact ⟨(c.2.2.1 221 j (by omega) fun q => (n _ _ q).2.1 rfl).trans (h3 j x hx).1, (c.2.2.1 222 j (by omega) fun q => (n _ _ q).2.2 rfl).trans (h3 j x hx).2⟩
theorem LiR.app {M : mM} {L : List (Int32 × Int32)} {a v : Int32} (h : LiR M L) (h6 : L.length < 6) : LiR (setI (setI (setI M 221 L.length a) 222 L.length v) 169 52 (nI (L.length + 1))) (L ++ [(a, v)]) := by
  obtain ⟨h1, h2, h3⟩ := h
  refine ⟨?_, by rw [List.length_append]; exact h6, fun j x hx => ?_⟩
  · rw [List.length_append]
    exact sI_s
  · show mI _ 221 j = _ ∧ mI _ 222 j = _
    by_cases hj : j < L.length
    · rw [List.getElem?_append_left hj] at hx
      exact ⟨by rw [sI_a (by decide), sI_a (by decide), sI_k (by omega)]; exact (h3 j x hx).1, by rw [sI_a (by decide), sI_k (by omega), sI_a (by decide)]; exact (h3 j x hx).2⟩
    · rw [List.getElem?_append_right (by omega)] at hx
      have h6 := (List.getElem?_eq_some_iff.mp hx).1
      have hj2 : j = L.length := by simp at h6; omega
      subst hj2
      simp at hx
      subst hx
      exact ⟨by rw [sI_a (by decide), sI_a (by decide), sI_s], by rw [sI_a (by decide), sI_s]⟩
/-- what reading a block changes: the table, the scratch list -/
def blP (e : Nat) (a j : Nat) : Prop := ((a = 213 ∨ a = 214) ∧ j = 2 * e + 1) ∨ ((a = 215 ∨ a = 216) ∧ 6 * (2 * e + 1) ≤ j ∧ j < 6 * (2 * e + 1) + 6) ∨ a = 221 ∨ a = 222 ∨ (a = 169 ∧ j = 52)
def StpR (M : mM) (q : Nat) (s : zS) : Prop := RstepKind M q = s.1 ∧ RstepIndex M q = s.2.1 ∧ RstepName M q = s.2.2.1 ∧ RstepValue M q = s.2.2.2
theorem rr_blk {M M' : mM} {A : zA} {e : Nat} {L : List (Int32 × Int32)} {mx : Int32} (h : RR M A) (he : e < 2) (c : Chg M M' (blP e) no2) (hq : TbR M' (2 * e + 1) L mx) : RR M' (yB A e 1 (L, mx)) := by
  obtain ⟨h0, h1, h2, h3, h4, h5, h6, h7, h8, h9, h10, h11⟩ := h
  have hN := h0.1
  have w : ∀ a j, blP e a j → ((a = 213 ∨ a = 214) ∧ j = 2 * e + 1) ∨ ((a = 215 ∨ a = 216) ∧ 6 * (2 * e + 1) ≤ j ∧ j < 6 * (2 * e + 1) + 6) ∨ a = 221 ∨ a = 222 ∨ (a = 169 ∧ j = 52) := fun a j q => q
  refine ⟨h0.mv c fun a k q => q.elim, fun d hd => (h1 d hd).mv c hN fun a j q => by have := w a j q; omega, fun d hd => (h2 d hd).mv c hN fun a j q => by have := w a j q; omega, h3.mv c hN fun a j q => by have := w a j q; omega, fun d hd => (h4 d hd).mv c hN fun a j q => by have := w a j q; omega, fun d g hd hg => (h5 d g hd hg).mv c hN fun a j q => by have := w a j q; omega, fun d g hd hg => (h6 d g hd hg).mv c hN fun a j q => by have := w a j q; omega, fun d hd => (h7 d hd).mv c hN fun a j q => by have := w a j q; omega, fun d g hd hg => (h8 d g hd hg).mv c hN fun a j q => by have := w a j q; omega, fun d g hd hg => ?_, fun d hd => (h10 d hd).mv c hN fun a j q => by have := w a j q; omega, fun d hd => (h11 d hd).mv c hN fun a j q => by have := w a j q; omega⟩
  show TbR M' (2 * d + g) (up2 (zB A) e 1 (L, mx) d g).1 (up2 (zB A) e 1 (L, mx) d g).2
  by_cases q : d = e ∧ g = 1
  · obtain ⟨rfl, rfl⟩ := q
    rw [up2_same]
    exact hq
  · rw [up2_ne q]
    exact (h9 d g hd hg).mv c hN fun a j q => by have := w a j q; omega
set_option maxRecDepth 100000 in
set_option maxHeartbeats 4000000 in
theorem ct_do_m0 {X : mX} {l : Launch} {M : mM} {e q : Nat} {L : List (Int32 × Int32)} {mx z w lim due : Int32} {s : zS} (hS : Shp M) (he : e < 2) (hB : TbR M (2 * e + 1) L mx) (hq : q < 768) (hst : StpR M q s) (hlim : Rforce M (3 * e) = lim) (hdu : Rneed M e = due) (h0 : s.1 = 0) (hw : ¬ w = 0) : Ct X l uMod_does (rk 3 68) [.ref 169, .int (nI e), .int (nI q), .int z, .int w] M (fun r M' => r = some (.int 0) ∧ M' = M) := by
  refine Ct.of (by decide) (Nat.le_of_ble_eq_true rfl) ?_
  show G X l uMod_does (rk 3 68) 0 0 M 0 [some (.ref 169), some (.int (nI e)), some (.int (nI q)), some (.int z), some (.int w), none, none, none, none, none, none] [] _
  refine g_iconst 0 (nI 2) dMod_does_0 rfl ?_
  refine g_iload_n 1 dMod_does_1 rfl ?_
  refine g_imulN 2 dMod_does_2 ?_
  refine g_iconst 3 (nI 1) dMod_does_3 rfl ?_
  refine g_iaddN 4 dMod_does_4 ?_
  refine g_istore 5 dMod_does_5 (by decide) rfl ?_
  refine g_aload_n 7 dMod_does_7 rfl ?_
  refine g_getr 8 10 9 dMod_does_8 fs_Mod_39 rfl hS.mod hS.R_stepKind ?_
  refine g_iload_n 11 dMod_does_11 rfl ?_
  refine g_ialdN 12 dMod_does_12 hS.T_stepKind (by omega) (by decide) ?_
  refine g_top (s.1) (hst.1) ?_
  refine g_istore 13 dMod_does_13 (by decide) rfl ?_
  refine g_aload_n 15 dMod_does_15 rfl ?_
  refine g_getr 16 10 10 dMod_does_16 fs_Mod_42 rfl hS.mod hS.R_stepIndex ?_
  refine g_iload_n 19 dMod_does_19 rfl ?_
  refine g_ialdN 20 dMod_does_20 hS.T_stepIndex (by omega) (by decide) ?_
  refine g_top (s.2.1) (hst.2.1) ?_
  refine g_istore 21 dMod_does_21 (by decide) rfl ?_
  refine g_iload 23 dMod_does_23 rfl ?_
  refine g_if_ne 25 58 dMod_does_25 rfl (fun h25 => ?_) (fun h25 => ?_)
  · exact absurd h0 h25
  · refine g_iload 28 dMod_does_28 rfl ?_
    refine g_if_ne 30 46 dMod_does_30 rfl (fun h30 => ?_) (fun h30 => ?_)
    · refine g_iconst 46 0 dMod_does_46 rfl ?_
      exact g_zret 47 dMod_does_47 rfl (by decide) ⟨rfl, rfl⟩
    · exact absurd h30 hw

set_option maxRecDepth 100000 in
set_option maxHeartbeats 4000000 in
theorem ct_do_m1 {X : mX} {l : Launch} {M : mM} {e q : Nat} {L : List (Int32 × Int32)} {mx z w lim due : Int32} {s : zS} (hS : Shp M) (he : e < 2) (hB : TbR M (2 * e + 1) L mx) (hq : q < 768) (hst : StpR M q s) (hlim : Rforce M (3 * e) = lim) (hdu : Rneed M e = due) (h0 : s.1 = 0) (hx : ¬ s.2.1 ≤ lim) : Ct X l uMod_does (rk 3 68) [.ref 169, .int (nI e), .int (nI q), .int z, .int w] M (fun r M' => r = some (.int 0) ∧ M' = M) := by
  refine Ct.of (by decide) (Nat.le_of_ble_eq_true rfl) ?_
  show G X l uMod_does (rk 3 68) 0 0 M 0 [some (.ref 169), some (.int (nI e)), some (.int (nI q)), some (.int z), some (.int w), none, none, none, none, none, none] [] _
  refine g_iconst 0 (nI 2) dMod_does_0 rfl ?_
  refine g_iload_n 1 dMod_does_1 rfl ?_
  refine g_imulN 2 dMod_does_2 ?_
  refine g_iconst 3 (nI 1) dMod_does_3 rfl ?_
  refine g_iaddN 4 dMod_does_4 ?_
  refine g_istore 5 dMod_does_5 (by decide) rfl ?_
  refine g_aload_n 7 dMod_does_7 rfl ?_
  refine g_getr 8 10 9 dMod_does_8 fs_Mod_39 rfl hS.mod hS.R_stepKind ?_
  refine g_iload_n 11 dMod_does_11 rfl ?_
  refine g_ialdN 12 dMod_does_12 hS.T_stepKind (by omega) (by decide) ?_
  refine g_top (s.1) (hst.1) ?_
  refine g_istore 13 dMod_does_13 (by decide) rfl ?_
  refine g_aload_n 15 dMod_does_15 rfl ?_
  refine g_getr 16 10 10 dMod_does_16 fs_Mod_42 rfl hS.mod hS.R_stepIndex ?_
  refine g_iload_n 19 dMod_does_19 rfl ?_
  refine g_ialdN 20 dMod_does_20 hS.T_stepIndex (by omega) (by decide) ?_
  refine g_top (s.2.1) (hst.2.1) ?_
  refine g_istore 21 dMod_does_21 (by decide) rfl ?_
  refine g_iload 23 dMod_does_23 rfl ?_
  refine g_if_ne 25 58 dMod_does_25 rfl (fun h25 => ?_) (fun h25 => ?_)
  · exact absurd h0 h25
  · refine g_iload 28 dMod_does_28 rfl ?_
    refine g_if_ne 30 46 dMod_does_30 rfl (fun h30 => ?_) (fun h30 => ?_)
    · refine g_iconst 46 0 dMod_does_46 rfl ?_
      exact g_zret 47 dMod_does_47 rfl (by decide) ⟨rfl, rfl⟩
    · refine g_iload 33 dMod_does_33 rfl ?_
      refine g_aload_n 35 dMod_does_35 rfl ?_
      refine g_getr 36 10 36 dMod_does_36 fs_Mod_117 rfl hS.mod hS.R_force ?_
      refine g_iconst 39 (nI 3) dMod_does_39 rfl ?_
      refine g_iload_n 40 dMod_does_40 rfl ?_
      refine g_imulN 41 dMod_does_41 ?_
      refine g_ialdN 42 dMod_does_42 hS.T_force (by omega) (by decide) ?_
      refine g_top (lim) (hlim) ?_
      refine g_icmp_le 43 48 dMod_does_43 rfl (fun h43 => ?_) (fun h43 => ?_)
      · exact absurd h43 hx
      · refine g_iconst 46 0 dMod_does_46 rfl ?_
        exact g_zret 47 dMod_does_47 rfl (by decide) ⟨rfl, rfl⟩

set_option maxRecDepth 100000 in
set_option maxHeartbeats 4000000 in
theorem ct_do_m {X : mX} {l : Launch} {M : mM} {e q : Nat} {L : List (Int32 × Int32)} {mx z w lim due : Int32} {s : zS} (hS : Shp M) (he : e < 2) (hB : TbR M (2 * e + 1) L mx) (hq : q < 768) (hst : StpR M q s) (hlim : Rforce M (3 * e) = lim) (hdu : Rneed M e = due) (h0 : s.1 = 0) (hw : w = 0) (hx : s.2.1 ≤ lim) (h00 : 0 ≤ s.2.1) : Ct X l uMod_does (rk 3 68) [.ref 169, .int (nI e), .int (nI q), .int z, .int w] M (fun r M' => r = some (.int 1) ∧ TbR M' (2 * e + 1) (dropT s.2.1 L) s.2.1 ∧ Chg M M' (fun a j => ((a = 213 ∨ a = 214) ∧ j = 2 * e + 1) ∨ ((a = 215 ∨ a = 216) ∧ 6 * (2 * e + 1) ≤ j ∧ j < 6 * (2 * e + 1) + 6)) no2) := by
  refine Ct.of (by decide) (Nat.le_of_ble_eq_true rfl) ?_
  show G X l uMod_does (rk 3 68) 0 0 M 0 [some (.ref 169), some (.int (nI e)), some (.int (nI q)), some (.int z), some (.int w), none, none, none, none, none, none] [] _
  refine g_iconst 0 (nI 2) dMod_does_0 rfl ?_
  refine g_iload_n 1 dMod_does_1 rfl ?_
  refine g_imulN 2 dMod_does_2 ?_
  refine g_iconst 3 (nI 1) dMod_does_3 rfl ?_
  refine g_iaddN 4 dMod_does_4 ?_
  refine g_istore 5 dMod_does_5 (by decide) rfl ?_
  refine g_aload_n 7 dMod_does_7 rfl ?_
  refine g_getr 8 10 9 dMod_does_8 fs_Mod_39 rfl hS.mod hS.R_stepKind ?_
  refine g_iload_n 11 dMod_does_11 rfl ?_
  refine g_ialdN 12 dMod_does_12 hS.T_stepKind (by omega) (by decide) ?_
  refine g_top (s.1) (hst.1) ?_
  refine g_istore 13 dMod_does_13 (by decide) rfl ?_
  refine g_aload_n 15 dMod_does_15 rfl ?_
  refine g_getr 16 10 10 dMod_does_16 fs_Mod_42 rfl hS.mod hS.R_stepIndex ?_
  refine g_iload_n 19 dMod_does_19 rfl ?_
  refine g_ialdN 20 dMod_does_20 hS.T_stepIndex (by omega) (by decide) ?_
  refine g_top (s.2.1) (hst.2.1) ?_
  refine g_istore 21 dMod_does_21 (by decide) rfl ?_
  refine g_iload 23 dMod_does_23 rfl ?_
  refine g_if_ne 25 58 dMod_does_25 rfl (fun h25 => ?_) (fun h25 => ?_)
  · exact absurd h0 h25
  · refine g_iload 28 dMod_does_28 rfl ?_
    refine g_if_ne 30 46 dMod_does_30 rfl (fun h30 => ?_) (fun h30 => ?_)
    · exact absurd hw h30
    · refine g_iload 33 dMod_does_33 rfl ?_
      refine g_aload_n 35 dMod_does_35 rfl ?_
      refine g_getr 36 10 36 dMod_does_36 fs_Mod_117 rfl hS.mod hS.R_force ?_
      refine g_iconst 39 (nI 3) dMod_does_39 rfl ?_
      refine g_iload_n 40 dMod_does_40 rfl ?_
      refine g_imulN 41 dMod_does_41 ?_
      refine g_ialdN 42 dMod_does_42 hS.T_force (by omega) (by decide) ?_
      refine g_top (lim) (hlim) ?_
      refine g_icmp_le 43 48 dMod_does_43 rfl (fun h43 => ?_) (fun h43 => ?_)
      · refine g_aload_n 48 dMod_does_48 rfl ?_
        refine g_iload 49 dMod_does_49 rfl ?_
        refine g_iload 51 dMod_does_51 rfl ?_
        refine g_callV 53 [_, _] dMod_does_53 cs_Mod_223 rfl (ci := 10) rfl (by decide) hS.mod rfl ⟨(Nat.le_of_ble_eq_true rfl), (Nat.le_of_ble_eq_true rfl)⟩ (Nat.le_of_ble_eq_true rfl) (ct_rbnd hS (by omega) hB h00) (Nat.le_of_ble_eq_true rfl) (Nat.le_of_ble_eq_true rfl) ?_
        rintro _ M1 ⟨rfl, hB1, hc1⟩
        refine g_iconst 56 1 dMod_does_56 rfl ?_
        exact g_zret 57 dMod_does_57 rfl (by decide) ⟨rfl, hB1, hc1⟩
      · exact absurd hx h43

set_option maxRecDepth 100000 in
set_option maxHeartbeats 4000000 in
theorem ct_do_due {X : mX} {l : Launch} {M : mM} {e q : Nat} {L : List (Int32 × Int32)} {mx z w lim due : Int32} {s : zS} (hS : Shp M) (he : e < 2) (hB : TbR M (2 * e + 1) L mx) (hq : q < 768) (hst : StpR M q s) (hlim : Rforce M (3 * e) = lim) (hdu : Rneed M e = due) (h0 : ¬ s.1 = 0) (hz : ¬ z = 0) (hd : ¬ due = 0) : Ct X l uMod_does (rk 3 68) [.ref 169, .int (nI e), .int (nI q), .int z, .int w] M (fun r M' => r = some (.int 0) ∧ M' = M) := by
  refine Ct.of (by decide) (Nat.le_of_ble_eq_true rfl) ?_
  show G X l uMod_does (rk 3 68) 0 0 M 0 [some (.ref 169), some (.int (nI e)), some (.int (nI q)), some (.int z), some (.int w), none, none, none, none, none, none] [] _
  refine g_iconst 0 (nI 2) dMod_does_0 rfl ?_
  refine g_iload_n 1 dMod_does_1 rfl ?_
  refine g_imulN 2 dMod_does_2 ?_
  refine g_iconst 3 (nI 1) dMod_does_3 rfl ?_
  refine g_iaddN 4 dMod_does_4 ?_
  refine g_istore 5 dMod_does_5 (by decide) rfl ?_
  refine g_aload_n 7 dMod_does_7 rfl ?_
  refine g_getr 8 10 9 dMod_does_8 fs_Mod_39 rfl hS.mod hS.R_stepKind ?_
  refine g_iload_n 11 dMod_does_11 rfl ?_
  refine g_ialdN 12 dMod_does_12 hS.T_stepKind (by omega) (by decide) ?_
  refine g_top (s.1) (hst.1) ?_
  refine g_istore 13 dMod_does_13 (by decide) rfl ?_
  refine g_aload_n 15 dMod_does_15 rfl ?_
  refine g_getr 16 10 10 dMod_does_16 fs_Mod_42 rfl hS.mod hS.R_stepIndex ?_
  refine g_iload_n 19 dMod_does_19 rfl ?_
  refine g_ialdN 20 dMod_does_20 hS.T_stepIndex (by omega) (by decide) ?_
  refine g_top (s.2.1) (hst.2.1) ?_
  refine g_istore 21 dMod_does_21 (by decide) rfl ?_
  refine g_iload 23 dMod_does_23 rfl ?_
  refine g_if_ne 25 58 dMod_does_25 rfl (fun h25 => ?_) (fun h25 => ?_)
  · refine g_iload 58 dMod_does_58 rfl ?_
    refine g_iconst 60 1 dMod_does_60 rfl ?_
    refine g_icmp_eq 61 73 dMod_does_61 rfl (fun h61 => ?_) (fun h61 => ?_)
    · refine g_iconst 73 0 dMod_does_73 rfl ?_
      refine g_istore 74 dMod_does_74 (by decide) rfl ?_
      refine g_iload_n 76 dMod_does_76 rfl ?_
      refine g_if_eq 77 89 dMod_does_77 rfl (fun h77 => ?_) (fun h77 => ?_)
      · exact absurd h77 hz
      · refine g_aload_n 80 dMod_does_80 rfl ?_
        refine g_getr 81 10 40 dMod_does_81 fs_Mod_129 rfl hS.mod hS.R_need ?_
        refine g_iload_n 84 dMod_does_84 rfl ?_
        refine g_zaldN 85 dMod_does_85 hS.T_need (by omega) (by decide) ?_
        refine g_top (due) (hdu) ?_
        refine g_if_ne 86 105 dMod_does_86 rfl (fun h86 => ?_) (fun h86 => ?_)
        · refine g_iconst 105 0 dMod_does_105 rfl ?_
          exact g_zret 106 dMod_does_106 rfl (by decide) ⟨rfl, rfl⟩
        · exact absurd h86 hd
    · refine g_iload 64 dMod_does_64 rfl ?_
      refine g_if_ne 66 73 dMod_does_66 rfl (fun h66 => ?_) (fun h66 => ?_)
      · refine g_iconst 73 0 dMod_does_73 rfl ?_
        refine g_istore 74 dMod_does_74 (by decide) rfl ?_
        refine g_iload_n 76 dMod_does_76 rfl ?_
        refine g_if_eq 77 89 dMod_does_77 rfl (fun h77 => ?_) (fun h77 => ?_)
        · exact absurd h77 hz
        · refine g_aload_n 80 dMod_does_80 rfl ?_
          refine g_getr 81 10 40 dMod_does_81 fs_Mod_129 rfl hS.mod hS.R_need ?_
          refine g_iload_n 84 dMod_does_84 rfl ?_
          refine g_zaldN 85 dMod_does_85 hS.T_need (by omega) (by decide) ?_
          refine g_top (due) (hdu) ?_
          refine g_if_ne 86 105 dMod_does_86 rfl (fun h86 => ?_) (fun h86 => ?_)
          · refine g_iconst 105 0 dMod_does_105 rfl ?_
            exact g_zret 106 dMod_does_106 rfl (by decide) ⟨rfl, rfl⟩
          · exact absurd h86 hd
      · refine g_iconst 69 1 dMod_does_69 rfl ?_
        refine g_goto 70 74 dMod_does_70 rfl ?_
        refine g_istore 74 dMod_does_74 (by decide) rfl ?_
        refine g_iload_n 76 dMod_does_76 rfl ?_
        refine g_if_eq 77 89 dMod_does_77 rfl (fun h77 => ?_) (fun h77 => ?_)
        · exact absurd h77 hz
        · refine g_aload_n 80 dMod_does_80 rfl ?_
          refine g_getr 81 10 40 dMod_does_81 fs_Mod_129 rfl hS.mod hS.R_need ?_
          refine g_iload_n 84 dMod_does_84 rfl ?_
          refine g_zaldN 85 dMod_does_85 hS.T_need (by omega) (by decide) ?_
          refine g_top (due) (hdu) ?_
          refine g_if_ne 86 105 dMod_does_86 rfl (fun h86 => ?_) (fun h86 => ?_)
          · refine g_iconst 105 0 dMod_does_105 rfl ?_
            exact g_zret 106 dMod_does_106 rfl (by decide) ⟨rfl, rfl⟩
          · exact absurd h86 hd
  · exact absurd h25 h0

set_option maxRecDepth 100000 in
set_option maxHeartbeats 4000000 in
theorem ct_do_no {X : mX} {l : Launch} {M : mM} {e q : Nat} {L : List (Int32 × Int32)} {mx z w lim due : Int32} {s : zS} (hS : Shp M) (he : e < 2) (hB : TbR M (2 * e + 1) L mx) (hq : q < 768) (hst : StpR M q s) (hlim : Rforce M (3 * e) = lim) (hdu : Rneed M e = due) (h0 : ¬ s.1 = 0) (hzd : ¬ (¬ z = 0 ∧ ¬ due = 0)) (hn : ¬ (s.2.1 = 0 ∧ ¬ s.1 = 1)) (hi : hiT L s.2.1 = 0) : Ct X l uMod_does (rk 3 68) [.ref 169, .int (nI e), .int (nI q), .int z, .int w] M (fun r M' => r = some (.int 0) ∧ M' = M) := by
  refine Ct.of (by decide) (Nat.le_of_ble_eq_true rfl) ?_
  show G X l uMod_does (rk 3 68) 0 0 M 0 [some (.ref 169), some (.int (nI e)), some (.int (nI q)), some (.int z), some (.int w), none, none, none, none, none, none] [] _
  refine g_iconst 0 (nI 2) dMod_does_0 rfl ?_
  refine g_iload_n 1 dMod_does_1 rfl ?_
  refine g_imulN 2 dMod_does_2 ?_
  refine g_iconst 3 (nI 1) dMod_does_3 rfl ?_
  refine g_iaddN 4 dMod_does_4 ?_
  refine g_istore 5 dMod_does_5 (by decide) rfl ?_
  refine g_aload_n 7 dMod_does_7 rfl ?_
  refine g_getr 8 10 9 dMod_does_8 fs_Mod_39 rfl hS.mod hS.R_stepKind ?_
  refine g_iload_n 11 dMod_does_11 rfl ?_
  refine g_ialdN 12 dMod_does_12 hS.T_stepKind (by omega) (by decide) ?_
  refine g_top (s.1) (hst.1) ?_
  refine g_istore 13 dMod_does_13 (by decide) rfl ?_
  refine g_aload_n 15 dMod_does_15 rfl ?_
  refine g_getr 16 10 10 dMod_does_16 fs_Mod_42 rfl hS.mod hS.R_stepIndex ?_
  refine g_iload_n 19 dMod_does_19 rfl ?_
  refine g_ialdN 20 dMod_does_20 hS.T_stepIndex (by omega) (by decide) ?_
  refine g_top (s.2.1) (hst.2.1) ?_
  refine g_istore 21 dMod_does_21 (by decide) rfl ?_
  refine g_iload 23 dMod_does_23 rfl ?_
  refine g_if_ne 25 58 dMod_does_25 rfl (fun h25 => ?_) (fun h25 => ?_)
  · refine g_iload 58 dMod_does_58 rfl ?_
    refine g_iconst 60 1 dMod_does_60 rfl ?_
    refine g_icmp_eq 61 73 dMod_does_61 rfl (fun h61 => ?_) (fun h61 => ?_)
    · refine g_iconst 73 0 dMod_does_73 rfl ?_
      refine g_istore 74 dMod_does_74 (by decide) rfl ?_
      refine g_iload_n 76 dMod_does_76 rfl ?_
      refine g_if_eq 77 89 dMod_does_77 rfl (fun h77 => ?_) (fun h77 => ?_)
      · refine g_iload 89 dMod_does_89 rfl ?_
        refine g_if_ne 91 107 dMod_does_91 rfl (fun h91 => ?_) (fun h91 => ?_)
        · exact absurd rfl h91
        · refine g_aload_n 94 dMod_does_94 rfl ?_
          refine g_iload 95 dMod_does_95 rfl ?_
          refine g_iload 97 dMod_does_97 rfl ?_
          refine g_callV 99 [_, _] dMod_does_99 cs_Mod_234 rfl (ci := 10) rfl (by decide) hS.mod rfl ⟨(Nat.le_of_ble_eq_true rfl), (Nat.le_of_ble_eq_true rfl)⟩ (Nat.le_of_ble_eq_true rfl) (ct_rmeans hS (by omega) hB) (Nat.le_of_ble_eq_true rfl) (Nat.le_of_ble_eq_true rfl) ?_
          rintro _ M2 ⟨rfl, hM2⟩
          rw [hM2]
          clear hM2 M2
          refine g_if_ne 102 107 dMod_does_102 rfl (fun h102 => ?_) (fun h102 => ?_)
          · exact absurd hi h102
          · refine g_iconst 105 0 dMod_does_105 rfl ?_
            exact g_zret 106 dMod_does_106 rfl (by decide) ⟨rfl, rfl⟩
      · refine g_aload_n 80 dMod_does_80 rfl ?_
        refine g_getr 81 10 40 dMod_does_81 fs_Mod_129 rfl hS.mod hS.R_need ?_
        refine g_iload_n 84 dMod_does_84 rfl ?_
        refine g_zaldN 85 dMod_does_85 hS.T_need (by omega) (by decide) ?_
        refine g_top (due) (hdu) ?_
        refine g_if_ne 86 105 dMod_does_86 rfl (fun h86 => ?_) (fun h86 => ?_)
        · exact absurd ⟨h77, h86⟩ hzd
        · refine g_iload 89 dMod_does_89 rfl ?_
          refine g_if_ne 91 107 dMod_does_91 rfl (fun h91 => ?_) (fun h91 => ?_)
          · exact absurd rfl h91
          · refine g_aload_n 94 dMod_does_94 rfl ?_
            refine g_iload 95 dMod_does_95 rfl ?_
            refine g_iload 97 dMod_does_97 rfl ?_
            refine g_callV 99 [_, _] dMod_does_99 cs_Mod_234 rfl (ci := 10) rfl (by decide) hS.mod rfl ⟨(Nat.le_of_ble_eq_true rfl), (Nat.le_of_ble_eq_true rfl)⟩ (Nat.le_of_ble_eq_true rfl) (ct_rmeans hS (by omega) hB) (Nat.le_of_ble_eq_true rfl) (Nat.le_of_ble_eq_true rfl) ?_
            rintro _ M2 ⟨rfl, hM2⟩
            rw [hM2]
            clear hM2 M2
            refine g_if_ne 102 107 dMod_does_102 rfl (fun h102 => ?_) (fun h102 => ?_)
            · exact absurd hi h102
            · refine g_iconst 105 0 dMod_does_105 rfl ?_
              exact g_zret 106 dMod_does_106 rfl (by decide) ⟨rfl, rfl⟩
    · refine g_iload 64 dMod_does_64 rfl ?_
      refine g_if_ne 66 73 dMod_does_66 rfl (fun h66 => ?_) (fun h66 => ?_)
      · refine g_iconst 73 0 dMod_does_73 rfl ?_
        refine g_istore 74 dMod_does_74 (by decide) rfl ?_
        refine g_iload_n 76 dMod_does_76 rfl ?_
        refine g_if_eq 77 89 dMod_does_77 rfl (fun h77 => ?_) (fun h77 => ?_)
        · refine g_iload 89 dMod_does_89 rfl ?_
          refine g_if_ne 91 107 dMod_does_91 rfl (fun h91 => ?_) (fun h91 => ?_)
          · exact absurd rfl h91
          · refine g_aload_n 94 dMod_does_94 rfl ?_
            refine g_iload 95 dMod_does_95 rfl ?_
            refine g_iload 97 dMod_does_97 rfl ?_
            refine g_callV 99 [_, _] dMod_does_99 cs_Mod_234 rfl (ci := 10) rfl (by decide) hS.mod rfl ⟨(Nat.le_of_ble_eq_true rfl), (Nat.le_of_ble_eq_true rfl)⟩ (Nat.le_of_ble_eq_true rfl) (ct_rmeans hS (by omega) hB) (Nat.le_of_ble_eq_true rfl) (Nat.le_of_ble_eq_true rfl) ?_
            rintro _ M2 ⟨rfl, hM2⟩
            rw [hM2]
            clear hM2 M2
            refine g_if_ne 102 107 dMod_does_102 rfl (fun h102 => ?_) (fun h102 => ?_)
            · exact absurd hi h102
            · refine g_iconst 105 0 dMod_does_105 rfl ?_
              exact g_zret 106 dMod_does_106 rfl (by decide) ⟨rfl, rfl⟩
        · refine g_aload_n 80 dMod_does_80 rfl ?_
          refine g_getr 81 10 40 dMod_does_81 fs_Mod_129 rfl hS.mod hS.R_need ?_
          refine g_iload_n 84 dMod_does_84 rfl ?_
          refine g_zaldN 85 dMod_does_85 hS.T_need (by omega) (by decide) ?_
          refine g_top (due) (hdu) ?_
          refine g_if_ne 86 105 dMod_does_86 rfl (fun h86 => ?_) (fun h86 => ?_)
          · exact absurd ⟨h77, h86⟩ hzd
          · refine g_iload 89 dMod_does_89 rfl ?_
            refine g_if_ne 91 107 dMod_does_91 rfl (fun h91 => ?_) (fun h91 => ?_)
            · exact absurd rfl h91
            · refine g_aload_n 94 dMod_does_94 rfl ?_
              refine g_iload 95 dMod_does_95 rfl ?_
              refine g_iload 97 dMod_does_97 rfl ?_
              refine g_callV 99 [_, _] dMod_does_99 cs_Mod_234 rfl (ci := 10) rfl (by decide) hS.mod rfl ⟨(Nat.le_of_ble_eq_true rfl), (Nat.le_of_ble_eq_true rfl)⟩ (Nat.le_of_ble_eq_true rfl) (ct_rmeans hS (by omega) hB) (Nat.le_of_ble_eq_true rfl) (Nat.le_of_ble_eq_true rfl) ?_
              rintro _ M2 ⟨rfl, hM2⟩
              rw [hM2]
              clear hM2 M2
              refine g_if_ne 102 107 dMod_does_102 rfl (fun h102 => ?_) (fun h102 => ?_)
              · exact absurd hi h102
              · refine g_iconst 105 0 dMod_does_105 rfl ?_
                exact g_zret 106 dMod_does_106 rfl (by decide) ⟨rfl, rfl⟩
      · exact absurd ⟨h66, h61⟩ hn
  · exact absurd h25 h0

def blL (a j : Nat) : Prop := a = 221 ∨ a = 222 ∨ (a = 169 ∧ j = 52)
theorem ct_rmeans1 {X : mX} {l : Launch} {M : mM} {t : Nat} {L : List (Int32 × Int32)} {mx : Int32} (hS : Shp M) (ht : t < 4) (hB : TbR M t L mx) {i : Nat} (h1 : 1 ≤ i) (h2 : i ≤ 6 + L.length) : Ct X l uMod_means (rk 0 0) [.ref 169, .int (nI t), .int (nI i)] M (fun r M' => r = some (.int 1) ∧ M' = M) := by rw [← hiT_in h1 h2 hB.2.1]; exact ct_rmeans hS ht hB
set_option maxRecDepth 100000 in
set_option maxHeartbeats 4000000 in
theorem ct_do_named {X : mX} {l : Launch} {M : mM} {e q : Nat} {L : List (Int32 × Int32)} {mm : Nat} {z w lim due : Int32} {s : zS} (hS : Shp M) (he : e < 2) (hB : TbR M (2 * e + 1) L (nI mm)) (hq : q < 768) (hst : StpR M q s) (hlim : Rforce M (3 * e) = lim) (hdu : Rneed M e = due) {acc : List (Int32 × Int32)} (hmm : mm ≤ 200) (hLi : LiR M acc) (h6 : acc.length < 6) (h0 : ¬ s.1 = 0) (hzd : ¬ (¬ z = 0 ∧ ¬ due = 0)) (hn0 : s.2.1 = 0) (hn1 : ¬ s.1 = 1) : Ct X l uMod_does (rk 3 68) [.ref 169, .int (nI e), .int (nI q), .int z, .int w] M (fun r M' => r = some (.int 1) ∧ TbR M' (2 * e + 1) (decL L (nI mm) s.1 (s.2.2.1) (s.2.2.2)) (nI mm) ∧ LiR M' (acc ++ [(s.2.2.1, s.2.2.2)]) ∧ Chg M M' (blP e) no2) := by
  refine Ct.of (by decide) (Nat.le_of_ble_eq_true rfl) ?_
  show G X l uMod_does (rk 3 68) 0 0 M 0 [some (.ref 169), some (.int (nI e)), some (.int (nI q)), some (.int z), some (.int w), none, none, none, none, none, none] [] _
  have hn5 := hB.2.1
  refine g_iconst 0 (nI 2) dMod_does_0 rfl ?_
  refine g_iload_n 1 dMod_does_1 rfl ?_
  refine g_imulN 2 dMod_does_2 ?_
  refine g_iconst 3 (nI 1) dMod_does_3 rfl ?_
  refine g_iaddN 4 dMod_does_4 ?_
  refine g_istore 5 dMod_does_5 (by decide) rfl ?_
  refine g_aload_n 7 dMod_does_7 rfl ?_
  refine g_getr 8 10 9 dMod_does_8 fs_Mod_39 rfl hS.mod hS.R_stepKind ?_
  refine g_iload_n 11 dMod_does_11 rfl ?_
  refine g_ialdN 12 dMod_does_12 hS.T_stepKind (by omega) (by decide) ?_
  refine g_top (s.1) (hst.1) ?_
  refine g_istore 13 dMod_does_13 (by decide) rfl ?_
  refine g_aload_n 15 dMod_does_15 rfl ?_
  refine g_getr 16 10 10 dMod_does_16 fs_Mod_42 rfl hS.mod hS.R_stepIndex ?_
  refine g_iload_n 19 dMod_does_19 rfl ?_
  refine g_ialdN 20 dMod_does_20 hS.T_stepIndex (by omega) (by decide) ?_
  refine g_top (s.2.1) (hst.2.1) ?_
  refine g_istore 21 dMod_does_21 (by decide) rfl ?_
  refine g_iload 23 dMod_does_23 rfl ?_
  refine g_if_ne 25 58 dMod_does_25 rfl (fun h25 => ?_) (fun h25 => ?_)
  · refine g_iload 58 dMod_does_58 rfl ?_
    refine g_iconst 60 1 dMod_does_60 rfl ?_
    refine g_icmp_eq 61 73 dMod_does_61 rfl (fun h61 => ?_) (fun h61 => ?_)
    · exact absurd h61 hn1
    · refine g_iload 64 dMod_does_64 rfl ?_
      refine g_if_ne 66 73 dMod_does_66 rfl (fun h66 => ?_) (fun h66 => ?_)
      · exact absurd hn0 h66
      · refine g_iconst 69 1 dMod_does_69 rfl ?_
        refine g_goto 70 74 dMod_does_70 rfl ?_
        refine g_istore 74 dMod_does_74 (by decide) rfl ?_
        refine g_iload_n 76 dMod_does_76 rfl ?_
        refine g_if_eq 77 89 dMod_does_77 rfl (fun h77 => ?_) (fun h77 => ?_)
        · refine g_iload 89 dMod_does_89 rfl ?_
          refine g_if_ne 91 107 dMod_does_91 rfl (fun h91 => ?_) (fun h91 => ?_)
          · refine g_iload 107 dMod_does_107 rfl ?_
            refine g_if_eq 109 121 dMod_does_109 rfl (fun h109 => ?_) (fun h109 => ?_)
            · exact absurd h109 (by decide)
            · refine g_aload_n 112 dMod_does_112 rfl ?_
              refine g_getr 113 10 11 dMod_does_113 fs_Mod_45 rfl hS.mod hS.R_stepName ?_
              refine g_iload_n 116 dMod_does_116 rfl ?_
              refine g_ialdN 117 dMod_does_117 hS.T_stepName (by omega) (by decide) ?_
              refine g_top (s.2.2.1) (hst.2.2.1) ?_
              refine g_goto 118 129 dMod_does_118 rfl ?_
              refine g_istore 129 dMod_does_129 (by decide) rfl ?_
              refine g_iload 131 dMod_does_131 rfl ?_
              refine g_iconst 133 1 dMod_does_133 rfl ?_
              refine g_icmp_ne 134 148 dMod_does_134 rfl (fun h134 => ?_) (fun h134 => ?_)
              · refine g_aload_n 148 dMod_does_148 rfl ?_
                refine g_getr 149 10 12 dMod_does_149 fs_Mod_48 rfl hS.mod hS.R_stepValue ?_
                refine g_iload_n 152 dMod_does_152 rfl ?_
                refine g_ialdN 153 dMod_does_153 hS.T_stepValue (by omega) (by decide) ?_
                refine g_top (s.2.2.2) (hst.2.2.2) ?_
                refine g_istore 154 dMod_does_154 (by decide) rfl ?_
                refine g_aload_n 156 dMod_does_156 rfl ?_
                refine g_getr 157 10 53 dMod_does_157 fs_Mod_165 rfl hS.mod hS.R_listName ?_
                refine g_aload_n 160 dMod_does_160 rfl ?_
                refine g_geti 161 10 52 dMod_does_161 fs_Mod_238 rfl hS.mod ?_
                refine g_top (nI (acc.length)) (hLi.1) ?_
                refine g_iload 164 dMod_does_164 rfl ?_
                refine g_iastN 166 dMod_does_166 hS.T_listName (by omega) (by decide) ?_
                refine g_aload_n 167 dMod_does_167 rfl ?_
                refine g_getr 168 10 54 dMod_does_168 fs_Mod_168 rfl hS.mod hS.R_listValue ?_
                refine g_aload_n 171 dMod_does_171 rfl ?_
                refine g_geti 172 10 52 dMod_does_172 fs_Mod_238 rfl hS.mod ?_
                refine g_top (nI (acc.length)) ((sI_a (by decide)).trans hLi.1) ?_
                refine g_iload 175 dMod_does_175 rfl ?_
                refine g_iastN 177 dMod_does_177 hS.T_listValue (by omega) (by decide) ?_
                refine g_aload_n 178 dMod_does_178 rfl ?_
                refine g_aload_n 179 dMod_does_179 rfl ?_
                refine g_geti 180 10 52 dMod_does_180 fs_Mod_238 rfl hS.mod ?_
                refine g_top (nI (acc.length)) ((sI_a (by decide)).trans ((sI_a (by decide)).trans hLi.1)) ?_
                refine g_iconst 183 (nI 1) dMod_does_183 rfl ?_
                refine g_iaddN 184 dMod_does_184 ?_
                refine g_puti 185 10 52 dMod_does_185 ps_Mod_238 rfl hS.mod ?_
                have hLi1 := hLi.app (a := s.2.2.1) (v := s.2.2.2) h6
                have hc1 : Chg M (setI (setI (setI M 221 acc.length (s.2.2.1)) 222 acc.length (s.2.2.2)) 169 52 (nI (acc.length + 1))) (blP e) no2 := ((Chg.rf.setI (Or.inl (by unfold blP; omega))).setI (Or.inl (by unfold blP; omega))).setI (Or.inl (by unfold blP; omega))
                have hcl : Chg M (setI (setI (setI M 221 acc.length (s.2.2.1)) 222 acc.length (s.2.2.2)) 169 52 (nI (acc.length + 1))) blL no2 := ((Chg.rf.setI (Or.inl (Or.inl rfl))).setI (Or.inl (Or.inr (Or.inl rfl)))).setI (Or.inl (Or.inr (Or.inr ⟨rfl, rfl⟩)))
                generalize setI (setI (setI M 221 acc.length (s.2.2.1)) 222 acc.length (s.2.2.2)) 169 52 (nI (acc.length + 1)) = M1 at *
                have hS1 := hS.mv hc1 (fun _ _ q => q.elim)
                have hB1 := hB.mv (M' := M1) (PI := blL) hcl hS.1 (fun a j q => by unfold blL at q; omega)
                refine g_iload 188 dMod_does_188 rfl ?_
                refine g_iconst 190 2 dMod_does_190 rfl ?_
                refine g_icmp_ne 191 204 dMod_does_191 rfl (fun h191 => ?_) (fun h191 => ?_)
                · have hB9 : TbR M1 (2 * e + 1) (decL L (nI mm) s.1 (s.2.2.1) (s.2.2.2)) (nI mm) := by unfold decL; rw [if_neg h191]; exact hB1
                  have hL9 := hLi1
                  have hC9 := hc1
                  refine g_iconst 204 1 dMod_does_204 rfl ?_
                  exact g_zret 205 dMod_does_205 rfl (by decide) ⟨rfl, hB9, hL9, hC9⟩
                · refine g_aload_n 194 dMod_does_194 rfl ?_
                  refine g_iload 195 dMod_does_195 rfl ?_
                  refine g_iload 197 dMod_does_197 rfl ?_
                  refine g_iload 199 dMod_does_199 rfl ?_
                  refine g_callV 201 [_, _, _] dMod_does_201 cs_Mod_230 rfl (ci := 10) rfl (by decide) hS1.mod rfl ⟨(Nat.le_of_ble_eq_true rfl), (Nat.le_of_ble_eq_true rfl)⟩ (Nat.le_of_ble_eq_true rfl) (ct_radd hS1 (by omega) hB1 hmm) (Nat.le_of_ble_eq_true rfl) (Nat.le_of_ble_eq_true rfl) ?_
                  rintro _ M2 ⟨rfl, hB2, hc2⟩
                  have hB9 : TbR M2 (2 * e + 1) (decL L (nI mm) s.1 (s.2.2.1) (s.2.2.2)) (nI mm) := by unfold decL; rw [if_pos h191]; exact hB2
                  have hL9 := hLi1.mv hc2 hS1.1 (fun a j q => by omega)
                  have hC9 := hc1.tr (hc2.mono (fun a j q => by unfold blP; omega) fun _ _ q => q)
                  refine g_iconst 204 1 dMod_does_204 rfl ?_
                  exact g_zret 205 dMod_does_205 rfl (by decide) ⟨rfl, hB9, hL9, hC9⟩
              · exact absurd h134 hn1
          · exact absurd h91 (by decide)
        · refine g_aload_n 80 dMod_does_80 rfl ?_
          refine g_getr 81 10 40 dMod_does_81 fs_Mod_129 rfl hS.mod hS.R_need ?_
          refine g_iload_n 84 dMod_does_84 rfl ?_
          refine g_zaldN 85 dMod_does_85 hS.T_need (by omega) (by decide) ?_
          refine g_top (due) (hdu) ?_
          refine g_if_ne 86 105 dMod_does_86 rfl (fun h86 => ?_) (fun h86 => ?_)
          · exact absurd ⟨h77, h86⟩ hzd
          · refine g_iload 89 dMod_does_89 rfl ?_
            refine g_if_ne 91 107 dMod_does_91 rfl (fun h91 => ?_) (fun h91 => ?_)
            · refine g_iload 107 dMod_does_107 rfl ?_
              refine g_if_eq 109 121 dMod_does_109 rfl (fun h109 => ?_) (fun h109 => ?_)
              · exact absurd h109 (by decide)
              · refine g_aload_n 112 dMod_does_112 rfl ?_
                refine g_getr 113 10 11 dMod_does_113 fs_Mod_45 rfl hS.mod hS.R_stepName ?_
                refine g_iload_n 116 dMod_does_116 rfl ?_
                refine g_ialdN 117 dMod_does_117 hS.T_stepName (by omega) (by decide) ?_
                refine g_top (s.2.2.1) (hst.2.2.1) ?_
                refine g_goto 118 129 dMod_does_118 rfl ?_
                refine g_istore 129 dMod_does_129 (by decide) rfl ?_
                refine g_iload 131 dMod_does_131 rfl ?_
                refine g_iconst 133 1 dMod_does_133 rfl ?_
                refine g_icmp_ne 134 148 dMod_does_134 rfl (fun h134 => ?_) (fun h134 => ?_)
                · refine g_aload_n 148 dMod_does_148 rfl ?_
                  refine g_getr 149 10 12 dMod_does_149 fs_Mod_48 rfl hS.mod hS.R_stepValue ?_
                  refine g_iload_n 152 dMod_does_152 rfl ?_
                  refine g_ialdN 153 dMod_does_153 hS.T_stepValue (by omega) (by decide) ?_
                  refine g_top (s.2.2.2) (hst.2.2.2) ?_
                  refine g_istore 154 dMod_does_154 (by decide) rfl ?_
                  refine g_aload_n 156 dMod_does_156 rfl ?_
                  refine g_getr 157 10 53 dMod_does_157 fs_Mod_165 rfl hS.mod hS.R_listName ?_
                  refine g_aload_n 160 dMod_does_160 rfl ?_
                  refine g_geti 161 10 52 dMod_does_161 fs_Mod_238 rfl hS.mod ?_
                  refine g_top (nI (acc.length)) (hLi.1) ?_
                  refine g_iload 164 dMod_does_164 rfl ?_
                  refine g_iastN 166 dMod_does_166 hS.T_listName (by omega) (by decide) ?_
                  refine g_aload_n 167 dMod_does_167 rfl ?_
                  refine g_getr 168 10 54 dMod_does_168 fs_Mod_168 rfl hS.mod hS.R_listValue ?_
                  refine g_aload_n 171 dMod_does_171 rfl ?_
                  refine g_geti 172 10 52 dMod_does_172 fs_Mod_238 rfl hS.mod ?_
                  refine g_top (nI (acc.length)) ((sI_a (by decide)).trans hLi.1) ?_
                  refine g_iload 175 dMod_does_175 rfl ?_
                  refine g_iastN 177 dMod_does_177 hS.T_listValue (by omega) (by decide) ?_
                  refine g_aload_n 178 dMod_does_178 rfl ?_
                  refine g_aload_n 179 dMod_does_179 rfl ?_
                  refine g_geti 180 10 52 dMod_does_180 fs_Mod_238 rfl hS.mod ?_
                  refine g_top (nI (acc.length)) ((sI_a (by decide)).trans ((sI_a (by decide)).trans hLi.1)) ?_
                  refine g_iconst 183 (nI 1) dMod_does_183 rfl ?_
                  refine g_iaddN 184 dMod_does_184 ?_
                  refine g_puti 185 10 52 dMod_does_185 ps_Mod_238 rfl hS.mod ?_
                  have hLi1 := hLi.app (a := s.2.2.1) (v := s.2.2.2) h6
                  have hc1 : Chg M (setI (setI (setI M 221 acc.length (s.2.2.1)) 222 acc.length (s.2.2.2)) 169 52 (nI (acc.length + 1))) (blP e) no2 := ((Chg.rf.setI (Or.inl (by unfold blP; omega))).setI (Or.inl (by unfold blP; omega))).setI (Or.inl (by unfold blP; omega))
                  have hcl : Chg M (setI (setI (setI M 221 acc.length (s.2.2.1)) 222 acc.length (s.2.2.2)) 169 52 (nI (acc.length + 1))) blL no2 := ((Chg.rf.setI (Or.inl (Or.inl rfl))).setI (Or.inl (Or.inr (Or.inl rfl)))).setI (Or.inl (Or.inr (Or.inr ⟨rfl, rfl⟩)))
                  generalize setI (setI (setI M 221 acc.length (s.2.2.1)) 222 acc.length (s.2.2.2)) 169 52 (nI (acc.length + 1)) = M1 at *
                  have hS1 := hS.mv hc1 (fun _ _ q => q.elim)
                  have hB1 := hB.mv (M' := M1) (PI := blL) hcl hS.1 (fun a j q => by unfold blL at q; omega)
                  refine g_iload 188 dMod_does_188 rfl ?_
                  refine g_iconst 190 2 dMod_does_190 rfl ?_
                  refine g_icmp_ne 191 204 dMod_does_191 rfl (fun h191 => ?_) (fun h191 => ?_)
                  · have hB9 : TbR M1 (2 * e + 1) (decL L (nI mm) s.1 (s.2.2.1) (s.2.2.2)) (nI mm) := by unfold decL; rw [if_neg h191]; exact hB1
                    have hL9 := hLi1
                    have hC9 := hc1
                    refine g_iconst 204 1 dMod_does_204 rfl ?_
                    exact g_zret 205 dMod_does_205 rfl (by decide) ⟨rfl, hB9, hL9, hC9⟩
                  · refine g_aload_n 194 dMod_does_194 rfl ?_
                    refine g_iload 195 dMod_does_195 rfl ?_
                    refine g_iload 197 dMod_does_197 rfl ?_
                    refine g_iload 199 dMod_does_199 rfl ?_
                    refine g_callV 201 [_, _, _] dMod_does_201 cs_Mod_230 rfl (ci := 10) rfl (by decide) hS1.mod rfl ⟨(Nat.le_of_ble_eq_true rfl), (Nat.le_of_ble_eq_true rfl)⟩ (Nat.le_of_ble_eq_true rfl) (ct_radd hS1 (by omega) hB1 hmm) (Nat.le_of_ble_eq_true rfl) (Nat.le_of_ble_eq_true rfl) ?_
                    rintro _ M2 ⟨rfl, hB2, hc2⟩
                    have hB9 : TbR M2 (2 * e + 1) (decL L (nI mm) s.1 (s.2.2.1) (s.2.2.2)) (nI mm) := by unfold decL; rw [if_pos h191]; exact hB2
                    have hL9 := hLi1.mv hc2 hS1.1 (fun a j q => by omega)
                    have hC9 := hc1.tr (hc2.mono (fun a j q => by unfold blP; omega) fun _ _ q => q)
                    refine g_iconst 204 1 dMod_does_204 rfl ?_
                    exact g_zret 205 dMod_does_205 rfl (by decide) ⟨rfl, hB9, hL9, hC9⟩
                · exact absurd h134 hn1
            · exact absurd h91 (by decide)
  · exact absurd h25 h0

set_option maxRecDepth 100000 in
set_option maxHeartbeats 4000000 in
theorem ct_do_idx {X : mX} {l : Launch} {M : mM} {e q : Nat} {L : List (Int32 × Int32)} {mm : Nat} {z w lim due : Int32} {s : zS} (hS : Shp M) (he : e < 2) (hB : TbR M (2 * e + 1) L (nI mm)) (hq : q < 768) (hst : StpR M q s) (hlim : Rforce M (3 * e) = lim) (hdu : Rneed M e = due) {acc : List (Int32 × Int32)} (hmm : mm ≤ 200) (hLi : LiR M acc) (h6 : acc.length < 6) {i : Nat} (h0 : ¬ s.1 = 0) (hzd : ¬ (¬ z = 0 ∧ ¬ due = 0)) (hsi : s.2.1 = nI i) (h1 : 1 ≤ i) (h2 : i ≤ 6 + L.length) : Ct X l uMod_does (rk 3 68) [.ref 169, .int (nI e), .int (nI q), .int z, .int w] M (fun r M' => r = some (.int 1) ∧ TbR M' (2 * e + 1) (decL L (nI mm) s.1 (nmT L i) (decV L s i)) (nI mm) ∧ LiR M' (acc ++ [(nmT L i, decV L s i)]) ∧ Chg M M' (blP e) no2) := by
  refine Ct.of (by decide) (Nat.le_of_ble_eq_true rfl) ?_
  show G X l uMod_does (rk 3 68) 0 0 M 0 [some (.ref 169), some (.int (nI e)), some (.int (nI q)), some (.int z), some (.int w), none, none, none, none, none, none] [] _
  have hn5 := hB.2.1
  refine g_iconst 0 (nI 2) dMod_does_0 rfl ?_
  refine g_iload_n 1 dMod_does_1 rfl ?_
  refine g_imulN 2 dMod_does_2 ?_
  refine g_iconst 3 (nI 1) dMod_does_3 rfl ?_
  refine g_iaddN 4 dMod_does_4 ?_
  refine g_istore 5 dMod_does_5 (by decide) rfl ?_
  refine g_aload_n 7 dMod_does_7 rfl ?_
  refine g_getr 8 10 9 dMod_does_8 fs_Mod_39 rfl hS.mod hS.R_stepKind ?_
  refine g_iload_n 11 dMod_does_11 rfl ?_
  refine g_ialdN 12 dMod_does_12 hS.T_stepKind (by omega) (by decide) ?_
  refine g_top (s.1) (hst.1) ?_
  refine g_istore 13 dMod_does_13 (by decide) rfl ?_
  refine g_aload_n 15 dMod_does_15 rfl ?_
  refine g_getr 16 10 10 dMod_does_16 fs_Mod_42 rfl hS.mod hS.R_stepIndex ?_
  refine g_iload_n 19 dMod_does_19 rfl ?_
  refine g_ialdN 20 dMod_does_20 hS.T_stepIndex (by omega) (by decide) ?_
  refine g_top (nI (i)) (hst.2.1.trans hsi) ?_
  refine g_istore 21 dMod_does_21 (by decide) rfl ?_
  refine g_iload 23 dMod_does_23 rfl ?_
  refine g_if_ne 25 58 dMod_does_25 rfl (fun h25 => ?_) (fun h25 => ?_)
  · refine g_iload 58 dMod_does_58 rfl ?_
    refine g_iconst 60 1 dMod_does_60 rfl ?_
    refine g_icmp_eq 61 73 dMod_does_61 rfl (fun h61 => ?_) (fun h61 => ?_)
    · refine g_iconst 73 0 dMod_does_73 rfl ?_
      refine g_istore 74 dMod_does_74 (by decide) rfl ?_
      refine g_iload_n 76 dMod_does_76 rfl ?_
      refine g_if_eq 77 89 dMod_does_77 rfl (fun h77 => ?_) (fun h77 => ?_)
      · refine g_iload 89 dMod_does_89 rfl ?_
        refine g_if_ne 91 107 dMod_does_91 rfl (fun h91 => ?_) (fun h91 => ?_)
        · exact absurd rfl h91
        · refine g_aload_n 94 dMod_does_94 rfl ?_
          refine g_iload 95 dMod_does_95 rfl ?_
          refine g_iload 97 dMod_does_97 rfl ?_
          refine g_callV 99 [_, _] dMod_does_99 cs_Mod_234 rfl (ci := 10) rfl (by decide) hS.mod rfl ⟨(Nat.le_of_ble_eq_true rfl), (Nat.le_of_ble_eq_true rfl)⟩ (Nat.le_of_ble_eq_true rfl) (ct_rmeans1 hS (by omega) hB h1 h2) (Nat.le_of_ble_eq_true rfl) (Nat.le_of_ble_eq_true rfl) ?_
          rintro _ M2 ⟨rfl, hM2⟩
          rw [hM2]
          clear hM2 M2
          refine g_if_ne 102 107 dMod_does_102 rfl (fun h102 => ?_) (fun h102 => ?_)
          · refine g_iload 107 dMod_does_107 rfl ?_
            refine g_if_eq 109 121 dMod_does_109 rfl (fun h109 => ?_) (fun h109 => ?_)
            · refine g_aload_n 121 dMod_does_121 rfl ?_
              refine g_iload 122 dMod_does_122 rfl ?_
              refine g_iload 124 dMod_does_124 rfl ?_
              refine g_callV 126 [_, _] dMod_does_126 cs_Mod_213 rfl (ci := 10) rfl (by decide) hS.mod rfl ⟨(Nat.le_of_ble_eq_true rfl), (Nat.le_of_ble_eq_true rfl)⟩ (Nat.le_of_ble_eq_true rfl) (ct_rnm hS (by omega) hB h1 h2) (Nat.le_of_ble_eq_true rfl) (Nat.le_of_ble_eq_true rfl) ?_
              rintro _ M2 ⟨rfl, hM2⟩
              rw [hM2]
              clear hM2 M2
              refine g_istore 129 dMod_does_129 (by decide) rfl ?_
              refine g_iload 131 dMod_does_131 rfl ?_
              refine g_iconst 133 1 dMod_does_133 rfl ?_
              refine g_icmp_ne 134 148 dMod_does_134 rfl (fun h134 => ?_) (fun h134 => ?_)
              · refine g_aload_n 148 dMod_does_148 rfl ?_
                refine g_getr 149 10 12 dMod_does_149 fs_Mod_48 rfl hS.mod hS.R_stepValue ?_
                refine g_iload_n 152 dMod_does_152 rfl ?_
                refine g_ialdN 153 dMod_does_153 hS.T_stepValue (by omega) (by decide) ?_
                refine g_top (s.2.2.2) (hst.2.2.2) ?_
                refine g_top (decV L s i) (by unfold decV; first | rw [if_pos h134] | rw [if_neg h134]) ?_
                refine g_istore 154 dMod_does_154 (by decide) rfl ?_
                refine g_aload_n 156 dMod_does_156 rfl ?_
                refine g_getr 157 10 53 dMod_does_157 fs_Mod_165 rfl hS.mod hS.R_listName ?_
                refine g_aload_n 160 dMod_does_160 rfl ?_
                refine g_geti 161 10 52 dMod_does_161 fs_Mod_238 rfl hS.mod ?_
                refine g_top (nI (acc.length)) (hLi.1) ?_
                refine g_iload 164 dMod_does_164 rfl ?_
                refine g_iastN 166 dMod_does_166 hS.T_listName (by omega) (by decide) ?_
                refine g_aload_n 167 dMod_does_167 rfl ?_
                refine g_getr 168 10 54 dMod_does_168 fs_Mod_168 rfl hS.mod hS.R_listValue ?_
                refine g_aload_n 171 dMod_does_171 rfl ?_
                refine g_geti 172 10 52 dMod_does_172 fs_Mod_238 rfl hS.mod ?_
                refine g_top (nI (acc.length)) ((sI_a (by decide)).trans hLi.1) ?_
                refine g_iload 175 dMod_does_175 rfl ?_
                refine g_iastN 177 dMod_does_177 hS.T_listValue (by omega) (by decide) ?_
                refine g_aload_n 178 dMod_does_178 rfl ?_
                refine g_aload_n 179 dMod_does_179 rfl ?_
                refine g_geti 180 10 52 dMod_does_180 fs_Mod_238 rfl hS.mod ?_
                refine g_top (nI (acc.length)) ((sI_a (by decide)).trans ((sI_a (by decide)).trans hLi.1)) ?_
                refine g_iconst 183 (nI 1) dMod_does_183 rfl ?_
                refine g_iaddN 184 dMod_does_184 ?_
                refine g_puti 185 10 52 dMod_does_185 ps_Mod_238 rfl hS.mod ?_
                have hLi1 := hLi.app (a := nmT L i) (v := decV L s i) h6
                have hc1 : Chg M (setI (setI (setI M 221 acc.length (nmT L i)) 222 acc.length (decV L s i)) 169 52 (nI (acc.length + 1))) (blP e) no2 := ((Chg.rf.setI (Or.inl (by unfold blP; omega))).setI (Or.inl (by unfold blP; omega))).setI (Or.inl (by unfold blP; omega))
                have hcl : Chg M (setI (setI (setI M 221 acc.length (nmT L i)) 222 acc.length (decV L s i)) 169 52 (nI (acc.length + 1))) blL no2 := ((Chg.rf.setI (Or.inl (Or.inl rfl))).setI (Or.inl (Or.inr (Or.inl rfl)))).setI (Or.inl (Or.inr (Or.inr ⟨rfl, rfl⟩)))
                generalize setI (setI (setI M 221 acc.length (nmT L i)) 222 acc.length (decV L s i)) 169 52 (nI (acc.length + 1)) = M1 at *
                have hS1 := hS.mv hc1 (fun _ _ q => q.elim)
                have hB1 := hB.mv (M' := M1) (PI := blL) hcl hS.1 (fun a j q => by unfold blL at q; omega)
                refine g_iload 188 dMod_does_188 rfl ?_
                refine g_iconst 190 2 dMod_does_190 rfl ?_
                refine g_icmp_ne 191 204 dMod_does_191 rfl (fun h191 => ?_) (fun h191 => ?_)
                · have hB9 : TbR M1 (2 * e + 1) (decL L (nI mm) s.1 (nmT L i) (decV L s i)) (nI mm) := by unfold decL; rw [if_neg h191]; exact hB1
                  have hL9 := hLi1
                  have hC9 := hc1
                  refine g_iconst 204 1 dMod_does_204 rfl ?_
                  exact g_zret 205 dMod_does_205 rfl (by decide) ⟨rfl, hB9, hL9, hC9⟩
                · refine g_aload_n 194 dMod_does_194 rfl ?_
                  refine g_iload 195 dMod_does_195 rfl ?_
                  refine g_iload 197 dMod_does_197 rfl ?_
                  refine g_iload 199 dMod_does_199 rfl ?_
                  refine g_callV 201 [_, _, _] dMod_does_201 cs_Mod_230 rfl (ci := 10) rfl (by decide) hS1.mod rfl ⟨(Nat.le_of_ble_eq_true rfl), (Nat.le_of_ble_eq_true rfl)⟩ (Nat.le_of_ble_eq_true rfl) (ct_radd hS1 (by omega) hB1 hmm) (Nat.le_of_ble_eq_true rfl) (Nat.le_of_ble_eq_true rfl) ?_
                  rintro _ M2 ⟨rfl, hB2, hc2⟩
                  have hB9 : TbR M2 (2 * e + 1) (decL L (nI mm) s.1 (nmT L i) (decV L s i)) (nI mm) := by unfold decL; rw [if_pos h191]; exact hB2
                  have hL9 := hLi1.mv hc2 hS1.1 (fun a j q => by omega)
                  have hC9 := hc1.tr (hc2.mono (fun a j q => by unfold blP; omega) fun _ _ q => q)
                  refine g_iconst 204 1 dMod_does_204 rfl ?_
                  exact g_zret 205 dMod_does_205 rfl (by decide) ⟨rfl, hB9, hL9, hC9⟩
              · refine g_aload_n 137 dMod_does_137 rfl ?_
                refine g_iload 138 dMod_does_138 rfl ?_
                refine g_iload 140 dMod_does_140 rfl ?_
                refine g_callV 142 [_, _] dMod_does_142 cs_Mod_216 rfl (ci := 10) rfl (by decide) hS.mod rfl ⟨(Nat.le_of_ble_eq_true rfl), (Nat.le_of_ble_eq_true rfl)⟩ (Nat.le_of_ble_eq_true rfl) (ct_rvl hS (by omega) hB h1 h2) (Nat.le_of_ble_eq_true rfl) (Nat.le_of_ble_eq_true rfl) ?_
                rintro _ M2 ⟨rfl, hM2⟩
                rw [hM2]
                clear hM2 M2
                refine g_goto 145 154 dMod_does_145 rfl ?_
                refine g_top (decV L s i) (by unfold decV; first | rw [if_pos h134] | rw [if_neg h134]) ?_
                refine g_istore 154 dMod_does_154 (by decide) rfl ?_
                refine g_aload_n 156 dMod_does_156 rfl ?_
                refine g_getr 157 10 53 dMod_does_157 fs_Mod_165 rfl hS.mod hS.R_listName ?_
                refine g_aload_n 160 dMod_does_160 rfl ?_
                refine g_geti 161 10 52 dMod_does_161 fs_Mod_238 rfl hS.mod ?_
                refine g_top (nI (acc.length)) (hLi.1) ?_
                refine g_iload 164 dMod_does_164 rfl ?_
                refine g_iastN 166 dMod_does_166 hS.T_listName (by omega) (by decide) ?_
                refine g_aload_n 167 dMod_does_167 rfl ?_
                refine g_getr 168 10 54 dMod_does_168 fs_Mod_168 rfl hS.mod hS.R_listValue ?_
                refine g_aload_n 171 dMod_does_171 rfl ?_
                refine g_geti 172 10 52 dMod_does_172 fs_Mod_238 rfl hS.mod ?_
                refine g_top (nI (acc.length)) ((sI_a (by decide)).trans hLi.1) ?_
                refine g_iload 175 dMod_does_175 rfl ?_
                refine g_iastN 177 dMod_does_177 hS.T_listValue (by omega) (by decide) ?_
                refine g_aload_n 178 dMod_does_178 rfl ?_
                refine g_aload_n 179 dMod_does_179 rfl ?_
                refine g_geti 180 10 52 dMod_does_180 fs_Mod_238 rfl hS.mod ?_
                refine g_top (nI (acc.length)) ((sI_a (by decide)).trans ((sI_a (by decide)).trans hLi.1)) ?_
                refine g_iconst 183 (nI 1) dMod_does_183 rfl ?_
                refine g_iaddN 184 dMod_does_184 ?_
                refine g_puti 185 10 52 dMod_does_185 ps_Mod_238 rfl hS.mod ?_
                have hLi1 := hLi.app (a := nmT L i) (v := decV L s i) h6
                have hc1 : Chg M (setI (setI (setI M 221 acc.length (nmT L i)) 222 acc.length (decV L s i)) 169 52 (nI (acc.length + 1))) (blP e) no2 := ((Chg.rf.setI (Or.inl (by unfold blP; omega))).setI (Or.inl (by unfold blP; omega))).setI (Or.inl (by unfold blP; omega))
                have hcl : Chg M (setI (setI (setI M 221 acc.length (nmT L i)) 222 acc.length (decV L s i)) 169 52 (nI (acc.length + 1))) blL no2 := ((Chg.rf.setI (Or.inl (Or.inl rfl))).setI (Or.inl (Or.inr (Or.inl rfl)))).setI (Or.inl (Or.inr (Or.inr ⟨rfl, rfl⟩)))
                generalize setI (setI (setI M 221 acc.length (nmT L i)) 222 acc.length (decV L s i)) 169 52 (nI (acc.length + 1)) = M1 at *
                have hS1 := hS.mv hc1 (fun _ _ q => q.elim)
                have hB1 := hB.mv (M' := M1) (PI := blL) hcl hS.1 (fun a j q => by unfold blL at q; omega)
                refine g_iload 188 dMod_does_188 rfl ?_
                refine g_iconst 190 2 dMod_does_190 rfl ?_
                refine g_icmp_ne 191 204 dMod_does_191 rfl (fun h191 => ?_) (fun h191 => ?_)
                · have hB9 : TbR M1 (2 * e + 1) (decL L (nI mm) s.1 (nmT L i) (decV L s i)) (nI mm) := by unfold decL; rw [if_neg h191]; exact hB1
                  have hL9 := hLi1
                  have hC9 := hc1
                  refine g_iconst 204 1 dMod_does_204 rfl ?_
                  exact g_zret 205 dMod_does_205 rfl (by decide) ⟨rfl, hB9, hL9, hC9⟩
                · refine g_aload_n 194 dMod_does_194 rfl ?_
                  refine g_iload 195 dMod_does_195 rfl ?_
                  refine g_iload 197 dMod_does_197 rfl ?_
                  refine g_iload 199 dMod_does_199 rfl ?_
                  refine g_callV 201 [_, _, _] dMod_does_201 cs_Mod_230 rfl (ci := 10) rfl (by decide) hS1.mod rfl ⟨(Nat.le_of_ble_eq_true rfl), (Nat.le_of_ble_eq_true rfl)⟩ (Nat.le_of_ble_eq_true rfl) (ct_radd hS1 (by omega) hB1 hmm) (Nat.le_of_ble_eq_true rfl) (Nat.le_of_ble_eq_true rfl) ?_
                  rintro _ M2 ⟨rfl, hB2, hc2⟩
                  have hB9 : TbR M2 (2 * e + 1) (decL L (nI mm) s.1 (nmT L i) (decV L s i)) (nI mm) := by unfold decL; rw [if_pos h191]; exact hB2
                  have hL9 := hLi1.mv hc2 hS1.1 (fun a j q => by omega)
                  have hC9 := hc1.tr (hc2.mono (fun a j q => by unfold blP; omega) fun _ _ q => q)
                  refine g_iconst 204 1 dMod_does_204 rfl ?_
                  exact g_zret 205 dMod_does_205 rfl (by decide) ⟨rfl, hB9, hL9, hC9⟩
            · exact absurd rfl h109
          · exact absurd h102 (by decide)
      · refine g_aload_n 80 dMod_does_80 rfl ?_
        refine g_getr 81 10 40 dMod_does_81 fs_Mod_129 rfl hS.mod hS.R_need ?_
        refine g_iload_n 84 dMod_does_84 rfl ?_
        refine g_zaldN 85 dMod_does_85 hS.T_need (by omega) (by decide) ?_
        refine g_top (due) (hdu) ?_
        refine g_if_ne 86 105 dMod_does_86 rfl (fun h86 => ?_) (fun h86 => ?_)
        · exact absurd ⟨h77, h86⟩ hzd
        · refine g_iload 89 dMod_does_89 rfl ?_
          refine g_if_ne 91 107 dMod_does_91 rfl (fun h91 => ?_) (fun h91 => ?_)
          · exact absurd rfl h91
          · refine g_aload_n 94 dMod_does_94 rfl ?_
            refine g_iload 95 dMod_does_95 rfl ?_
            refine g_iload 97 dMod_does_97 rfl ?_
            refine g_callV 99 [_, _] dMod_does_99 cs_Mod_234 rfl (ci := 10) rfl (by decide) hS.mod rfl ⟨(Nat.le_of_ble_eq_true rfl), (Nat.le_of_ble_eq_true rfl)⟩ (Nat.le_of_ble_eq_true rfl) (ct_rmeans1 hS (by omega) hB h1 h2) (Nat.le_of_ble_eq_true rfl) (Nat.le_of_ble_eq_true rfl) ?_
            rintro _ M2 ⟨rfl, hM2⟩
            rw [hM2]
            clear hM2 M2
            refine g_if_ne 102 107 dMod_does_102 rfl (fun h102 => ?_) (fun h102 => ?_)
            · refine g_iload 107 dMod_does_107 rfl ?_
              refine g_if_eq 109 121 dMod_does_109 rfl (fun h109 => ?_) (fun h109 => ?_)
              · refine g_aload_n 121 dMod_does_121 rfl ?_
                refine g_iload 122 dMod_does_122 rfl ?_
                refine g_iload 124 dMod_does_124 rfl ?_
                refine g_callV 126 [_, _] dMod_does_126 cs_Mod_213 rfl (ci := 10) rfl (by decide) hS.mod rfl ⟨(Nat.le_of_ble_eq_true rfl), (Nat.le_of_ble_eq_true rfl)⟩ (Nat.le_of_ble_eq_true rfl) (ct_rnm hS (by omega) hB h1 h2) (Nat.le_of_ble_eq_true rfl) (Nat.le_of_ble_eq_true rfl) ?_
                rintro _ M2 ⟨rfl, hM2⟩
                rw [hM2]
                clear hM2 M2
                refine g_istore 129 dMod_does_129 (by decide) rfl ?_
                refine g_iload 131 dMod_does_131 rfl ?_
                refine g_iconst 133 1 dMod_does_133 rfl ?_
                refine g_icmp_ne 134 148 dMod_does_134 rfl (fun h134 => ?_) (fun h134 => ?_)
                · refine g_aload_n 148 dMod_does_148 rfl ?_
                  refine g_getr 149 10 12 dMod_does_149 fs_Mod_48 rfl hS.mod hS.R_stepValue ?_
                  refine g_iload_n 152 dMod_does_152 rfl ?_
                  refine g_ialdN 153 dMod_does_153 hS.T_stepValue (by omega) (by decide) ?_
                  refine g_top (s.2.2.2) (hst.2.2.2) ?_
                  refine g_top (decV L s i) (by unfold decV; first | rw [if_pos h134] | rw [if_neg h134]) ?_
                  refine g_istore 154 dMod_does_154 (by decide) rfl ?_
                  refine g_aload_n 156 dMod_does_156 rfl ?_
                  refine g_getr 157 10 53 dMod_does_157 fs_Mod_165 rfl hS.mod hS.R_listName ?_
                  refine g_aload_n 160 dMod_does_160 rfl ?_
                  refine g_geti 161 10 52 dMod_does_161 fs_Mod_238 rfl hS.mod ?_
                  refine g_top (nI (acc.length)) (hLi.1) ?_
                  refine g_iload 164 dMod_does_164 rfl ?_
                  refine g_iastN 166 dMod_does_166 hS.T_listName (by omega) (by decide) ?_
                  refine g_aload_n 167 dMod_does_167 rfl ?_
                  refine g_getr 168 10 54 dMod_does_168 fs_Mod_168 rfl hS.mod hS.R_listValue ?_
                  refine g_aload_n 171 dMod_does_171 rfl ?_
                  refine g_geti 172 10 52 dMod_does_172 fs_Mod_238 rfl hS.mod ?_
                  refine g_top (nI (acc.length)) ((sI_a (by decide)).trans hLi.1) ?_
                  refine g_iload 175 dMod_does_175 rfl ?_
                  refine g_iastN 177 dMod_does_177 hS.T_listValue (by omega) (by decide) ?_
                  refine g_aload_n 178 dMod_does_178 rfl ?_
                  refine g_aload_n 179 dMod_does_179 rfl ?_
                  refine g_geti 180 10 52 dMod_does_180 fs_Mod_238 rfl hS.mod ?_
                  refine g_top (nI (acc.length)) ((sI_a (by decide)).trans ((sI_a (by decide)).trans hLi.1)) ?_
                  refine g_iconst 183 (nI 1) dMod_does_183 rfl ?_
                  refine g_iaddN 184 dMod_does_184 ?_
                  refine g_puti 185 10 52 dMod_does_185 ps_Mod_238 rfl hS.mod ?_
                  have hLi1 := hLi.app (a := nmT L i) (v := decV L s i) h6
                  have hc1 : Chg M (setI (setI (setI M 221 acc.length (nmT L i)) 222 acc.length (decV L s i)) 169 52 (nI (acc.length + 1))) (blP e) no2 := ((Chg.rf.setI (Or.inl (by unfold blP; omega))).setI (Or.inl (by unfold blP; omega))).setI (Or.inl (by unfold blP; omega))
                  have hcl : Chg M (setI (setI (setI M 221 acc.length (nmT L i)) 222 acc.length (decV L s i)) 169 52 (nI (acc.length + 1))) blL no2 := ((Chg.rf.setI (Or.inl (Or.inl rfl))).setI (Or.inl (Or.inr (Or.inl rfl)))).setI (Or.inl (Or.inr (Or.inr ⟨rfl, rfl⟩)))
                  generalize setI (setI (setI M 221 acc.length (nmT L i)) 222 acc.length (decV L s i)) 169 52 (nI (acc.length + 1)) = M1 at *
                  have hS1 := hS.mv hc1 (fun _ _ q => q.elim)
                  have hB1 := hB.mv (M' := M1) (PI := blL) hcl hS.1 (fun a j q => by unfold blL at q; omega)
                  refine g_iload 188 dMod_does_188 rfl ?_
                  refine g_iconst 190 2 dMod_does_190 rfl ?_
                  refine g_icmp_ne 191 204 dMod_does_191 rfl (fun h191 => ?_) (fun h191 => ?_)
                  · have hB9 : TbR M1 (2 * e + 1) (decL L (nI mm) s.1 (nmT L i) (decV L s i)) (nI mm) := by unfold decL; rw [if_neg h191]; exact hB1
                    have hL9 := hLi1
                    have hC9 := hc1
                    refine g_iconst 204 1 dMod_does_204 rfl ?_
                    exact g_zret 205 dMod_does_205 rfl (by decide) ⟨rfl, hB9, hL9, hC9⟩
                  · refine g_aload_n 194 dMod_does_194 rfl ?_
                    refine g_iload 195 dMod_does_195 rfl ?_
                    refine g_iload 197 dMod_does_197 rfl ?_
                    refine g_iload 199 dMod_does_199 rfl ?_
                    refine g_callV 201 [_, _, _] dMod_does_201 cs_Mod_230 rfl (ci := 10) rfl (by decide) hS1.mod rfl ⟨(Nat.le_of_ble_eq_true rfl), (Nat.le_of_ble_eq_true rfl)⟩ (Nat.le_of_ble_eq_true rfl) (ct_radd hS1 (by omega) hB1 hmm) (Nat.le_of_ble_eq_true rfl) (Nat.le_of_ble_eq_true rfl) ?_
                    rintro _ M2 ⟨rfl, hB2, hc2⟩
                    have hB9 : TbR M2 (2 * e + 1) (decL L (nI mm) s.1 (nmT L i) (decV L s i)) (nI mm) := by unfold decL; rw [if_pos h191]; exact hB2
                    have hL9 := hLi1.mv hc2 hS1.1 (fun a j q => by omega)
                    have hC9 := hc1.tr (hc2.mono (fun a j q => by unfold blP; omega) fun _ _ q => q)
                    refine g_iconst 204 1 dMod_does_204 rfl ?_
                    exact g_zret 205 dMod_does_205 rfl (by decide) ⟨rfl, hB9, hL9, hC9⟩
                · refine g_aload_n 137 dMod_does_137 rfl ?_
                  refine g_iload 138 dMod_does_138 rfl ?_
                  refine g_iload 140 dMod_does_140 rfl ?_
                  refine g_callV 142 [_, _] dMod_does_142 cs_Mod_216 rfl (ci := 10) rfl (by decide) hS.mod rfl ⟨(Nat.le_of_ble_eq_true rfl), (Nat.le_of_ble_eq_true rfl)⟩ (Nat.le_of_ble_eq_true rfl) (ct_rvl hS (by omega) hB h1 h2) (Nat.le_of_ble_eq_true rfl) (Nat.le_of_ble_eq_true rfl) ?_
                  rintro _ M2 ⟨rfl, hM2⟩
                  rw [hM2]
                  clear hM2 M2
                  refine g_goto 145 154 dMod_does_145 rfl ?_
                  refine g_top (decV L s i) (by unfold decV; first | rw [if_pos h134] | rw [if_neg h134]) ?_
                  refine g_istore 154 dMod_does_154 (by decide) rfl ?_
                  refine g_aload_n 156 dMod_does_156 rfl ?_
                  refine g_getr 157 10 53 dMod_does_157 fs_Mod_165 rfl hS.mod hS.R_listName ?_
                  refine g_aload_n 160 dMod_does_160 rfl ?_
                  refine g_geti 161 10 52 dMod_does_161 fs_Mod_238 rfl hS.mod ?_
                  refine g_top (nI (acc.length)) (hLi.1) ?_
                  refine g_iload 164 dMod_does_164 rfl ?_
                  refine g_iastN 166 dMod_does_166 hS.T_listName (by omega) (by decide) ?_
                  refine g_aload_n 167 dMod_does_167 rfl ?_
                  refine g_getr 168 10 54 dMod_does_168 fs_Mod_168 rfl hS.mod hS.R_listValue ?_
                  refine g_aload_n 171 dMod_does_171 rfl ?_
                  refine g_geti 172 10 52 dMod_does_172 fs_Mod_238 rfl hS.mod ?_
                  refine g_top (nI (acc.length)) ((sI_a (by decide)).trans hLi.1) ?_
                  refine g_iload 175 dMod_does_175 rfl ?_
                  refine g_iastN 177 dMod_does_177 hS.T_listValue (by omega) (by decide) ?_
                  refine g_aload_n 178 dMod_does_178 rfl ?_
                  refine g_aload_n 179 dMod_does_179 rfl ?_
                  refine g_geti 180 10 52 dMod_does_180 fs_Mod_238 rfl hS.mod ?_
                  refine g_top (nI (acc.length)) ((sI_a (by decide)).trans ((sI_a (by decide)).trans hLi.1)) ?_
                  refine g_iconst 183 (nI 1) dMod_does_183 rfl ?_
                  refine g_iaddN 184 dMod_does_184 ?_
                  refine g_puti 185 10 52 dMod_does_185 ps_Mod_238 rfl hS.mod ?_
                  have hLi1 := hLi.app (a := nmT L i) (v := decV L s i) h6
                  have hc1 : Chg M (setI (setI (setI M 221 acc.length (nmT L i)) 222 acc.length (decV L s i)) 169 52 (nI (acc.length + 1))) (blP e) no2 := ((Chg.rf.setI (Or.inl (by unfold blP; omega))).setI (Or.inl (by unfold blP; omega))).setI (Or.inl (by unfold blP; omega))
                  have hcl : Chg M (setI (setI (setI M 221 acc.length (nmT L i)) 222 acc.length (decV L s i)) 169 52 (nI (acc.length + 1))) blL no2 := ((Chg.rf.setI (Or.inl (Or.inl rfl))).setI (Or.inl (Or.inr (Or.inl rfl)))).setI (Or.inl (Or.inr (Or.inr ⟨rfl, rfl⟩)))
                  generalize setI (setI (setI M 221 acc.length (nmT L i)) 222 acc.length (decV L s i)) 169 52 (nI (acc.length + 1)) = M1 at *
                  have hS1 := hS.mv hc1 (fun _ _ q => q.elim)
                  have hB1 := hB.mv (M' := M1) (PI := blL) hcl hS.1 (fun a j q => by unfold blL at q; omega)
                  refine g_iload 188 dMod_does_188 rfl ?_
                  refine g_iconst 190 2 dMod_does_190 rfl ?_
                  refine g_icmp_ne 191 204 dMod_does_191 rfl (fun h191 => ?_) (fun h191 => ?_)
                  · have hB9 : TbR M1 (2 * e + 1) (decL L (nI mm) s.1 (nmT L i) (decV L s i)) (nI mm) := by unfold decL; rw [if_neg h191]; exact hB1
                    have hL9 := hLi1
                    have hC9 := hc1
                    refine g_iconst 204 1 dMod_does_204 rfl ?_
                    exact g_zret 205 dMod_does_205 rfl (by decide) ⟨rfl, hB9, hL9, hC9⟩
                  · refine g_aload_n 194 dMod_does_194 rfl ?_
                    refine g_iload 195 dMod_does_195 rfl ?_
                    refine g_iload 197 dMod_does_197 rfl ?_
                    refine g_iload 199 dMod_does_199 rfl ?_
                    refine g_callV 201 [_, _, _] dMod_does_201 cs_Mod_230 rfl (ci := 10) rfl (by decide) hS1.mod rfl ⟨(Nat.le_of_ble_eq_true rfl), (Nat.le_of_ble_eq_true rfl)⟩ (Nat.le_of_ble_eq_true rfl) (ct_radd hS1 (by omega) hB1 hmm) (Nat.le_of_ble_eq_true rfl) (Nat.le_of_ble_eq_true rfl) ?_
                    rintro _ M2 ⟨rfl, hB2, hc2⟩
                    have hB9 : TbR M2 (2 * e + 1) (decL L (nI mm) s.1 (nmT L i) (decV L s i)) (nI mm) := by unfold decL; rw [if_pos h191]; exact hB2
                    have hL9 := hLi1.mv hc2 hS1.1 (fun a j q => by omega)
                    have hC9 := hc1.tr (hc2.mono (fun a j q => by unfold blP; omega) fun _ _ q => q)
                    refine g_iconst 204 1 dMod_does_204 rfl ?_
                    exact g_zret 205 dMod_does_205 rfl (by decide) ⟨rfl, hB9, hL9, hC9⟩
              · exact absurd rfl h109
            · exact absurd h102 (by decide)
    · refine g_iload 64 dMod_does_64 rfl ?_
      refine g_if_neN 66 73 dMod_does_66 rfl (by omega) (fun h66 => ?_) (fun h66 => ?_)
      · refine g_iconst 73 0 dMod_does_73 rfl ?_
        refine g_istore 74 dMod_does_74 (by decide) rfl ?_
        refine g_iload_n 76 dMod_does_76 rfl ?_
        refine g_if_eq 77 89 dMod_does_77 rfl (fun h77 => ?_) (fun h77 => ?_)
        · refine g_iload 89 dMod_does_89 rfl ?_
          refine g_if_ne 91 107 dMod_does_91 rfl (fun h91 => ?_) (fun h91 => ?_)
          · exact absurd rfl h91
          · refine g_aload_n 94 dMod_does_94 rfl ?_
            refine g_iload 95 dMod_does_95 rfl ?_
            refine g_iload 97 dMod_does_97 rfl ?_
            refine g_callV 99 [_, _] dMod_does_99 cs_Mod_234 rfl (ci := 10) rfl (by decide) hS.mod rfl ⟨(Nat.le_of_ble_eq_true rfl), (Nat.le_of_ble_eq_true rfl)⟩ (Nat.le_of_ble_eq_true rfl) (ct_rmeans1 hS (by omega) hB h1 h2) (Nat.le_of_ble_eq_true rfl) (Nat.le_of_ble_eq_true rfl) ?_
            rintro _ M2 ⟨rfl, hM2⟩
            rw [hM2]
            clear hM2 M2
            refine g_if_ne 102 107 dMod_does_102 rfl (fun h102 => ?_) (fun h102 => ?_)
            · refine g_iload 107 dMod_does_107 rfl ?_
              refine g_if_eq 109 121 dMod_does_109 rfl (fun h109 => ?_) (fun h109 => ?_)
              · refine g_aload_n 121 dMod_does_121 rfl ?_
                refine g_iload 122 dMod_does_122 rfl ?_
                refine g_iload 124 dMod_does_124 rfl ?_
                refine g_callV 126 [_, _] dMod_does_126 cs_Mod_213 rfl (ci := 10) rfl (by decide) hS.mod rfl ⟨(Nat.le_of_ble_eq_true rfl), (Nat.le_of_ble_eq_true rfl)⟩ (Nat.le_of_ble_eq_true rfl) (ct_rnm hS (by omega) hB h1 h2) (Nat.le_of_ble_eq_true rfl) (Nat.le_of_ble_eq_true rfl) ?_
                rintro _ M2 ⟨rfl, hM2⟩
                rw [hM2]
                clear hM2 M2
                refine g_istore 129 dMod_does_129 (by decide) rfl ?_
                refine g_iload 131 dMod_does_131 rfl ?_
                refine g_iconst 133 1 dMod_does_133 rfl ?_
                refine g_icmp_ne 134 148 dMod_does_134 rfl (fun h134 => ?_) (fun h134 => ?_)
                · refine g_aload_n 148 dMod_does_148 rfl ?_
                  refine g_getr 149 10 12 dMod_does_149 fs_Mod_48 rfl hS.mod hS.R_stepValue ?_
                  refine g_iload_n 152 dMod_does_152 rfl ?_
                  refine g_ialdN 153 dMod_does_153 hS.T_stepValue (by omega) (by decide) ?_
                  refine g_top (s.2.2.2) (hst.2.2.2) ?_
                  refine g_top (decV L s i) (by unfold decV; first | rw [if_pos h134] | rw [if_neg h134]) ?_
                  refine g_istore 154 dMod_does_154 (by decide) rfl ?_
                  refine g_aload_n 156 dMod_does_156 rfl ?_
                  refine g_getr 157 10 53 dMod_does_157 fs_Mod_165 rfl hS.mod hS.R_listName ?_
                  refine g_aload_n 160 dMod_does_160 rfl ?_
                  refine g_geti 161 10 52 dMod_does_161 fs_Mod_238 rfl hS.mod ?_
                  refine g_top (nI (acc.length)) (hLi.1) ?_
                  refine g_iload 164 dMod_does_164 rfl ?_
                  refine g_iastN 166 dMod_does_166 hS.T_listName (by omega) (by decide) ?_
                  refine g_aload_n 167 dMod_does_167 rfl ?_
                  refine g_getr 168 10 54 dMod_does_168 fs_Mod_168 rfl hS.mod hS.R_listValue ?_
                  refine g_aload_n 171 dMod_does_171 rfl ?_
                  refine g_geti 172 10 52 dMod_does_172 fs_Mod_238 rfl hS.mod ?_
                  refine g_top (nI (acc.length)) ((sI_a (by decide)).trans hLi.1) ?_
                  refine g_iload 175 dMod_does_175 rfl ?_
                  refine g_iastN 177 dMod_does_177 hS.T_listValue (by omega) (by decide) ?_
                  refine g_aload_n 178 dMod_does_178 rfl ?_
                  refine g_aload_n 179 dMod_does_179 rfl ?_
                  refine g_geti 180 10 52 dMod_does_180 fs_Mod_238 rfl hS.mod ?_
                  refine g_top (nI (acc.length)) ((sI_a (by decide)).trans ((sI_a (by decide)).trans hLi.1)) ?_
                  refine g_iconst 183 (nI 1) dMod_does_183 rfl ?_
                  refine g_iaddN 184 dMod_does_184 ?_
                  refine g_puti 185 10 52 dMod_does_185 ps_Mod_238 rfl hS.mod ?_
                  have hLi1 := hLi.app (a := nmT L i) (v := decV L s i) h6
                  have hc1 : Chg M (setI (setI (setI M 221 acc.length (nmT L i)) 222 acc.length (decV L s i)) 169 52 (nI (acc.length + 1))) (blP e) no2 := ((Chg.rf.setI (Or.inl (by unfold blP; omega))).setI (Or.inl (by unfold blP; omega))).setI (Or.inl (by unfold blP; omega))
                  have hcl : Chg M (setI (setI (setI M 221 acc.length (nmT L i)) 222 acc.length (decV L s i)) 169 52 (nI (acc.length + 1))) blL no2 := ((Chg.rf.setI (Or.inl (Or.inl rfl))).setI (Or.inl (Or.inr (Or.inl rfl)))).setI (Or.inl (Or.inr (Or.inr ⟨rfl, rfl⟩)))
                  generalize setI (setI (setI M 221 acc.length (nmT L i)) 222 acc.length (decV L s i)) 169 52 (nI (acc.length + 1)) = M1 at *
                  have hS1 := hS.mv hc1 (fun _ _ q => q.elim)
                  have hB1 := hB.mv (M' := M1) (PI := blL) hcl hS.1 (fun a j q => by unfold blL at q; omega)
                  refine g_iload 188 dMod_does_188 rfl ?_
                  refine g_iconst 190 2 dMod_does_190 rfl ?_
                  refine g_icmp_ne 191 204 dMod_does_191 rfl (fun h191 => ?_) (fun h191 => ?_)
                  · have hB9 : TbR M1 (2 * e + 1) (decL L (nI mm) s.1 (nmT L i) (decV L s i)) (nI mm) := by unfold decL; rw [if_neg h191]; exact hB1
                    have hL9 := hLi1
                    have hC9 := hc1
                    refine g_iconst 204 1 dMod_does_204 rfl ?_
                    exact g_zret 205 dMod_does_205 rfl (by decide) ⟨rfl, hB9, hL9, hC9⟩
                  · refine g_aload_n 194 dMod_does_194 rfl ?_
                    refine g_iload 195 dMod_does_195 rfl ?_
                    refine g_iload 197 dMod_does_197 rfl ?_
                    refine g_iload 199 dMod_does_199 rfl ?_
                    refine g_callV 201 [_, _, _] dMod_does_201 cs_Mod_230 rfl (ci := 10) rfl (by decide) hS1.mod rfl ⟨(Nat.le_of_ble_eq_true rfl), (Nat.le_of_ble_eq_true rfl)⟩ (Nat.le_of_ble_eq_true rfl) (ct_radd hS1 (by omega) hB1 hmm) (Nat.le_of_ble_eq_true rfl) (Nat.le_of_ble_eq_true rfl) ?_
                    rintro _ M2 ⟨rfl, hB2, hc2⟩
                    have hB9 : TbR M2 (2 * e + 1) (decL L (nI mm) s.1 (nmT L i) (decV L s i)) (nI mm) := by unfold decL; rw [if_pos h191]; exact hB2
                    have hL9 := hLi1.mv hc2 hS1.1 (fun a j q => by omega)
                    have hC9 := hc1.tr (hc2.mono (fun a j q => by unfold blP; omega) fun _ _ q => q)
                    refine g_iconst 204 1 dMod_does_204 rfl ?_
                    exact g_zret 205 dMod_does_205 rfl (by decide) ⟨rfl, hB9, hL9, hC9⟩
                · refine g_aload_n 137 dMod_does_137 rfl ?_
                  refine g_iload 138 dMod_does_138 rfl ?_
                  refine g_iload 140 dMod_does_140 rfl ?_
                  refine g_callV 142 [_, _] dMod_does_142 cs_Mod_216 rfl (ci := 10) rfl (by decide) hS.mod rfl ⟨(Nat.le_of_ble_eq_true rfl), (Nat.le_of_ble_eq_true rfl)⟩ (Nat.le_of_ble_eq_true rfl) (ct_rvl hS (by omega) hB h1 h2) (Nat.le_of_ble_eq_true rfl) (Nat.le_of_ble_eq_true rfl) ?_
                  rintro _ M2 ⟨rfl, hM2⟩
                  rw [hM2]
                  clear hM2 M2
                  refine g_goto 145 154 dMod_does_145 rfl ?_
                  refine g_top (decV L s i) (by unfold decV; first | rw [if_pos h134] | rw [if_neg h134]) ?_
                  refine g_istore 154 dMod_does_154 (by decide) rfl ?_
                  refine g_aload_n 156 dMod_does_156 rfl ?_
                  refine g_getr 157 10 53 dMod_does_157 fs_Mod_165 rfl hS.mod hS.R_listName ?_
                  refine g_aload_n 160 dMod_does_160 rfl ?_
                  refine g_geti 161 10 52 dMod_does_161 fs_Mod_238 rfl hS.mod ?_
                  refine g_top (nI (acc.length)) (hLi.1) ?_
                  refine g_iload 164 dMod_does_164 rfl ?_
                  refine g_iastN 166 dMod_does_166 hS.T_listName (by omega) (by decide) ?_
                  refine g_aload_n 167 dMod_does_167 rfl ?_
                  refine g_getr 168 10 54 dMod_does_168 fs_Mod_168 rfl hS.mod hS.R_listValue ?_
                  refine g_aload_n 171 dMod_does_171 rfl ?_
                  refine g_geti 172 10 52 dMod_does_172 fs_Mod_238 rfl hS.mod ?_
                  refine g_top (nI (acc.length)) ((sI_a (by decide)).trans hLi.1) ?_
                  refine g_iload 175 dMod_does_175 rfl ?_
                  refine g_iastN 177 dMod_does_177 hS.T_listValue (by omega) (by decide) ?_
                  refine g_aload_n 178 dMod_does_178 rfl ?_
                  refine g_aload_n 179 dMod_does_179 rfl ?_
                  refine g_geti 180 10 52 dMod_does_180 fs_Mod_238 rfl hS.mod ?_
                  refine g_top (nI (acc.length)) ((sI_a (by decide)).trans ((sI_a (by decide)).trans hLi.1)) ?_
                  refine g_iconst 183 (nI 1) dMod_does_183 rfl ?_
                  refine g_iaddN 184 dMod_does_184 ?_
                  refine g_puti 185 10 52 dMod_does_185 ps_Mod_238 rfl hS.mod ?_
                  have hLi1 := hLi.app (a := nmT L i) (v := decV L s i) h6
                  have hc1 : Chg M (setI (setI (setI M 221 acc.length (nmT L i)) 222 acc.length (decV L s i)) 169 52 (nI (acc.length + 1))) (blP e) no2 := ((Chg.rf.setI (Or.inl (by unfold blP; omega))).setI (Or.inl (by unfold blP; omega))).setI (Or.inl (by unfold blP; omega))
                  have hcl : Chg M (setI (setI (setI M 221 acc.length (nmT L i)) 222 acc.length (decV L s i)) 169 52 (nI (acc.length + 1))) blL no2 := ((Chg.rf.setI (Or.inl (Or.inl rfl))).setI (Or.inl (Or.inr (Or.inl rfl)))).setI (Or.inl (Or.inr (Or.inr ⟨rfl, rfl⟩)))
                  generalize setI (setI (setI M 221 acc.length (nmT L i)) 222 acc.length (decV L s i)) 169 52 (nI (acc.length + 1)) = M1 at *
                  have hS1 := hS.mv hc1 (fun _ _ q => q.elim)
                  have hB1 := hB.mv (M' := M1) (PI := blL) hcl hS.1 (fun a j q => by unfold blL at q; omega)
                  refine g_iload 188 dMod_does_188 rfl ?_
                  refine g_iconst 190 2 dMod_does_190 rfl ?_
                  refine g_icmp_ne 191 204 dMod_does_191 rfl (fun h191 => ?_) (fun h191 => ?_)
                  · have hB9 : TbR M1 (2 * e + 1) (decL L (nI mm) s.1 (nmT L i) (decV L s i)) (nI mm) := by unfold decL; rw [if_neg h191]; exact hB1
                    have hL9 := hLi1
                    have hC9 := hc1
                    refine g_iconst 204 1 dMod_does_204 rfl ?_
                    exact g_zret 205 dMod_does_205 rfl (by decide) ⟨rfl, hB9, hL9, hC9⟩
                  · refine g_aload_n 194 dMod_does_194 rfl ?_
                    refine g_iload 195 dMod_does_195 rfl ?_
                    refine g_iload 197 dMod_does_197 rfl ?_
                    refine g_iload 199 dMod_does_199 rfl ?_
                    refine g_callV 201 [_, _, _] dMod_does_201 cs_Mod_230 rfl (ci := 10) rfl (by decide) hS1.mod rfl ⟨(Nat.le_of_ble_eq_true rfl), (Nat.le_of_ble_eq_true rfl)⟩ (Nat.le_of_ble_eq_true rfl) (ct_radd hS1 (by omega) hB1 hmm) (Nat.le_of_ble_eq_true rfl) (Nat.le_of_ble_eq_true rfl) ?_
                    rintro _ M2 ⟨rfl, hB2, hc2⟩
                    have hB9 : TbR M2 (2 * e + 1) (decL L (nI mm) s.1 (nmT L i) (decV L s i)) (nI mm) := by unfold decL; rw [if_pos h191]; exact hB2
                    have hL9 := hLi1.mv hc2 hS1.1 (fun a j q => by omega)
                    have hC9 := hc1.tr (hc2.mono (fun a j q => by unfold blP; omega) fun _ _ q => q)
                    refine g_iconst 204 1 dMod_does_204 rfl ?_
                    exact g_zret 205 dMod_does_205 rfl (by decide) ⟨rfl, hB9, hL9, hC9⟩
              · exact absurd rfl h109
            · exact absurd h102 (by decide)
        · refine g_aload_n 80 dMod_does_80 rfl ?_
          refine g_getr 81 10 40 dMod_does_81 fs_Mod_129 rfl hS.mod hS.R_need ?_
          refine g_iload_n 84 dMod_does_84 rfl ?_
          refine g_zaldN 85 dMod_does_85 hS.T_need (by omega) (by decide) ?_
          refine g_top (due) (hdu) ?_
          refine g_if_ne 86 105 dMod_does_86 rfl (fun h86 => ?_) (fun h86 => ?_)
          · exact absurd ⟨h77, h86⟩ hzd
          · refine g_iload 89 dMod_does_89 rfl ?_
            refine g_if_ne 91 107 dMod_does_91 rfl (fun h91 => ?_) (fun h91 => ?_)
            · exact absurd rfl h91
            · refine g_aload_n 94 dMod_does_94 rfl ?_
              refine g_iload 95 dMod_does_95 rfl ?_
              refine g_iload 97 dMod_does_97 rfl ?_
              refine g_callV 99 [_, _] dMod_does_99 cs_Mod_234 rfl (ci := 10) rfl (by decide) hS.mod rfl ⟨(Nat.le_of_ble_eq_true rfl), (Nat.le_of_ble_eq_true rfl)⟩ (Nat.le_of_ble_eq_true rfl) (ct_rmeans1 hS (by omega) hB h1 h2) (Nat.le_of_ble_eq_true rfl) (Nat.le_of_ble_eq_true rfl) ?_
              rintro _ M2 ⟨rfl, hM2⟩
              rw [hM2]
              clear hM2 M2
              refine g_if_ne 102 107 dMod_does_102 rfl (fun h102 => ?_) (fun h102 => ?_)
              · refine g_iload 107 dMod_does_107 rfl ?_
                refine g_if_eq 109 121 dMod_does_109 rfl (fun h109 => ?_) (fun h109 => ?_)
                · refine g_aload_n 121 dMod_does_121 rfl ?_
                  refine g_iload 122 dMod_does_122 rfl ?_
                  refine g_iload 124 dMod_does_124 rfl ?_
                  refine g_callV 126 [_, _] dMod_does_126 cs_Mod_213 rfl (ci := 10) rfl (by decide) hS.mod rfl ⟨(Nat.le_of_ble_eq_true rfl), (Nat.le_of_ble_eq_true rfl)⟩ (Nat.le_of_ble_eq_true rfl) (ct_rnm hS (by omega) hB h1 h2) (Nat.le_of_ble_eq_true rfl) (Nat.le_of_ble_eq_true rfl) ?_
                  rintro _ M2 ⟨rfl, hM2⟩
                  rw [hM2]
                  clear hM2 M2
                  refine g_istore 129 dMod_does_129 (by decide) rfl ?_
                  refine g_iload 131 dMod_does_131 rfl ?_
                  refine g_iconst 133 1 dMod_does_133 rfl ?_
                  refine g_icmp_ne 134 148 dMod_does_134 rfl (fun h134 => ?_) (fun h134 => ?_)
                  · refine g_aload_n 148 dMod_does_148 rfl ?_
                    refine g_getr 149 10 12 dMod_does_149 fs_Mod_48 rfl hS.mod hS.R_stepValue ?_
                    refine g_iload_n 152 dMod_does_152 rfl ?_
                    refine g_ialdN 153 dMod_does_153 hS.T_stepValue (by omega) (by decide) ?_
                    refine g_top (s.2.2.2) (hst.2.2.2) ?_
                    refine g_top (decV L s i) (by unfold decV; first | rw [if_pos h134] | rw [if_neg h134]) ?_
                    refine g_istore 154 dMod_does_154 (by decide) rfl ?_
                    refine g_aload_n 156 dMod_does_156 rfl ?_
                    refine g_getr 157 10 53 dMod_does_157 fs_Mod_165 rfl hS.mod hS.R_listName ?_
                    refine g_aload_n 160 dMod_does_160 rfl ?_
                    refine g_geti 161 10 52 dMod_does_161 fs_Mod_238 rfl hS.mod ?_
                    refine g_top (nI (acc.length)) (hLi.1) ?_
                    refine g_iload 164 dMod_does_164 rfl ?_
                    refine g_iastN 166 dMod_does_166 hS.T_listName (by omega) (by decide) ?_
                    refine g_aload_n 167 dMod_does_167 rfl ?_
                    refine g_getr 168 10 54 dMod_does_168 fs_Mod_168 rfl hS.mod hS.R_listValue ?_
                    refine g_aload_n 171 dMod_does_171 rfl ?_
                    refine g_geti 172 10 52 dMod_does_172 fs_Mod_238 rfl hS.mod ?_
                    refine g_top (nI (acc.length)) ((sI_a (by decide)).trans hLi.1) ?_
                    refine g_iload 175 dMod_does_175 rfl ?_
                    refine g_iastN 177 dMod_does_177 hS.T_listValue (by omega) (by decide) ?_
                    refine g_aload_n 178 dMod_does_178 rfl ?_
                    refine g_aload_n 179 dMod_does_179 rfl ?_
                    refine g_geti 180 10 52 dMod_does_180 fs_Mod_238 rfl hS.mod ?_
                    refine g_top (nI (acc.length)) ((sI_a (by decide)).trans ((sI_a (by decide)).trans hLi.1)) ?_
                    refine g_iconst 183 (nI 1) dMod_does_183 rfl ?_
                    refine g_iaddN 184 dMod_does_184 ?_
                    refine g_puti 185 10 52 dMod_does_185 ps_Mod_238 rfl hS.mod ?_
                    have hLi1 := hLi.app (a := nmT L i) (v := decV L s i) h6
                    have hc1 : Chg M (setI (setI (setI M 221 acc.length (nmT L i)) 222 acc.length (decV L s i)) 169 52 (nI (acc.length + 1))) (blP e) no2 := ((Chg.rf.setI (Or.inl (by unfold blP; omega))).setI (Or.inl (by unfold blP; omega))).setI (Or.inl (by unfold blP; omega))
                    have hcl : Chg M (setI (setI (setI M 221 acc.length (nmT L i)) 222 acc.length (decV L s i)) 169 52 (nI (acc.length + 1))) blL no2 := ((Chg.rf.setI (Or.inl (Or.inl rfl))).setI (Or.inl (Or.inr (Or.inl rfl)))).setI (Or.inl (Or.inr (Or.inr ⟨rfl, rfl⟩)))
                    generalize setI (setI (setI M 221 acc.length (nmT L i)) 222 acc.length (decV L s i)) 169 52 (nI (acc.length + 1)) = M1 at *
                    have hS1 := hS.mv hc1 (fun _ _ q => q.elim)
                    have hB1 := hB.mv (M' := M1) (PI := blL) hcl hS.1 (fun a j q => by unfold blL at q; omega)
                    refine g_iload 188 dMod_does_188 rfl ?_
                    refine g_iconst 190 2 dMod_does_190 rfl ?_
                    refine g_icmp_ne 191 204 dMod_does_191 rfl (fun h191 => ?_) (fun h191 => ?_)
                    · have hB9 : TbR M1 (2 * e + 1) (decL L (nI mm) s.1 (nmT L i) (decV L s i)) (nI mm) := by unfold decL; rw [if_neg h191]; exact hB1
                      have hL9 := hLi1
                      have hC9 := hc1
                      refine g_iconst 204 1 dMod_does_204 rfl ?_
                      exact g_zret 205 dMod_does_205 rfl (by decide) ⟨rfl, hB9, hL9, hC9⟩
                    · refine g_aload_n 194 dMod_does_194 rfl ?_
                      refine g_iload 195 dMod_does_195 rfl ?_
                      refine g_iload 197 dMod_does_197 rfl ?_
                      refine g_iload 199 dMod_does_199 rfl ?_
                      refine g_callV 201 [_, _, _] dMod_does_201 cs_Mod_230 rfl (ci := 10) rfl (by decide) hS1.mod rfl ⟨(Nat.le_of_ble_eq_true rfl), (Nat.le_of_ble_eq_true rfl)⟩ (Nat.le_of_ble_eq_true rfl) (ct_radd hS1 (by omega) hB1 hmm) (Nat.le_of_ble_eq_true rfl) (Nat.le_of_ble_eq_true rfl) ?_
                      rintro _ M2 ⟨rfl, hB2, hc2⟩
                      have hB9 : TbR M2 (2 * e + 1) (decL L (nI mm) s.1 (nmT L i) (decV L s i)) (nI mm) := by unfold decL; rw [if_pos h191]; exact hB2
                      have hL9 := hLi1.mv hc2 hS1.1 (fun a j q => by omega)
                      have hC9 := hc1.tr (hc2.mono (fun a j q => by unfold blP; omega) fun _ _ q => q)
                      refine g_iconst 204 1 dMod_does_204 rfl ?_
                      exact g_zret 205 dMod_does_205 rfl (by decide) ⟨rfl, hB9, hL9, hC9⟩
                  · refine g_aload_n 137 dMod_does_137 rfl ?_
                    refine g_iload 138 dMod_does_138 rfl ?_
                    refine g_iload 140 dMod_does_140 rfl ?_
                    refine g_callV 142 [_, _] dMod_does_142 cs_Mod_216 rfl (ci := 10) rfl (by decide) hS.mod rfl ⟨(Nat.le_of_ble_eq_true rfl), (Nat.le_of_ble_eq_true rfl)⟩ (Nat.le_of_ble_eq_true rfl) (ct_rvl hS (by omega) hB h1 h2) (Nat.le_of_ble_eq_true rfl) (Nat.le_of_ble_eq_true rfl) ?_
                    rintro _ M2 ⟨rfl, hM2⟩
                    rw [hM2]
                    clear hM2 M2
                    refine g_goto 145 154 dMod_does_145 rfl ?_
                    refine g_top (decV L s i) (by unfold decV; first | rw [if_pos h134] | rw [if_neg h134]) ?_
                    refine g_istore 154 dMod_does_154 (by decide) rfl ?_
                    refine g_aload_n 156 dMod_does_156 rfl ?_
                    refine g_getr 157 10 53 dMod_does_157 fs_Mod_165 rfl hS.mod hS.R_listName ?_
                    refine g_aload_n 160 dMod_does_160 rfl ?_
                    refine g_geti 161 10 52 dMod_does_161 fs_Mod_238 rfl hS.mod ?_
                    refine g_top (nI (acc.length)) (hLi.1) ?_
                    refine g_iload 164 dMod_does_164 rfl ?_
                    refine g_iastN 166 dMod_does_166 hS.T_listName (by omega) (by decide) ?_
                    refine g_aload_n 167 dMod_does_167 rfl ?_
                    refine g_getr 168 10 54 dMod_does_168 fs_Mod_168 rfl hS.mod hS.R_listValue ?_
                    refine g_aload_n 171 dMod_does_171 rfl ?_
                    refine g_geti 172 10 52 dMod_does_172 fs_Mod_238 rfl hS.mod ?_
                    refine g_top (nI (acc.length)) ((sI_a (by decide)).trans hLi.1) ?_
                    refine g_iload 175 dMod_does_175 rfl ?_
                    refine g_iastN 177 dMod_does_177 hS.T_listValue (by omega) (by decide) ?_
                    refine g_aload_n 178 dMod_does_178 rfl ?_
                    refine g_aload_n 179 dMod_does_179 rfl ?_
                    refine g_geti 180 10 52 dMod_does_180 fs_Mod_238 rfl hS.mod ?_
                    refine g_top (nI (acc.length)) ((sI_a (by decide)).trans ((sI_a (by decide)).trans hLi.1)) ?_
                    refine g_iconst 183 (nI 1) dMod_does_183 rfl ?_
                    refine g_iaddN 184 dMod_does_184 ?_
                    refine g_puti 185 10 52 dMod_does_185 ps_Mod_238 rfl hS.mod ?_
                    have hLi1 := hLi.app (a := nmT L i) (v := decV L s i) h6
                    have hc1 : Chg M (setI (setI (setI M 221 acc.length (nmT L i)) 222 acc.length (decV L s i)) 169 52 (nI (acc.length + 1))) (blP e) no2 := ((Chg.rf.setI (Or.inl (by unfold blP; omega))).setI (Or.inl (by unfold blP; omega))).setI (Or.inl (by unfold blP; omega))
                    have hcl : Chg M (setI (setI (setI M 221 acc.length (nmT L i)) 222 acc.length (decV L s i)) 169 52 (nI (acc.length + 1))) blL no2 := ((Chg.rf.setI (Or.inl (Or.inl rfl))).setI (Or.inl (Or.inr (Or.inl rfl)))).setI (Or.inl (Or.inr (Or.inr ⟨rfl, rfl⟩)))
                    generalize setI (setI (setI M 221 acc.length (nmT L i)) 222 acc.length (decV L s i)) 169 52 (nI (acc.length + 1)) = M1 at *
                    have hS1 := hS.mv hc1 (fun _ _ q => q.elim)
                    have hB1 := hB.mv (M' := M1) (PI := blL) hcl hS.1 (fun a j q => by unfold blL at q; omega)
                    refine g_iload 188 dMod_does_188 rfl ?_
                    refine g_iconst 190 2 dMod_does_190 rfl ?_
                    refine g_icmp_ne 191 204 dMod_does_191 rfl (fun h191 => ?_) (fun h191 => ?_)
                    · have hB9 : TbR M1 (2 * e + 1) (decL L (nI mm) s.1 (nmT L i) (decV L s i)) (nI mm) := by unfold decL; rw [if_neg h191]; exact hB1
                      have hL9 := hLi1
                      have hC9 := hc1
                      refine g_iconst 204 1 dMod_does_204 rfl ?_
                      exact g_zret 205 dMod_does_205 rfl (by decide) ⟨rfl, hB9, hL9, hC9⟩
                    · refine g_aload_n 194 dMod_does_194 rfl ?_
                      refine g_iload 195 dMod_does_195 rfl ?_
                      refine g_iload 197 dMod_does_197 rfl ?_
                      refine g_iload 199 dMod_does_199 rfl ?_
                      refine g_callV 201 [_, _, _] dMod_does_201 cs_Mod_230 rfl (ci := 10) rfl (by decide) hS1.mod rfl ⟨(Nat.le_of_ble_eq_true rfl), (Nat.le_of_ble_eq_true rfl)⟩ (Nat.le_of_ble_eq_true rfl) (ct_radd hS1 (by omega) hB1 hmm) (Nat.le_of_ble_eq_true rfl) (Nat.le_of_ble_eq_true rfl) ?_
                      rintro _ M2 ⟨rfl, hB2, hc2⟩
                      have hB9 : TbR M2 (2 * e + 1) (decL L (nI mm) s.1 (nmT L i) (decV L s i)) (nI mm) := by unfold decL; rw [if_pos h191]; exact hB2
                      have hL9 := hLi1.mv hc2 hS1.1 (fun a j q => by omega)
                      have hC9 := hc1.tr (hc2.mono (fun a j q => by unfold blP; omega) fun _ _ q => q)
                      refine g_iconst 204 1 dMod_does_204 rfl ?_
                      exact g_zret 205 dMod_does_205 rfl (by decide) ⟨rfl, hB9, hL9, hC9⟩
                · exact absurd rfl h109
              · exact absurd h102 (by decide)
      · exact absurd h66 (by omega)
  · exact absurd h25 h0

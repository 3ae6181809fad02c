theorem cs_Mod_325 : cV "InterleavedLinkModel" 325 uMod_sendData 2 := ⟨⟨Or.inl (gW_in 1218 (by decide +kernel) rfl), (gW_in 74 (by decide +kernel) rfl), (gW_in 1221 (by decide +kernel) rfl), ⟨by decide, by decide⟩, by decide +kernel⟩, (gW_in 1220 (by decide +kernel) rfl), (gW_in 61 (by decide +kernel) rfl)⟩
/-! ===== the calls, the reference over the state: pump ===== -/
theorem ms_1 {A : zA} {e k : Nat} (h : zI A (29 + 80 * e + 5 * k) 1 = 1 ∨ zI A (29 + 80 * e + 5 * k) 1 = 3) : ¬ msZ A e k = 0 := by
  unfold msZ
  rcases h with q | q <;> rw [q] <;> decide
theorem ms_0 {A : zA} {e k : Nat} (h : ¬ (zI A (29 + 80 * e + 5 * k) 1 = 1 ∨ zI A (29 + 80 * e + 5 * k) 1 = 3)) : msZ A e k = 0 := by
  unfold msZ
  rw [if_neg (fun q => h (Or.inl q)), if_pos (fun q => h (Or.inr q))]
theorem RR.ca {M : mM} {A : zA} {e k : Nat} (h : RR M A) (he : e < 2) (hk : k < 12) : caA M e (12 * e + k) = csZ A e k := by
  have hw := h.wt he hk
  unfold caA csZ
  rw [h.sta he hk, show (12 * e + k) / 12 = e by omega, hw.1, h.ls he, (h.stk he hk).2.2.2.2]
  by_cases hs : zI A (29 + 80 * e + 5 * k) 1 = 1 ∨ zI A (29 + 80 * e + 5 * k) 1 = 3
  · have hs0 : ¬ zI A (29 + 80 * e + 5 * k) 1 = 0 := by rcases hs with q | q <;> rw [q] <;> decide
    have hs4 : ¬ zI A (29 + 80 * e + 5 * k) 1 = 4 := by rcases hs with q | q <;> rw [q] <;> decide
    rw [if_neg (fun q => hs.elim q.1 q.2), if_neg (ms_1 hs), (h.win he hk hs0 hs4).1]
    have hwl := hw.2.1
    by_cases hl : (zW A e k).length = 0
    · rw [hl]
      rfl
    · have h1 : ¬ nI (zW A e k).length ≤ 0 := fun q => hl (Nat.le_zero.mp ((nI_leI (a := (zW A e k).length) (b := 0) (by omega) (by decide)).mp q))
      have h2 : ¬ nI (zW A e k).length = 0 := fun q => hl ((nI_eq (a := (zW A e k).length) (b := 0) (by omega) (by decide)).mp q)
      rw [if_neg h1, if_neg h2]
  · rw [if_pos ⟨fun q => hs (Or.inl q), fun q => hs (Or.inr q)⟩, if_pos (ms_0 hs)]
theorem ct_caM {X : mX} {l : Launch} {M : mM} {A : zA} {e k : Nat} (h : RR M A) (he : e < 2) (hk : k < 12) (hb : zI A (29 + 80 * e + 5 * k) 6 = 0 ∨ zI A (29 + 80 * e + 5 * k) 6 = 1) : Ct X l uMod_can (rk 1 21) [.ref 169, .int (nI e), .int (nI (12 * e + k))] M (fun r M' => r = some (.int (csZ A e k)) ∧ M' = M) := by
  rw [← h.ca he hk]
  exact cm_can h.1 he (by omega) (by rw [(h.stk he hk).2.2.2.2]; exact hb)
theorem cs_st {A : zA} {e k : Nat} (h : ¬ csZ A e k = 0) : zI A (29 + 80 * e + 5 * k) 1 = 1 ∨ zI A (29 + 80 * e + 5 * k) 1 = 3 := by
  by_cases hs : zI A (29 + 80 * e + 5 * k) 1 = 1 ∨ zI A (29 + 80 * e + 5 * k) 1 = 3
  · exact hs
  · exact absurd (by unfold csZ; rw [if_pos (ms_0 hs)]) h
theorem cs_pos {A : zA} {e k : Nat} (h : ¬ csZ A e k = 0) (hl : ¬ nI (zW A e k).length = 0) : 0 < zI A (29 + 80 * e + 5 * k) 3 ∧ 0 < zI A (9 + 80 * e) 4 := by
  unfold csZ at h
  rw [if_neg (ms_1 (cs_st h)), if_neg hl] at h
  by_cases q : zI A (29 + 80 * e + 5 * k) 3 ≤ 0
  · rw [if_pos q] at h
    exact absurd rfl h
  · rw [if_neg q] at h
    by_cases q2 : zI A (9 + 80 * e) 4 ≤ 0
    · rw [if_pos q2] at h
      exact absurd rfl h
    · exact ⟨Int32.not_le.mp q, Int32.not_le.mp q2⟩
theorem nxF_some {c : Nat → Int32} {q : Nat} : ∀ j n {p}, nxF c q j n = some p → ¬ c p = 0
  | 0, _, _, h => by cases h
  | j + 1, n, p, h => by
    unfold nxF at h
    split at h
    · exact nxF_some j (n + 1) h
    · cases h
      assumption
theorem endS_W {A : zA} {e k : Nat} : zW (endS A e k) = zW A := by unfold endS; split <;> rfl
theorem sDt_Wm {A : zA} {e k d g : Nat} {x : Int32} (h : x ∈ zW (sDt A e k) d g) : x ∈ zW A d g := by
  have h1 : zW (sDt A e k) = up2 (zW A) e k ((zW A e k).drop (tkn (mostW A e k) (zW A e k).length)) := by
    unfold sDt
    split
    · rfl
    · split
      · rw [endS_W]
        rfl
      · rfl
  rw [h1] at h
  by_cases q : d = e ∧ g = k
  · obtain ⟨rfl, rfl⟩ := q
    rw [up2_same] at h
    exact List.mem_of_mem_drop h
  · rw [up2_ne q] at h
    exact h
set_option maxRecDepth 100000 in
set_option maxHeartbeats 4000000 in
theorem g_pmI {X : mX} {l : Launch} {M : mM} {A : zA} {e q N fr : Nat} {Q : Option Value → mM → Prop} (hR : RR M A) (he : e < 2) (hw : pmW A e q) (hnf : ¬ 30 ≤ (zP A (1 - e)).length) : ∀ (j n : Nat) (f : Int32) (w : Option Value), n + j = 13 → 1 ≤ n → (f < 0 → f = -1) → (∀ w' n', G X l uMod_pump (rk 2 53) 0 0 M 98 [some (.ref 169), some (.int (nI e)), some (.int (nI N)), some (.int (nI fr)), some (.int (if f < 0 then oI (nxF (csZ A e) q j n) else f)), some (.int (nI n')), w'] [] Q) → G X l uMod_pump (rk 2 53) 0 0 M 34 [some (.ref 169), some (.int (nI e)), some (.int (nI N)), some (.int (nI fr)), some (.int f), some (.int (nI n)), w] [] Q
  | 0, n, f, w, hn, h1, hf, hq => by
    have hn : n = 13 := by omega
    subst hn
    have hS := hR.1
    have hq2 := hq w 13
    have e1 : (if f < 0 then oI (nxF (csZ A e) q 0 13) else f) = f := by
      by_cases z : f < 0
      · rw [if_pos z, hf z]
        rfl
      · rw [if_neg z]
    rw [e1] at hq2
    refine g_iload 34 dMod_pump_34 rfl ?_
    refine g_bipush 36 (nI 12) dMod_pump_36 rfl ?_
    refine g_icmp_gtN 38 98 dMod_pump_38 rfl (by omega) (by omega) (fun h38 => ?_) (fun h38 => ?_)
    · exact hq2
    · exact absurd (by decide : 12 < 13) h38
  | j + 1, n, f, w, hn, h1, hf, hq => by
    have hS := hR.1
    have hk : (q + n - 1) % 12 < 12 := Nat.mod_lt _ (by decide)
    have hq12 := hw.2.2
    have ih := g_pmI (X := X) (l := l) (N := N) (fr := fr) (Q := Q) hR he hw hnf j (n + 1)
    refine g_iload 34 dMod_pump_34 rfl ?_
    refine g_bipush 36 (nI 12) dMod_pump_36 rfl ?_
    refine g_icmp_gtN 38 98 dMod_pump_38 rfl (by omega) (by omega) (fun h38 => ?_) (fun h38 => ?_)
    · exact absurd h38 (by omega)
    · refine g_aload_n 41 dMod_pump_41 rfl ?_
      refine g_iload_n 42 dMod_pump_42 rfl ?_
      refine g_callV 43 [_] dMod_pump_43 cs_Mod_315 rfl (ci := 10) rfl (by decide) hS.mod rfl ⟨(Nat.le_of_ble_eq_true rfl), (Nat.le_of_ble_eq_true rfl)⟩ (Nat.le_of_ble_eq_true rfl) (ct_fullM hR he) (Nat.le_of_ble_eq_true rfl) (Nat.le_of_ble_eq_true rfl) ?_
      rintro _ M2 ⟨rfl, hM2⟩
      rw [hM2]
      clear hM2 M2
      refine g_if_ne 46 98 dMod_pump_46 rfl (fun h46 => ?_) (fun h46 => ?_)
      · exact absurd (if_neg hnf) h46
      · refine g_aload_n 49 dMod_pump_49 rfl ?_
        refine g_getr 50 10 34 dMod_pump_50 fs_Mod_114 rfl hS.mod hS.R_lastData ?_
        refine g_iload_n 53 dMod_pump_53 rfl ?_
        refine g_ialdN 54 dMod_pump_54 hS.T_lastData (by omega) (by decide) ?_
        refine g_iload 55 dMod_pump_55 rfl ?_
        refine g_iadd 57 dMod_pump_57 ?_
        refine g_top (nI (q + n - 1)) (by rw [show mI M 204 e = nI q - 1 from (hR.ld he).trans hw.2.1]; exact nI_lst h1) ?_
        refine g_bipush 58 (nI 12) dMod_pump_58 rfl ?_
        refine g_iremN 60 dMod_pump_60 (by omega) (by decide) (by decide) ?_
        refine g_istore 61 dMod_pump_61 (by decide) rfl ?_
        refine g_iload 63 dMod_pump_63 rfl ?_
        refine g_if_ge 65 88 dMod_pump_65 rfl (fun h65 => ?_) (fun h65 => ?_)
        · refine g_iload 88 dMod_pump_88 rfl ?_
          refine g_istore 90 dMod_pump_90 (by decide) rfl ?_
          refine g_iincN 92 dMod_pump_92 rfl (by decide) rfl ?_
          refine g_goto 95 34 dMod_pump_95 rfl ?_
          first
            | (refine ih f _ (by omega) (by omega) hf (fun w' n' => ?_); have hq2 := hq w' n'; rw [if_neg (Int32.not_lt.mpr h65)] at hq2 ⊢; exact hq2)
            | (refine ih f _ (by omega) (by omega) hf (fun w' n' => ?_); have hq2 := hq w' n'; rw [show nxF (csZ A e) q (j + 1) n = nxF (csZ A e) q j (n + 1) by rw [nxF, if_pos h80]] at hq2; exact hq2)
            | (refine ih (nI ((q + n - 1) % 12)) _ (by omega) (by omega) (fun w => absurd w (nI_nn (by omega))) (fun w' n' => ?_); have hq2 := hq w' n'; rw [show nxF (csZ A e) q (j + 1) n = some ((q + n - 1) % 12) by rw [nxF, if_neg h80], if_pos (Int32.not_le.mp h65)] at hq2; rw [if_neg (nI_nn (by omega))]; exact hq2)
        · refine g_aload_n 68 dMod_pump_68 rfl ?_
          refine g_iload_n 69 dMod_pump_69 rfl ?_
          refine g_bipush 70 (nI 12) dMod_pump_70 rfl ?_
          refine g_iload_n 72 dMod_pump_72 rfl ?_
          refine g_imulN 73 dMod_pump_73 ?_
          refine g_iload 74 dMod_pump_74 rfl ?_
          refine g_iaddN 76 dMod_pump_76 ?_
          refine g_callV 77 [_, _] dMod_pump_77 cs_Mod_322 rfl (ci := 10) rfl (by decide) hS.mod rfl ⟨(Nat.le_of_ble_eq_true rfl), (Nat.le_of_ble_eq_true rfl)⟩ (Nat.le_of_ble_eq_true rfl) (ct_caM hR he hk (hw.1 _ hk)) (Nat.le_of_ble_eq_true rfl) (Nat.le_of_ble_eq_true rfl) ?_
          rintro _ M2 ⟨rfl, hM2⟩
          rw [hM2]
          clear hM2 M2
          refine g_if_eq 80 88 dMod_pump_80 rfl (fun h80 => ?_) (fun h80 => ?_)
          · refine g_iload 88 dMod_pump_88 rfl ?_
            refine g_istore 90 dMod_pump_90 (by decide) rfl ?_
            refine g_iincN 92 dMod_pump_92 rfl (by decide) rfl ?_
            refine g_goto 95 34 dMod_pump_95 rfl ?_
            first
              | (refine ih f _ (by omega) (by omega) hf (fun w' n' => ?_); have hq2 := hq w' n'; rw [if_neg (Int32.not_lt.mpr h65)] at hq2 ⊢; exact hq2)
              | (refine ih f _ (by omega) (by omega) hf (fun w' n' => ?_); have hq2 := hq w' n'; rw [show nxF (csZ A e) q (j + 1) n = nxF (csZ A e) q j (n + 1) by rw [nxF, if_pos h80]] at hq2; exact hq2)
              | (refine ih (nI ((q + n - 1) % 12)) _ (by omega) (by omega) (fun w => absurd w (nI_nn (by omega))) (fun w' n' => ?_); have hq2 := hq w' n'; rw [show nxF (csZ A e) q (j + 1) n = some ((q + n - 1) % 12) by rw [nxF, if_neg h80], if_pos (Int32.not_le.mp h65)] at hq2; rw [if_neg (nI_nn (by omega))]; exact hq2)
          · refine g_iload 83 dMod_pump_83 rfl ?_
            refine g_goto 85 90 dMod_pump_85 rfl ?_
            refine g_istore 90 dMod_pump_90 (by decide) rfl ?_
            refine g_iincN 92 dMod_pump_92 rfl (by decide) rfl ?_
            refine g_goto 95 34 dMod_pump_95 rfl ?_
            first
              | (refine ih f _ (by omega) (by omega) hf (fun w' n' => ?_); have hq2 := hq w' n'; rw [if_neg (Int32.not_lt.mpr h65)] at hq2 ⊢; exact hq2)
              | (refine ih f _ (by omega) (by omega) hf (fun w' n' => ?_); have hq2 := hq w' n'; rw [show nxF (csZ A e) q (j + 1) n = nxF (csZ A e) q j (n + 1) by rw [nxF, if_pos h80]] at hq2; exact hq2)
              | (refine ih (nI ((q + n - 1) % 12)) _ (by omega) (by omega) (fun w => absurd w (nI_nn (by omega))) (fun w' n' => ?_); have hq2 := hq w' n'; rw [show nxF (csZ A e) q (j + 1) n = some ((q + n - 1) % 12) by rw [nxF, if_neg h80], if_pos (Int32.not_le.mp h65)] at hq2; rw [if_neg (nI_nn (by omega))]; exact hq2)
set_option maxRecDepth 100000 in
set_option maxHeartbeats 4000000 in
theorem g_pmM {X : mX} {l : Launch} {M : mM} {e N : Nat} {Q : Option Value → mM → Prop} (he : e < 2) (hN : N ≤ 8) : ∀ (j n q : Nat) (A : zA) (M1 : mM), n + j = N → pmW A e q → (∀ k, k < 12 → ∀ x, x ∈ zW A e k → bW x) → RR M1 A → Chg M M1 mP no2 → ∀ (w4 w5 w6 : Option Value), (∀ M', RR M' (pmp e j q A).2 → Chg M M' mP no2 → Q (some (.int (nI (n + (pmp e j q A).1)))) M') → G X l uMod_pump (rk 2 53) 0 0 M1 23 [some (.ref 169), some (.int (nI e)), some (.int (nI N)), some (.int (nI n)), w4, w5, w6] [] Q
  | 0, n, q, A, M1, hn, hw, hb, hR1, hC1, w4, w5, w6, hq => by
    have hn : n = N := by omega
    subst hn
    refine g_iload_n 23 dMod_pump_23 rfl ?_
    refine g_iload_n 24 dMod_pump_24 rfl ?_
    refine g_icmp_geN 25 118 dMod_pump_25 rfl (by omega) (by omega) (fun h25 => ?_) (fun h25 => ?_)
    · refine g_iload_n 118 dMod_pump_118 rfl ?_
      exact g_iret 119 dMod_pump_119 rfl (hq M1 hR1 hC1)
    · exact absurd (Nat.le_refl _) h25
  | j + 1, n, q, A, M1, hn, hw, hb, hR1, hC1, w4, w5, w6, hq => by
    have hpl := hR1.pl (e := 1 - e) (by omega)
    by_cases hfu : 30 ≤ (zP A (1 - e)).length
    · have hz : pmp e (j + 1) q A = (0, A) := by rw [pmp, if_pos hfu]
      refine g_iload_n 23 dMod_pump_23 rfl ?_
      refine g_iload_n 24 dMod_pump_24 rfl ?_
      refine g_icmp_geN 25 118 dMod_pump_25 rfl (by omega) (by omega) (fun h25 => ?_) (fun h25 => ?_)
      · exact absurd h25 (by omega)
      · refine g_iconst 28 (-1) dMod_pump_28 rfl ?_
        refine g_istore 29 dMod_pump_29 (by decide) rfl ?_
        refine g_iconst 31 (nI 1) dMod_pump_31 rfl ?_
        refine g_istore 32 dMod_pump_32 (by decide) rfl ?_
        refine g_iload 34 dMod_pump_34 rfl ?_
        refine g_bipush 36 (nI 12) dMod_pump_36 rfl ?_
        refine g_icmp_gtN 38 98 dMod_pump_38 rfl (by omega) (by omega) (fun h38 => ?_) (fun h38 => ?_)
        · exact absurd h38 (by decide)
        · refine g_aload_n 41 dMod_pump_41 rfl ?_
          refine g_iload_n 42 dMod_pump_42 rfl ?_
          refine g_callV 43 [_] dMod_pump_43 cs_Mod_315 rfl (ci := 10) rfl (by decide) hR1.1.mod rfl ⟨(Nat.le_of_ble_eq_true rfl), (Nat.le_of_ble_eq_true rfl)⟩ (Nat.le_of_ble_eq_true rfl) (ct_fullM hR1 he) (Nat.le_of_ble_eq_true rfl) (Nat.le_of_ble_eq_true rfl) ?_
          rintro _ M2 ⟨rfl, hM2⟩
          rw [hM2]
          clear hM2 M2
          refine g_if_ne 46 98 dMod_pump_46 rfl (fun h46 => ?_) (fun h46 => ?_)
          · refine g_iload 98 dMod_pump_98 rfl ?_
            refine g_if_ge 100 105 dMod_pump_100 rfl (fun h100 => ?_) (fun h100 => ?_)
            · exact absurd h100 (by decide)
            · refine g_iload_n 103 dMod_pump_103 rfl ?_
              exact g_iret 104 dMod_pump_104 rfl (by rw [hz] at hq; exact hq M1 hR1 hC1)
          · exact absurd (h46.symm.trans (if_pos hfu)) (by decide)
    · rcases hx : nxF (csZ A e) q 12 1 with _ | k
      · have hz : pmp e (j + 1) q A = (0, A) := by rw [pmp, if_neg hfu, hx]
        refine g_iload_n 23 dMod_pump_23 rfl ?_
        refine g_iload_n 24 dMod_pump_24 rfl ?_
        refine g_icmp_geN 25 118 dMod_pump_25 rfl (by omega) (by omega) (fun h25 => ?_) (fun h25 => ?_)
        · exact absurd h25 (by omega)
        · refine g_iconst 28 (-1) dMod_pump_28 rfl ?_
          refine g_istore 29 dMod_pump_29 (by decide) rfl ?_
          refine g_iconst 31 (nI 1) dMod_pump_31 rfl ?_
          refine g_istore 32 dMod_pump_32 (by decide) rfl ?_
          refine g_pmI hR1 he hw hfu 12 1 (-1) _ rfl (Nat.le_refl _) (fun _ => rfl) (fun w' n' => ?_)
          rw [hx, if_pos (by decide)]
          refine g_iload 98 dMod_pump_98 rfl ?_
          refine g_if_ge 100 105 dMod_pump_100 rfl (fun h100 => ?_) (fun h100 => ?_)
          · exact absurd h100 (by decide)
          · refine g_iload_n 103 dMod_pump_103 rfl ?_
            exact g_iret 104 dMod_pump_104 rfl (by rw [hz] at hq; exact hq M1 hR1 hC1)
      · have hk := nxF_lt 12 1 hx
        have hz : pmp e (j + 1) q A = ((pmp e j (k + 1) (sDt (yI A (9 + 80 * e) 16 (nI k)) e k)).1 + 1, (pmp e j (k + 1) (sDt (yI A (9 + 80 * e) 16 (nI k)) e k)).2) := by rw [pmp, if_neg hfu, hx]
        have hcs := nxF_some 12 1 hx
        have hwl := (hR1.wt he hk).2.1
        refine g_iload_n 23 dMod_pump_23 rfl ?_
        refine g_iload_n 24 dMod_pump_24 rfl ?_
        refine g_icmp_geN 25 118 dMod_pump_25 rfl (by omega) (by omega) (fun h25 => ?_) (fun h25 => ?_)
        · exact absurd h25 (by omega)
        · refine g_iconst 28 (-1) dMod_pump_28 rfl ?_
          refine g_istore 29 dMod_pump_29 (by decide) rfl ?_
          refine g_iconst 31 (nI 1) dMod_pump_31 rfl ?_
          refine g_istore 32 dMod_pump_32 (by decide) rfl ?_
          refine g_pmI hR1 he hw hfu 12 1 (-1) _ rfl (Nat.le_refl _) (fun _ => rfl) (fun w' n' => ?_)
          rw [hx, if_pos (by decide)]
          refine g_iload 98 dMod_pump_98 rfl ?_
          refine g_if_geN 100 105 dMod_pump_100 rfl (by omega) (fun h100 => ?_) (fun h100 => ?_)
          · refine g_aload_n 105 dMod_pump_105 rfl ?_
            refine g_iload_n 106 dMod_pump_106 rfl ?_
            refine g_iload 107 dMod_pump_107 rfl ?_
            refine g_callV 109 [_, _] dMod_pump_109 cs_Mod_325 rfl (ci := 10) rfl (by decide) hR1.1.mod rfl ⟨(Nat.le_of_ble_eq_true rfl), (Nat.le_of_ble_eq_true rfl)⟩ (Nat.le_of_ble_eq_true rfl) (ct_sDtM hR1 he hk (hb k hk) (by omega) (cs_st hcs) (fun w => cs_pos hcs (fun z => w ((nI_eq (a := (zW A e k).length) (b := 0) (by omega) (by decide)).mp z)))) (Nat.le_of_ble_eq_true rfl) (Nat.le_of_ble_eq_true rfl) ?_
            rintro _ M2 ⟨rfl, hR2, hc⟩
            have hC2 := hC1.tr hc
            refine g_iincN 112 dMod_pump_112 rfl (by decide) rfl ?_
            refine g_goto 115 23 dMod_pump_115 rfl ?_
            have hb2 : ∀ g, g < 12 → ∀ x, x ∈ zW (sDt (yI A (9 + 80 * e) 16 (nI k)) e k) e g → bW x := fun g hg x hx => hb g hg x (sDt_Wm (A := yI A (9 + 80 * e) 16 (nI k)) hx)
            refine g_pmM he hN j (n + 1) (k + 1) (sDt (yI A (9 + 80 * e) 16 (nI k)) e k) M2 (by omega) (sDt_W hw hk) hb2 hR2 hC2 _ _ _ fun M' h1 h2 => ?_
            rw [hz] at hq
            have := hq M' h1 h2
            rw [show n + ((pmp e j (k + 1) (sDt (yI A (9 + 80 * e) 16 (nI k)) e k)).1 + 1) = n + 1 + (pmp e j (k + 1) (sDt (yI A (9 + 80 * e) 16 (nI k)) e k)).1 by omega] at this
            exact this
          · exact absurd (Nat.zero_le _) h100
set_option maxRecDepth 100000 in
set_option maxHeartbeats 4000000 in
theorem cm_pumpR {X : mX} {l : Launch} {M : mM} {A : zA} {e : Nat} (hR : RR M A) (he : e < 2) {N q : Nat} (h1 : 1 ≤ N) (h8 : N ≤ 8) (hw : pmW A e q) (hb : ∀ k, k < 12 → ∀ x, x ∈ zW A e k → bW x) (hz0 : zI A (9 + 80 * e) 3 = 0) : Ct X l uMod_pump (rk 2 53) [.ref 169, .int (nI e), .int (nI N)] M (fun r M' => r = some (.int (nI (pmp e N q A).1)) ∧ RR M' (pmp e N q A).2 ∧ Chg M M' mP no2) := by
  refine Ct.of (by decide) (Nat.le_of_ble_eq_true rfl) ?_
  show G X l uMod_pump (rk 2 53) 0 0 M 0 [some (.ref 169), some (.int (nI e)), some (.int (nI N)), none, none, none, none] [] _
  have hC : Chg M M mP no2 := Chg.rf
  have hu : Rdowns M e = 0 := (hR.dn he).trans hz0
  refine g_aload_n 0 dMod_pump_0 rfl ?_
  refine g_iload_n 1 dMod_pump_1 rfl ?_
  refine g_callV 2 [_] dMod_pump_2 cs_Mod_309 rfl (ci := 10) rfl (by decide) hR.1.mod rfl ⟨(Nat.le_of_ble_eq_true rfl), (Nat.le_of_ble_eq_true rfl)⟩ (Nat.le_of_ble_eq_true rfl) (ct_up_y hR.1 he hu) (Nat.le_of_ble_eq_true rfl) (Nat.le_of_ble_eq_true rfl) ?_
  rintro _ M2 ⟨rfl, hM2⟩
  rw [hM2]
  clear hM2 M2
  refine g_if_eq 5 19 dMod_pump_5 rfl (fun h5 => ?_) (fun h5 => ?_)
  · exact absurd h5 (by decide)
  · refine g_iload_n 8 dMod_pump_8 rfl ?_
    refine g_iconst 9 (nI 1) dMod_pump_9 rfl ?_
    refine g_icmp_ltN 10 19 dMod_pump_10 rfl (by omega) (by omega) (fun h10 => ?_) (fun h10 => ?_)
    · exact absurd h10 (by omega)
    · refine g_iload_n 13 dMod_pump_13 rfl ?_
      refine g_bipush 14 (nI 8) dMod_pump_14 rfl ?_
      refine g_icmp_leN 16 21 dMod_pump_16 rfl (by omega) (by omega) (fun h16 => ?_) (fun h16 => ?_)
      · refine g_iconst 21 (nI 0) dMod_pump_21 rfl ?_
        refine g_istore_n 22 dMod_pump_22 (by decide) rfl ?_
        exact g_pmM he h8 N 0 q A M (Nat.zero_add _) hw hb hR hC _ _ _ fun M' h1 h2 => ⟨by rw [Nat.zero_add], h1, h2⟩
      · exact absurd h8 h16

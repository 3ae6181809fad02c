theorem cs_Mod_291 : cV "InterleavedLinkModel" 291 uMod_getData 2 := ⟨⟨Or.inl (gW_in 1038 (by decide +kernel) rfl), (gW_in 74 (by decide +kernel) rfl), (gW_in 1041 (by decide +kernel) rfl), ⟨by decide, by decide⟩, by decide +kernel⟩, (gW_in 1040 (by decide +kernel) rfl), (gW_in 26 (by decide +kernel) rfl)⟩
theorem cs_Mod_294 : cV "InterleavedLinkModel" 294 uMod_getHeaders 2 := ⟨⟨Or.inl (gW_in 1080 (by decide +kernel) rfl), (gW_in 74 (by decide +kernel) rfl), (gW_in 1083 (by decide +kernel) rfl), ⟨by decide, by decide⟩, by decide +kernel⟩, (gW_in 1082 (by decide +kernel) rfl), (gW_in 35 (by decide +kernel) rfl)⟩
theorem cs_Mod_297 : cV "InterleavedLinkModel" 297 uMod_getReset 2 := ⟨⟨Or.inl (gW_in 1141 (by decide +kernel) rfl), (gW_in 74 (by decide +kernel) rfl), (gW_in 1144 (by decide +kernel) rfl), ⟨by decide, by decide⟩, by decide +kernel⟩, (gW_in 1143 (by decide +kernel) rfl), (gW_in 49 (by decide +kernel) rfl)⟩
theorem cs_Mod_300 : cV "InterleavedLinkModel" 300 uMod_getAck 1 := ⟨⟨Or.inl (gW_in 1145 (by decide +kernel) rfl), (gW_in 74 (by decide +kernel) rfl), (gW_in 1148 (by decide +kernel) rfl), ⟨by decide, by decide⟩, by decide +kernel⟩, (gW_in 1147 (by decide +kernel) rfl), (gW_in 50 (by decide +kernel) rfl)⟩
theorem cs_Mod_303 : cV "InterleavedLinkModel" 303 uMod_getSetting 3 := ⟨⟨Or.inl (gW_in 1152 (by decide +kernel) rfl), (gW_in 74 (by decide +kernel) rfl), (gW_in 1155 (by decide +kernel) rfl), ⟨by decide, by decide⟩, by decide +kernel⟩, (gW_in 1154 (by decide +kernel) rfl), (gW_in 51 (by decide +kernel) rfl)⟩
theorem cs_Mod_306 : cV "InterleavedLinkModel" 306 uMod_getWindow 3 := ⟨⟨Or.inl (gW_in 1162 (by decide +kernel) rfl), (gW_in 74 (by decide +kernel) rfl), (gW_in 1165 (by decide +kernel) rfl), ⟨by decide, by decide⟩, by decide +kernel⟩, (gW_in 1164 (by decide +kernel) rfl), (gW_in 52 (by decide +kernel) rfl)⟩
/-! ===== the calls, the reference over the state ===== -/
theorem ct_fullM {X : mX} {l : Launch} {M : mM} {A : zA} {e : Nat} (h : RR M A) (he : e < 2) : Ct X l uMod_full (rk 0 0) [.ref 169, .int (nI e)] M (fun r M' => r = some (.int (if 30 ≤ (zP A (1 - e)).length then 1 else 0)) ∧ M' = M) := by
  refine (ct_Mod_full h.1 he).post fun r M' q => ⟨q.1.trans ?_, q.2⟩
  have hl := h.pl (e := 1 - e) (by omega)
  rw [h.pc (by omega)]
  by_cases w : 30 ≤ (zP A (1 - e)).length
  · rw [if_pos w, if_neg (fun z => by have := (nI_ltI (a := (zP A (1 - e)).length) (b := 30) (by omega) (by decide)).mp z; omega)]
  · rw [if_neg w, if_pos (show nI (zP A (1 - e)).length < 30 from nI_lt (b := 30) (by omega) (by decide))]
theorem cm_headerR {X : mX} {l : Launch} {M : mM} {A : zA} {e : Nat} {a b z : Int32} (hR : RR M A) (he : e < 2) (hz0 : zI A (9 + 80 * e) 3 = 0) (ha : ¬ wi a 0 15 = 0) (hc6 : (zK A e).length < 6) (hz : z = 0 ∨ z = 1) : Ct X l uMod_header (rk 2 41) [.ref 169, .int (nI e), .int a, .int b, .int z] M (fun r M' => r = some (.int (nI ((zK A e).length + 1))) ∧ RR M' (yK A e (zK A e ++ [(a, b, z)])) ∧ Chg M M' mP no2) := by
  have hu : Rdowns M e = 0 := (hR.dn he).trans hz0
  obtain ⟨m1, m2, m3⟩ := hR.mk he
  refine (cm_header hR.1 he hu ha m1 hc6 hz).post ?_
  rintro r M' ⟨rfl, rfl⟩
  have c : Chg M (setI (setI (setI (setI M 218 (6 * e + (zK A e).length) a) 219 (6 * e + (zK A e).length) b) 220 (6 * e + (zK A e).length) z) 217 e (nI ((zK A e).length + 1))) (fun a j => (a = 217 ∧ j = e) ∨ (218 ≤ a ∧ a ≤ 220 ∧ 6 * e ≤ j ∧ j < 6 * e + 6)) no2 := (((Chg.rf.setI (Or.inl (by omega))).setI (Or.inl (by omega))).setI (Or.inl (by omega))).setI (Or.inl (by omega))
  refine ⟨rfl, hR.yK he ⟨?_, by rw [List.length_append]; exact hc6, fun j x hx => ?_⟩ c, mp c fun a j q => by omega⟩
  · rw [List.length_append]
    exact sI_s
  · show mI _ 218 _ = _ ∧ mI _ 219 _ = _ ∧ mI _ 220 _ = _
    by_cases hj : j < (zK A e).length
    · rw [List.getElem?_append_left hj] at hx
      obtain ⟨t1, t2, t3⟩ := m3 j x hx
      exact ⟨by rw [sI_a (by decide), sI_a (by decide), sI_a (by decide), sI_k (by omega)]; exact t1, by rw [sI_a (by decide), sI_a (by decide), sI_k (by omega), sI_a (by decide)]; exact t2, by rw [sI_a (by decide), sI_k (by omega), sI_a (by decide), sI_a (by decide)]; exact t3⟩
    · rw [List.getElem?_append_right (by omega)] at hx
      have h6 := (List.getElem?_eq_some_iff.mp hx).1
      have hj2 : j = (zK A e).length := by simp at h6; omega
      subst hj2
      simp at hx
      subst hx
      exact ⟨by rw [sI_a (by decide), sI_a (by decide), sI_a (by decide), sI_s], by rw [sI_a (by decide), sI_a (by decide), sI_s], by rw [sI_a (by decide), sI_s]⟩
set_option maxRecDepth 100000 in
set_option maxHeartbeats 4000000 in
theorem cm_resetR {X : mX} {l : Launch} {M : mM} {A : zA} {e k : Nat} (hR : RR M A) (he : e < 2) (hk : k < 12) {n : Int32} (ha : ¬ acZ A e k = 0) (hh : ¬ wi n 0 15 = 0) (hz0 : zI A (9 + 80 * e) 3 = 0) (hnf : (zP A (1 - e)).length < 30) : Ct X l uMod_reset (rk 3 74) [.ref 169, .int (nI e), .int (nI (2 * k + 1)), .int n] M (fun r M' => r = some (.int 1) ∧ RR M' (rstA A e k n 0) ∧ Chg M M' mP no2) := by
  refine Ct.of (by decide) (Nat.le_of_ble_eq_true rfl) ?_
  show G X l uMod_reset (rk 3 74) 0 0 M 0 [some (.ref 169), some (.int (nI e)), some (.int (nI (2 * k + 1))), some (.int n)] [] _
  have hC : Chg M M mP no2 := Chg.rf
  have hu : Rdowns M e = 0 := (hR.dn he).trans hz0
  have hs : ¬ zI A (29 + 80 * e + 5 * k) 1 = 0 := fun q => ha (by unfold acZ; rw [q]; decide)
  refine g_aload_n 0 dMod_reset_0 rfl ?_
  refine g_iload_n 1 dMod_reset_1 rfl ?_
  refine g_callV 2 [_] dMod_reset_2 cs_Mod_309 rfl (ci := 10) rfl (by decide) hR.1.mod rfl ⟨(Nat.le_of_ble_eq_true rfl), (Nat.le_of_ble_eq_true rfl)⟩ (Nat.le_of_ble_eq_true rfl) (ct_up_y hR.1 he hu) (Nat.le_of_ble_eq_true rfl) (Nat.le_of_ble_eq_true rfl) ?_
  rintro _ M2 ⟨rfl, hM2⟩
  rw [hM2]
  clear hM2 M2
  refine g_if_eq 5 33 dMod_reset_5 rfl (fun h5 => ?_) (fun h5 => ?_)
  · exact absurd h5 (by decide)
  · refine g_iload_n 8 dMod_reset_8 rfl ?_
    refine g_callS 9 [_] dMod_reset_9 cs_Mod_246 rfl rfl ⟨(Nat.le_of_ble_eq_true rfl), (Nat.le_of_ble_eq_true rfl)⟩ (Nat.le_of_ble_eq_true rfl) (ct_isStr_y hk) (Nat.le_of_ble_eq_true rfl) (Nat.le_of_ble_eq_true rfl) ?_
    rintro _ M2 ⟨rfl, hM2⟩
    rw [hM2]
    clear hM2 M2
    refine g_if_eq 12 33 dMod_reset_12 rfl (fun h12 => ?_) (fun h12 => ?_)
    · exact absurd h12 (by decide)
    · refine g_iload_n 15 dMod_reset_15 rfl ?_
      refine g_if_lt 16 33 dMod_reset_16 rfl (fun h16 => ?_) (fun h16 => ?_)
      · exact absurd (by unfold wi; rw [if_pos h16]) hh
      · refine g_iload_n 19 dMod_reset_19 rfl ?_
        refine g_bipush 20 15 dMod_reset_20 rfl ?_
        refine g_icmp_gt 22 33 dMod_reset_22 rfl (fun h22 => ?_) (fun h22 => ?_)
        · exact absurd (by unfold wi; rw [if_neg h16, if_pos h22]) hh
        · refine g_aload_n 25 dMod_reset_25 rfl ?_
          refine g_iload_n 26 dMod_reset_26 rfl ?_
          refine g_callV 27 [_] dMod_reset_27 cs_Mod_315 rfl (ci := 10) rfl (by decide) hR.1.mod rfl ⟨(Nat.le_of_ble_eq_true rfl), (Nat.le_of_ble_eq_true rfl)⟩ (Nat.le_of_ble_eq_true rfl) (ct_fullM hR he) (Nat.le_of_ble_eq_true rfl) (Nat.le_of_ble_eq_true rfl) ?_
          rintro _ M2 ⟨rfl, hM2⟩
          rw [hM2]
          clear hM2 M2
          refine g_if_eq 30 35 dMod_reset_30 rfl (fun h30 => ?_) (fun h30 => ?_)
          · refine g_aload_n 35 dMod_reset_35 rfl ?_
            refine g_iload_n 36 dMod_reset_36 rfl ?_
            refine g_iload_n 37 dMod_reset_37 rfl ?_
            refine g_callS 38 [_, _] dMod_reset_38 cs_Mod_190 rfl rfl ⟨(Nat.le_of_ble_eq_true rfl), (Nat.le_of_ble_eq_true rfl)⟩ (Nat.le_of_ble_eq_true rfl) (ct_Mod_at (by omega) (by omega)) (Nat.le_of_ble_eq_true rfl) (Nat.le_of_ble_eq_true rfl) ?_
            rintro _ M2 ⟨rfl, hM2⟩
            rw [hM2]
            clear hM2 M2
            refine g_top (nI (12 * e + k)) (by rw [show (2 * k + 1) / 2 = k by omega]) ?_
            refine g_callV 41 [_] dMod_reset_41 cs_Mod_179 rfl (ci := 10) rfl (by decide) hR.1.mod rfl ⟨(Nat.le_of_ble_eq_true rfl), (Nat.le_of_ble_eq_true rfl)⟩ (Nat.le_of_ble_eq_true rfl) (ct_acM hR he hk) (Nat.le_of_ble_eq_true rfl) (Nat.le_of_ble_eq_true rfl) ?_
            rintro _ M2 ⟨rfl, hM2⟩
            rw [hM2]
            clear hM2 M2
            refine g_if_ne 44 49 dMod_reset_44 rfl (fun h44 => ?_) (fun h44 => ?_)
            · refine g_aload_n 49 dMod_reset_49 rfl ?_
              refine g_iload_n 50 dMod_reset_50 rfl ?_
              refine g_iload_n 51 dMod_reset_51 rfl ?_
              refine g_iload_n 52 dMod_reset_52 rfl ?_
              refine g_iconst 53 0 dMod_reset_53 rfl ?_
              refine g_callV 54 [_, _, _, _] dMod_reset_54 cs_Mod_255 rfl (ci := 10) rfl (by decide) hR.1.mod rfl ⟨(Nat.le_of_ble_eq_true rfl), (Nat.le_of_ble_eq_true rfl)⟩ (Nat.le_of_ble_eq_true rfl) (ct_rstM hR he hk hs (by omega)) (Nat.le_of_ble_eq_true rfl) (Nat.le_of_ble_eq_true rfl) ?_
              rintro _ M1 ⟨rfl, hR1, hc⟩
              have hC1 := hC.tr hc
              refine g_pop 57 dMod_reset_57 rfl ?_
              refine g_iconst 58 1 dMod_reset_58 rfl ?_
              exact g_zret 59 dMod_reset_59 rfl (by decide) ⟨rfl, hR1, hC1⟩
            · exact absurd h44 ha
          · exact absurd (if_neg (by omega)) h30

set_option maxRecDepth 100000 in
set_option maxHeartbeats 4000000 in
theorem cm_reset_full {X : mX} {l : Launch} {M : mM} {A : zA} {e k : Nat} (hR : RR M A) (he : e < 2) (hk : k < 12) {n : Int32} (hz0 : zI A (9 + 80 * e) 3 = 0) (hfl : 30 ≤ (zP A (1 - e)).length) : Ct X l uMod_reset (rk 3 74) [.ref 169, .int (nI e), .int (nI (2 * k + 1)), .int n] M (fun r M' => r = some (.int 0) ∧ M' = M) := by
  refine Ct.of (by decide) (Nat.le_of_ble_eq_true rfl) ?_
  show G X l uMod_reset (rk 3 74) 0 0 M 0 [some (.ref 169), some (.int (nI e)), some (.int (nI (2 * k + 1))), some (.int n)] [] _
  have hC : Chg M M mP no2 := Chg.rf
  have hu : Rdowns M e = 0 := (hR.dn he).trans hz0
  refine g_aload_n 0 dMod_reset_0 rfl ?_
  refine g_iload_n 1 dMod_reset_1 rfl ?_
  refine g_callV 2 [_] dMod_reset_2 cs_Mod_309 rfl (ci := 10) rfl (by decide) hR.1.mod rfl ⟨(Nat.le_of_ble_eq_true rfl), (Nat.le_of_ble_eq_true rfl)⟩ (Nat.le_of_ble_eq_true rfl) (ct_up_y hR.1 he hu) (Nat.le_of_ble_eq_true rfl) (Nat.le_of_ble_eq_true rfl) ?_
  rintro _ M2 ⟨rfl, hM2⟩
  rw [hM2]
  clear hM2 M2
  refine g_if_eq 5 33 dMod_reset_5 rfl (fun h5 => ?_) (fun h5 => ?_)
  · exact absurd h5 (by decide)
  · refine g_iload_n 8 dMod_reset_8 rfl ?_
    refine g_callS 9 [_] dMod_reset_9 cs_Mod_246 rfl rfl ⟨(Nat.le_of_ble_eq_true rfl), (Nat.le_of_ble_eq_true rfl)⟩ (Nat.le_of_ble_eq_true rfl) (ct_isStr_y hk) (Nat.le_of_ble_eq_true rfl) (Nat.le_of_ble_eq_true rfl) ?_
    rintro _ M2 ⟨rfl, hM2⟩
    rw [hM2]
    clear hM2 M2
    refine g_if_eq 12 33 dMod_reset_12 rfl (fun h12 => ?_) (fun h12 => ?_)
    · exact absurd h12 (by decide)
    · refine g_iload_n 15 dMod_reset_15 rfl ?_
      refine g_if_lt 16 33 dMod_reset_16 rfl (fun h16 => ?_) (fun h16 => ?_)
      · refine g_iconst 33 0 dMod_reset_33 rfl ?_
        exact g_zret 34 dMod_reset_34 rfl (by decide) (by (try rw [if_pos h16]); exact ⟨rfl, rfl⟩)
      · refine g_iload_n 19 dMod_reset_19 rfl ?_
        refine g_bipush 20 15 dMod_reset_20 rfl ?_
        refine g_icmp_gt 22 33 dMod_reset_22 rfl (fun h22 => ?_) (fun h22 => ?_)
        · refine g_iconst 33 0 dMod_reset_33 rfl ?_
          exact g_zret 34 dMod_reset_34 rfl (by decide) (by (try rw [if_neg h16]); (try rw [if_pos h22]); exact ⟨rfl, rfl⟩)
        · refine g_aload_n 25 dMod_reset_25 rfl ?_
          refine g_iload_n 26 dMod_reset_26 rfl ?_
          refine g_callV 27 [_] dMod_reset_27 cs_Mod_315 rfl (ci := 10) rfl (by decide) hR.1.mod rfl ⟨(Nat.le_of_ble_eq_true rfl), (Nat.le_of_ble_eq_true rfl)⟩ (Nat.le_of_ble_eq_true rfl) (ct_fullM hR he) (Nat.le_of_ble_eq_true rfl) (Nat.le_of_ble_eq_true rfl) ?_
          rintro _ M2 ⟨rfl, hM2⟩
          rw [hM2]
          clear hM2 M2
          refine g_if_eq 30 35 dMod_reset_30 rfl (fun h30 => ?_) (fun h30 => ?_)
          · exact absurd (h30.symm.trans (if_pos hfl)) (by decide)
          · refine g_iconst 33 0 dMod_reset_33 rfl ?_
            exact g_zret 34 dMod_reset_34 rfl (by decide) (by (try rw [if_neg h16]); (try rw [if_neg h22]); exact ⟨rfl, rfl⟩)

set_option maxRecDepth 100000 in
set_option maxHeartbeats 4000000 in
theorem cm_reset_bad {X : mX} {l : Launch} {M : mM} {A : zA} {e k : Nat} (hR : RR M A) (he : e < 2) (hk : k < 12) {n : Int32} (hh : wi n 0 15 = 0) (hz0 : zI A (9 + 80 * e) 3 = 0) : Ct X l uMod_reset (rk 3 74) [.ref 169, .int (nI e), .int (nI (2 * k + 1)), .int n] M (fun r M' => r = some (.int 0) ∧ M' = M) := by
  refine Ct.of (by decide) (Nat.le_of_ble_eq_true rfl) ?_
  show G X l uMod_reset (rk 3 74) 0 0 M 0 [some (.ref 169), some (.int (nI e)), some (.int (nI (2 * k + 1))), some (.int n)] [] _
  have hC : Chg M M mP no2 := Chg.rf
  have hu : Rdowns M e = 0 := (hR.dn he).trans hz0
  refine g_aload_n 0 dMod_reset_0 rfl ?_
  refine g_iload_n 1 dMod_reset_1 rfl ?_
  refine g_callV 2 [_] dMod_reset_2 cs_Mod_309 rfl (ci := 10) rfl (by decide) hR.1.mod rfl ⟨(Nat.le_of_ble_eq_true rfl), (Nat.le_of_ble_eq_true rfl)⟩ (Nat.le_of_ble_eq_true rfl) (ct_up_y hR.1 he hu) (Nat.le_of_ble_eq_true rfl) (Nat.le_of_ble_eq_true rfl) ?_
  rintro _ M2 ⟨rfl, hM2⟩
  rw [hM2]
  clear hM2 M2
  refine g_if_eq 5 33 dMod_reset_5 rfl (fun h5 => ?_) (fun h5 => ?_)
  · exact absurd h5 (by decide)
  · refine g_iload_n 8 dMod_reset_8 rfl ?_
    refine g_callS 9 [_] dMod_reset_9 cs_Mod_246 rfl rfl ⟨(Nat.le_of_ble_eq_true rfl), (Nat.le_of_ble_eq_true rfl)⟩ (Nat.le_of_ble_eq_true rfl) (ct_isStr_y hk) (Nat.le_of_ble_eq_true rfl) (Nat.le_of_ble_eq_true rfl) ?_
    rintro _ M2 ⟨rfl, hM2⟩
    rw [hM2]
    clear hM2 M2
    refine g_if_eq 12 33 dMod_reset_12 rfl (fun h12 => ?_) (fun h12 => ?_)
    · exact absurd h12 (by decide)
    · refine g_iload_n 15 dMod_reset_15 rfl ?_
      refine g_if_lt 16 33 dMod_reset_16 rfl (fun h16 => ?_) (fun h16 => ?_)
      · refine g_iconst 33 0 dMod_reset_33 rfl ?_
        exact g_zret 34 dMod_reset_34 rfl (by decide) (by (try rw [if_pos h16]); exact ⟨rfl, rfl⟩)
      · refine g_iload_n 19 dMod_reset_19 rfl ?_
        refine g_bipush 20 15 dMod_reset_20 rfl ?_
        refine g_icmp_gt 22 33 dMod_reset_22 rfl (fun h22 => ?_) (fun h22 => ?_)
        · refine g_iconst 33 0 dMod_reset_33 rfl ?_
          exact g_zret 34 dMod_reset_34 rfl (by decide) (by (try rw [if_neg h16]); exact ⟨rfl, rfl⟩)
        · exact absurd (by unfold wi at hh; rw [if_neg h16, if_neg h22] at hh; exact hh) (by decide)

theorem rr_pop {M : mM} {A : zA} {e h : Nat} {f : zF} {L : List zF} (hR : RR M A) (he : e < 2) (hz : zP A e = f :: L) (h8 : h < 48) (p1 : Rhead M e = nI h) : RR (setI (setI M 171 e (nI ((h + 1) % 48))) 172 e (nI L.length)) (yP A e L) ∧ FrR (setI (setI M 171 e (nI ((h + 1) % 48))) 172 e (nI L.length)) (48 * e + h) f := by
  obtain ⟨x, x1, x2, x3, x4, x5⟩ := hR.2.2.2.2.1 e he
  have hN := hR.1.1
  have hxh : x = h := (nI_eq (by omega) (by omega)).mp (x3.symm.trans p1)
  subst hxh
  rw [hz] at x2 x5
  have c : Chg M (setI (setI M 171 e (nI ((x + 1) % 48))) 172 e (nI L.length)) (fun a j => 171 ≤ a ∧ a ≤ 172 ∧ j = e) no2 := (Chg.rf.setI (Or.inl ⟨by omega, by omega, rfl⟩)).setI (Or.inl ⟨by omega, by omega, rfl⟩)
  have hx2 : L.length + 1 < 48 := x2
  refine ⟨hR.yP he ⟨(x + 1) % 48, Nat.mod_lt _ (by decide), by omega, ?_, sI_s, fun j g hg => ?_⟩ (c.mono (fun a j q => Or.inl q) fun _ _ q => q), ?_⟩
  · show mI _ 171 e = _
    rw [sI_a (by decide), sI_s]
  · have := x5 (j + 1) g (by rw [List.getElem?_cons_succ]; exact hg)
    rw [show 48 * e + ((x + 1) % 48 + j) % 48 = 48 * e + (x + (j + 1)) % 48 by omega]
    exact this.mv c hN fun a i q => by omega
  · have := x5 0 f rfl
    rw [show 48 * e + (x + 0) % 48 = 48 * e + x by omega] at this
    exact this.mv c hN fun a i q => by omega
theorem g_memF {X : mX} {l : Launch} {u : mU} {rm : Room} {bc bs : Nat} {M0 M : mM} {B : zA} {sl : Nat} {f : zF} {pc : Nat} {ls : List (Option Value)} {st : List Value} {Q : Option Value → mM → Prop} (hR : RR M B) (hF : FrR M sl f) (hC : Chg M0 M mP no2) (k : ∀ M', RR M' B → Chg M0 M' mP no2 → FrR M' sl f → G X l u rm bc bs M' pc ls st Q) : G X l u rm bc bs M pc ls st Q := k M hR hC hF
set_option maxRecDepth 100000 in
set_option maxHeartbeats 4000000 in
theorem cm_deliver_dn {X : mX} {l : Launch} {M : mM} {A : zA} {e : Nat} (hR : RR M A) (he : e < 2) {f : zF} {L : List zF} (hz : zP A e = f :: L) (hd : ¬ zI A (9 + 80 * e) 3 = 0) : Ct X l uMod_deliver (rk 6 146) [.ref 169, .int (nI e)] M (fun r M' => r = some (.int 0) ∧ RR M' (yP A e L) ∧ Chg M M' mP no2) := by
  refine Ct.of (by decide) (Nat.le_of_ble_eq_true rfl) ?_
  show G X l uMod_deliver (rk 6 146) 0 0 M 0 [some (.ref 169), some (.int (nI e)), none, none] [] _
  have hC : Chg M M mP no2 := Chg.rf
  obtain ⟨hh, x1, x2, x3, x4, x5⟩ := hR.2.2.2.2.1 e he
  have hpo := hR.pl (e := 1 - e) (by omega)
  have x4' : mI M 172 e = nI (L.length + 1) := x4.trans (by rw [hz]; rfl)
  have hl48 : L.length + 1 < 48 := by rw [hz] at x2; exact x2
  refine g_iload_n 0 dMod_deliver_0 rfl ?_
  refine g_callS 1 [_] dMod_deliver_1 cs_Mod_171 rfl rfl ⟨(Nat.le_of_ble_eq_true rfl), (Nat.le_of_ble_eq_true rfl)⟩ (Nat.le_of_ble_eq_true rfl) (ct_isEnd_y he) (Nat.le_of_ble_eq_true rfl) (Nat.le_of_ble_eq_true rfl) ?_
  rintro _ M2 ⟨rfl, hM2⟩
  rw [hM2]
  clear hM2 M2
  refine g_if_eq 4 16 dMod_deliver_4 rfl (fun h4 => ?_) (fun h4 => ?_)
  · exact absurd h4 (by decide)
  · refine g_aload_n 7 dMod_deliver_7 rfl ?_
    refine g_getr 8 10 2 dMod_deliver_8 fs_Mod_16 rfl hR.1.mod hR.1.R_count ?_
    refine g_iload_n 11 dMod_deliver_11 rfl ?_
    refine g_ialdN 12 dMod_deliver_12 hR.1.T_count (by omega) (by decide) ?_
    refine g_top (nI ((L.length + 1))) (x4') ?_
    refine g_if_neN 13 18 dMod_deliver_13 rfl (by omega) (fun h13 => ?_) (fun h13 => ?_)
    · refine g_aload_n 18 dMod_deliver_18 rfl ?_
      refine g_getr 19 10 0 dMod_deliver_19 fs_Mod_7 rfl hR.1.mod hR.1.R_downs ?_
      refine g_iload_n 22 dMod_deliver_22 rfl ?_
      refine g_ialdN 23 dMod_deliver_23 hR.1.T_downs (by omega) (by decide) ?_
      refine g_top (zI A (9 + 80 * e) 3) (hR.dn he) ?_
      refine g_if_ne 24 43 dMod_deliver_24 rfl (fun h24 => ?_) (fun h24 => ?_)
      · refine g_bipush 43 (nI 48) dMod_deliver_43 rfl ?_
        refine g_iload_n 45 dMod_deliver_45 rfl ?_
        refine g_imulN 46 dMod_deliver_46 ?_
        refine g_aload_n 47 dMod_deliver_47 rfl ?_
        refine g_getr 48 10 1 dMod_deliver_48 fs_Mod_13 rfl hR.1.mod hR.1.R_head ?_
        refine g_iload_n 51 dMod_deliver_51 rfl ?_
        refine g_ialdN 52 dMod_deliver_52 hR.1.T_head (by omega) (by decide) ?_
        refine g_top (nI (hh)) (x3) ?_
        refine g_iaddN 53 dMod_deliver_53 ?_
        refine g_istore_n 54 dMod_deliver_54 (by decide) rfl ?_
        refine g_aload_n 55 dMod_deliver_55 rfl ?_
        refine g_getr 56 10 1 dMod_deliver_56 fs_Mod_13 rfl hR.1.mod hR.1.R_head ?_
        refine g_iload_n 59 dMod_deliver_59 rfl ?_
        refine g_aload_n 60 dMod_deliver_60 rfl ?_
        refine g_getr 61 10 1 dMod_deliver_61 fs_Mod_13 rfl hR.1.mod hR.1.R_head ?_
        refine g_iload_n 64 dMod_deliver_64 rfl ?_
        refine g_ialdN 65 dMod_deliver_65 hR.1.T_head (by omega) (by decide) ?_
        refine g_top (nI (hh)) (x3) ?_
        refine g_iconst 66 (nI 1) dMod_deliver_66 rfl ?_
        refine g_iaddN 67 dMod_deliver_67 ?_
        refine g_bipush 68 (nI 48) dMod_deliver_68 rfl ?_
        refine g_iremN 70 dMod_deliver_70 (by omega) (by decide) (by decide) ?_
        refine g_iastN 71 dMod_deliver_71 hR.1.T_head (by omega) (by decide) ?_
        refine g_aload_n 72 dMod_deliver_72 rfl ?_
        refine g_getr 73 10 2 dMod_deliver_73 fs_Mod_16 rfl hR.1.mod hR.1.R_count ?_
        refine g_iload_n 76 dMod_deliver_76 rfl ?_
        refine g_aload_n 77 dMod_deliver_77 rfl ?_
        refine g_getr 78 10 2 dMod_deliver_78 fs_Mod_16 rfl hR.1.mod hR.1.R_count ?_
        refine g_iload_n 81 dMod_deliver_81 rfl ?_
        refine g_ialdN 82 dMod_deliver_82 hR.1.T_count (by omega) (by decide) ?_
        refine g_top (nI ((L.length + 1))) ((sI_a (by decide)).trans x4') ?_
        refine g_iconst 83 (nI 1) dMod_deliver_83 rfl ?_
        refine g_isubN 84 dMod_deliver_84 (by omega) ?_
        refine g_top (nI (L.length)) (rfl) ?_
        refine g_iastN 85 dMod_deliver_85 hR.1.T_count (by omega) (by decide) ?_
        obtain ⟨hRp, hF⟩ := rr_pop hR he hz x1 x3
        refine g_memF (B := yP A e L) hRp hF (kM (kM hC (by decide)) (by decide)) (fun M1 hR1 hC1 hF1 => ?_)
        refine g_aload_n 86 dMod_deliver_86 rfl ?_
        refine g_getr 87 10 0 dMod_deliver_87 fs_Mod_7 rfl hR1.1.mod hR1.1.R_downs ?_
        refine g_iload_n 90 dMod_deliver_90 rfl ?_
        refine g_ialdN 91 dMod_deliver_91 hR1.1.T_downs (by omega) (by decide) ?_
        refine g_top (zI A (9 + 80 * e) 3) (hR1.dn he) ?_
        refine g_if_eq 92 97 dMod_deliver_92 rfl (fun h92 => ?_) (fun h92 => ?_)
        · exact absurd h92 hd
        · refine g_iconst 95 0 dMod_deliver_95 rfl ?_
          exact g_iret 96 dMod_deliver_96 rfl ⟨rfl, hR1, hC1⟩
      · exact absurd h24 hd
    · exact absurd h13 (by omega)

set_option maxRecDepth 100000 in
set_option maxHeartbeats 4000000 in
theorem cm_deliver_full {X : mX} {l : Launch} {M : mM} {A : zA} {e : Nat} (hR : RR M A) (he : e < 2) {f : zF} {L : List zF} (hz : zP A e = f :: L) (hd : zI A (9 + 80 * e) 3 = 0) (h40 : 40 ≤ (zP A (1 - e)).length) : Ct X l uMod_deliver (rk 6 146) [.ref 169, .int (nI e)] M (fun r M' => r = some (.int (-2)) ∧ M' = M) := by
  refine Ct.of (by decide) (Nat.le_of_ble_eq_true rfl) ?_
  show G X l uMod_deliver (rk 6 146) 0 0 M 0 [some (.ref 169), some (.int (nI e)), none, none] [] _
  have hC : Chg M M mP no2 := Chg.rf
  obtain ⟨hh, x1, x2, x3, x4, x5⟩ := hR.2.2.2.2.1 e he
  have hpo := hR.pl (e := 1 - e) (by omega)
  have x4' : mI M 172 e = nI (L.length + 1) := x4.trans (by rw [hz]; rfl)
  have hl48 : L.length + 1 < 48 := by rw [hz] at x2; exact x2
  refine g_iload_n 0 dMod_deliver_0 rfl ?_
  refine g_callS 1 [_] dMod_deliver_1 cs_Mod_171 rfl rfl ⟨(Nat.le_of_ble_eq_true rfl), (Nat.le_of_ble_eq_true rfl)⟩ (Nat.le_of_ble_eq_true rfl) (ct_isEnd_y he) (Nat.le_of_ble_eq_true rfl) (Nat.le_of_ble_eq_true rfl) ?_
  rintro _ M2 ⟨rfl, hM2⟩
  rw [hM2]
  clear hM2 M2
  refine g_if_eq 4 16 dMod_deliver_4 rfl (fun h4 => ?_) (fun h4 => ?_)
  · exact absurd h4 (by decide)
  · refine g_aload_n 7 dMod_deliver_7 rfl ?_
    refine g_getr 8 10 2 dMod_deliver_8 fs_Mod_16 rfl hR.1.mod hR.1.R_count ?_
    refine g_iload_n 11 dMod_deliver_11 rfl ?_
    refine g_ialdN 12 dMod_deliver_12 hR.1.T_count (by omega) (by decide) ?_
    refine g_top (nI ((L.length + 1))) (x4') ?_
    refine g_if_neN 13 18 dMod_deliver_13 rfl (by omega) (fun h13 => ?_) (fun h13 => ?_)
    · refine g_aload_n 18 dMod_deliver_18 rfl ?_
      refine g_getr 19 10 0 dMod_deliver_19 fs_Mod_7 rfl hR.1.mod hR.1.R_downs ?_
      refine g_iload_n 22 dMod_deliver_22 rfl ?_
      refine g_ialdN 23 dMod_deliver_23 hR.1.T_downs (by omega) (by decide) ?_
      refine g_top (zI A (9 + 80 * e) 3) (hR.dn he) ?_
      refine g_if_ne 24 43 dMod_deliver_24 rfl (fun h24 => ?_) (fun h24 => ?_)
      · exact absurd hd h24
      · refine g_aload_n 27 dMod_deliver_27 rfl ?_
        refine g_getr 28 10 2 dMod_deliver_28 fs_Mod_16 rfl hR.1.mod hR.1.R_count ?_
        refine g_iconst 31 (nI 1) dMod_deliver_31 rfl ?_
        refine g_iload_n 32 dMod_deliver_32 rfl ?_
        refine g_isubN 33 dMod_deliver_33 (by omega) ?_
        refine g_ialdN 34 dMod_deliver_34 hR.1.T_count (by omega) (by decide) ?_
        refine g_top (nI ((zP A (1 - e)).length)) (hR.pc (e := 1 - e) (by omega)) ?_
        refine g_bipush 35 (nI 40) dMod_deliver_35 rfl ?_
        refine g_icmp_ltN 37 43 dMod_deliver_37 rfl (by omega) (by omega) (fun h37 => ?_) (fun h37 => ?_)
        · exact absurd h37 (by omega)
        · refine g_bipush 40 (-2) dMod_deliver_40 rfl ?_
          exact g_iret 42 dMod_deliver_42 rfl ⟨rfl, rfl⟩
    · exact absurd h13 (by omega)

set_option maxRecDepth 100000 in
set_option maxHeartbeats 4000000 in
theorem cm_dl_data {X : mX} {l : Launch} {M : mM} {A : zA} {e : Nat} (hR : RR M A) (he : e < 2) {f : zF} {L : List zF} (hz : zP A e = f :: L) (hd : zI A (9 + 80 * e) 3 = 0) (h40 : (zP A (1 - e)).length < 40) (hkd : f.1 = 0) {C : zA} {v : Int32} (hG : ∀ (M1 : mM) (hh_ : Nat), RR M1 (yP A e L) → FrR M1 (48 * e + hh_) f → 48 * e + hh_ < 96 → Ct X l uMod_getData (rk 3 74) [.ref 169, .int (nI e), .int (nI (48 * e + hh_))] M1 (fun r M' => r = some (.int v) ∧ RR M' C ∧ Chg M1 M' mP no2)) : Ct X l uMod_deliver (rk 6 146) [.ref 169, .int (nI e)] M (fun r M' => r = some (.int v) ∧ RR M' C ∧ Chg M M' mP no2) := by
  refine Ct.of (by decide) (Nat.le_of_ble_eq_true rfl) ?_
  show G X l uMod_deliver (rk 6 146) 0 0 M 0 [some (.ref 169), some (.int (nI e)), none, none] [] _
  have hC : Chg M M mP no2 := Chg.rf
  obtain ⟨hh, x1, x2, x3, x4, x5⟩ := hR.2.2.2.2.1 e he
  have hpo := hR.pl (e := 1 - e) (by omega)
  have x4' : mI M 172 e = nI (L.length + 1) := x4.trans (by rw [hz]; rfl)
  have hl48 : L.length + 1 < 48 := by rw [hz] at x2; exact x2
  refine g_iload_n 0 dMod_deliver_0 rfl ?_
  refine g_callS 1 [_] dMod_deliver_1 cs_Mod_171 rfl rfl ⟨(Nat.le_of_ble_eq_true rfl), (Nat.le_of_ble_eq_true rfl)⟩ (Nat.le_of_ble_eq_true rfl) (ct_isEnd_y he) (Nat.le_of_ble_eq_true rfl) (Nat.le_of_ble_eq_true rfl) ?_
  rintro _ M2 ⟨rfl, hM2⟩
  rw [hM2]
  clear hM2 M2
  refine g_if_eq 4 16 dMod_deliver_4 rfl (fun h4 => ?_) (fun h4 => ?_)
  · exact absurd h4 (by decide)
  · refine g_aload_n 7 dMod_deliver_7 rfl ?_
    refine g_getr 8 10 2 dMod_deliver_8 fs_Mod_16 rfl hR.1.mod hR.1.R_count ?_
    refine g_iload_n 11 dMod_deliver_11 rfl ?_
    refine g_ialdN 12 dMod_deliver_12 hR.1.T_count (by omega) (by decide) ?_
    refine g_top (nI ((L.length + 1))) (x4') ?_
    refine g_if_neN 13 18 dMod_deliver_13 rfl (by omega) (fun h13 => ?_) (fun h13 => ?_)
    · refine g_aload_n 18 dMod_deliver_18 rfl ?_
      refine g_getr 19 10 0 dMod_deliver_19 fs_Mod_7 rfl hR.1.mod hR.1.R_downs ?_
      refine g_iload_n 22 dMod_deliver_22 rfl ?_
      refine g_ialdN 23 dMod_deliver_23 hR.1.T_downs (by omega) (by decide) ?_
      refine g_top (zI A (9 + 80 * e) 3) (hR.dn he) ?_
      refine g_if_ne 24 43 dMod_deliver_24 rfl (fun h24 => ?_) (fun h24 => ?_)
      · exact absurd hd h24
      · refine g_aload_n 27 dMod_deliver_27 rfl ?_
        refine g_getr 28 10 2 dMod_deliver_28 fs_Mod_16 rfl hR.1.mod hR.1.R_count ?_
        refine g_iconst 31 (nI 1) dMod_deliver_31 rfl ?_
        refine g_iload_n 32 dMod_deliver_32 rfl ?_
        refine g_isubN 33 dMod_deliver_33 (by omega) ?_
        refine g_ialdN 34 dMod_deliver_34 hR.1.T_count (by omega) (by decide) ?_
        refine g_top (nI ((zP A (1 - e)).length)) (hR.pc (e := 1 - e) (by omega)) ?_
        refine g_bipush 35 (nI 40) dMod_deliver_35 rfl ?_
        refine g_icmp_ltN 37 43 dMod_deliver_37 rfl (by omega) (by omega) (fun h37 => ?_) (fun h37 => ?_)
        · refine g_bipush 43 (nI 48) dMod_deliver_43 rfl ?_
          refine g_iload_n 45 dMod_deliver_45 rfl ?_
          refine g_imulN 46 dMod_deliver_46 ?_
          refine g_aload_n 47 dMod_deliver_47 rfl ?_
          refine g_getr 48 10 1 dMod_deliver_48 fs_Mod_13 rfl hR.1.mod hR.1.R_head ?_
          refine g_iload_n 51 dMod_deliver_51 rfl ?_
          refine g_ialdN 52 dMod_deliver_52 hR.1.T_head (by omega) (by decide) ?_
          refine g_top (nI (hh)) (x3) ?_
          refine g_iaddN 53 dMod_deliver_53 ?_
          refine g_istore_n 54 dMod_deliver_54 (by decide) rfl ?_
          refine g_aload_n 55 dMod_deliver_55 rfl ?_
          refine g_getr 56 10 1 dMod_deliver_56 fs_Mod_13 rfl hR.1.mod hR.1.R_head ?_
          refine g_iload_n 59 dMod_deliver_59 rfl ?_
          refine g_aload_n 60 dMod_deliver_60 rfl ?_
          refine g_getr 61 10 1 dMod_deliver_61 fs_Mod_13 rfl hR.1.mod hR.1.R_head ?_
          refine g_iload_n 64 dMod_deliver_64 rfl ?_
          refine g_ialdN 65 dMod_deliver_65 hR.1.T_head (by omega) (by decide) ?_
          refine g_top (nI (hh)) (x3) ?_
          refine g_iconst 66 (nI 1) dMod_deliver_66 rfl ?_
          refine g_iaddN 67 dMod_deliver_67 ?_
          refine g_bipush 68 (nI 48) dMod_deliver_68 rfl ?_
          refine g_iremN 70 dMod_deliver_70 (by omega) (by decide) (by decide) ?_
          refine g_iastN 71 dMod_deliver_71 hR.1.T_head (by omega) (by decide) ?_
          refine g_aload_n 72 dMod_deliver_72 rfl ?_
          refine g_getr 73 10 2 dMod_deliver_73 fs_Mod_16 rfl hR.1.mod hR.1.R_count ?_
          refine g_iload_n 76 dMod_deliver_76 rfl ?_
          refine g_aload_n 77 dMod_deliver_77 rfl ?_
          refine g_getr 78 10 2 dMod_deliver_78 fs_Mod_16 rfl hR.1.mod hR.1.R_count ?_
          refine g_iload_n 81 dMod_deliver_81 rfl ?_
          refine g_ialdN 82 dMod_deliver_82 hR.1.T_count (by omega) (by decide) ?_
          refine g_top (nI ((L.length + 1))) ((sI_a (by decide)).trans x4') ?_
          refine g_iconst 83 (nI 1) dMod_deliver_83 rfl ?_
          refine g_isubN 84 dMod_deliver_84 (by omega) ?_
          refine g_top (nI (L.length)) (rfl) ?_
          refine g_iastN 85 dMod_deliver_85 hR.1.T_count (by omega) (by decide) ?_
          obtain ⟨hRp, hF⟩ := rr_pop hR he hz x1 x3
          refine g_memF (B := yP A e L) hRp hF (kM (kM hC (by decide)) (by decide)) (fun M1 hR1 hC1 hF1 => ?_)
          refine g_aload_n 86 dMod_deliver_86 rfl ?_
          refine g_getr 87 10 0 dMod_deliver_87 fs_Mod_7 rfl hR1.1.mod hR1.1.R_downs ?_
          refine g_iload_n 90 dMod_deliver_90 rfl ?_
          refine g_ialdN 91 dMod_deliver_91 hR1.1.T_downs (by omega) (by decide) ?_
          refine g_top (zI A (9 + 80 * e) 3) (hR1.dn he) ?_
          refine g_if_eq 92 97 dMod_deliver_92 rfl (fun h92 => ?_) (fun h92 => ?_)
          · refine g_aload_n 97 dMod_deliver_97 rfl ?_
            refine g_getr 98 10 3 dMod_deliver_98 fs_Mod_19 rfl hR1.1.mod hR1.1.R_kinds ?_
            refine g_iload_n 101 dMod_deliver_101 rfl ?_
            refine g_ialdN 102 dMod_deliver_102 hR1.1.T_kinds (by omega) (by decide) ?_
            refine g_top (0) (hF1.1.trans hkd) ?_
            refine g_istore_n 103 dMod_deliver_103 (by decide) rfl ?_
            refine g_iload_n 104 dMod_deliver_104 rfl ?_
            refine g_iconst 105 2 dMod_deliver_105 rfl ?_
            refine g_icmp_ge 106 129 dMod_deliver_106 rfl (fun h106 => ?_) (fun h106 => ?_)
            · exact absurd h106 (by decide)
            · refine g_iload_n 109 dMod_deliver_109 rfl ?_
              refine g_if_ne 110 122 dMod_deliver_110 rfl (fun h110 => ?_) (fun h110 => ?_)
              · exact absurd rfl h110
              · refine g_aload_n 113 dMod_deliver_113 rfl ?_
                refine g_iload_n 114 dMod_deliver_114 rfl ?_
                refine g_iload_n 115 dMod_deliver_115 rfl ?_
                refine g_callV 116 [_, _] dMod_deliver_116 cs_Mod_291 rfl (ci := 10) rfl (by decide) hR1.1.mod rfl ⟨(Nat.le_of_ble_eq_true rfl), (Nat.le_of_ble_eq_true rfl)⟩ (Nat.le_of_ble_eq_true rfl) (hG _ hh hR1 hF1 (by omega)) (Nat.le_of_ble_eq_true rfl) (Nat.le_of_ble_eq_true rfl) ?_
                rintro _ M2 ⟨rfl, hR2, hc⟩
                have hC2 := hC1.tr hc
                refine g_goto 119 128 dMod_deliver_119 rfl ?_
                exact g_iret 128 dMod_deliver_128 rfl ⟨rfl, hR2, hC2⟩
          · exact absurd hd h92
        · exact absurd h40 h37
    · exact absurd h13 (by omega)

set_option maxRecDepth 100000 in
set_option maxHeartbeats 4000000 in
theorem cm_dl_hdr {X : mX} {l : Launch} {M : mM} {A : zA} {e : Nat} (hR : RR M A) (he : e < 2) {f : zF} {L : List zF} (hz : zP A e = f :: L) (hd : zI A (9 + 80 * e) 3 = 0) (h40 : (zP A (1 - e)).length < 40) (hkd : f.1 = 1) {C : zA} {v : Int32} (hG : ∀ (M1 : mM) (hh_ : Nat), RR M1 (yP A e L) → FrR M1 (48 * e + hh_) f → 48 * e + hh_ < 96 → Ct X l uMod_getHeaders (rk 5 122) [.ref 169, .int (nI e), .int (nI (48 * e + hh_))] M1 (fun r M' => r = some (.int v) ∧ RR M' C ∧ Chg M1 M' mP no2)) : Ct X l uMod_deliver (rk 6 146) [.ref 169, .int (nI e)] M (fun r M' => r = some (.int v) ∧ RR M' C ∧ Chg M M' mP no2) := by
  refine Ct.of (by decide) (Nat.le_of_ble_eq_true rfl) ?_
  show G X l uMod_deliver (rk 6 146) 0 0 M 0 [some (.ref 169), some (.int (nI e)), none, none] [] _
  have hC : Chg M M mP no2 := Chg.rf
  obtain ⟨hh, x1, x2, x3, x4, x5⟩ := hR.2.2.2.2.1 e he
  have hpo := hR.pl (e := 1 - e) (by omega)
  have x4' : mI M 172 e = nI (L.length + 1) := x4.trans (by rw [hz]; rfl)
  have hl48 : L.length + 1 < 48 := by rw [hz] at x2; exact x2
  refine g_iload_n 0 dMod_deliver_0 rfl ?_
  refine g_callS 1 [_] dMod_deliver_1 cs_Mod_171 rfl rfl ⟨(Nat.le_of_ble_eq_true rfl), (Nat.le_of_ble_eq_true rfl)⟩ (Nat.le_of_ble_eq_true rfl) (ct_isEnd_y he) (Nat.le_of_ble_eq_true rfl) (Nat.le_of_ble_eq_true rfl) ?_
  rintro _ M2 ⟨rfl, hM2⟩
  rw [hM2]
  clear hM2 M2
  refine g_if_eq 4 16 dMod_deliver_4 rfl (fun h4 => ?_) (fun h4 => ?_)
  · exact absurd h4 (by decide)
  · refine g_aload_n 7 dMod_deliver_7 rfl ?_
    refine g_getr 8 10 2 dMod_deliver_8 fs_Mod_16 rfl hR.1.mod hR.1.R_count ?_
    refine g_iload_n 11 dMod_deliver_11 rfl ?_
    refine g_ialdN 12 dMod_deliver_12 hR.1.T_count (by omega) (by decide) ?_
    refine g_top (nI ((L.length + 1))) (x4') ?_
    refine g_if_neN 13 18 dMod_deliver_13 rfl (by omega) (fun h13 => ?_) (fun h13 => ?_)
    · refine g_aload_n 18 dMod_deliver_18 rfl ?_
      refine g_getr 19 10 0 dMod_deliver_19 fs_Mod_7 rfl hR.1.mod hR.1.R_downs ?_
      refine g_iload_n 22 dMod_deliver_22 rfl ?_
      refine g_ialdN 23 dMod_deliver_23 hR.1.T_downs (by omega) (by decide) ?_
      refine g_top (zI A (9 + 80 * e) 3) (hR.dn he) ?_
      refine g_if_ne 24 43 dMod_deliver_24 rfl (fun h24 => ?_) (fun h24 => ?_)
      · exact absurd hd h24
      · refine g_aload_n 27 dMod_deliver_27 rfl ?_
        refine g_getr 28 10 2 dMod_deliver_28 fs_Mod_16 rfl hR.1.mod hR.1.R_count ?_
        refine g_iconst 31 (nI 1) dMod_deliver_31 rfl ?_
        refine g_iload_n 32 dMod_deliver_32 rfl ?_
        refine g_isubN 33 dMod_deliver_33 (by omega) ?_
        refine g_ialdN 34 dMod_deliver_34 hR.1.T_count (by omega) (by decide) ?_
        refine g_top (nI ((zP A (1 - e)).length)) (hR.pc (e := 1 - e) (by omega)) ?_
        refine g_bipush 35 (nI 40) dMod_deliver_35 rfl ?_
        refine g_icmp_ltN 37 43 dMod_deliver_37 rfl (by omega) (by omega) (fun h37 => ?_) (fun h37 => ?_)
        · refine g_bipush 43 (nI 48) dMod_deliver_43 rfl ?_
          refine g_iload_n 45 dMod_deliver_45 rfl ?_
          refine g_imulN 46 dMod_deliver_46 ?_
          refine g_aload_n 47 dMod_deliver_47 rfl ?_
          refine g_getr 48 10 1 dMod_deliver_48 fs_Mod_13 rfl hR.1.mod hR.1.R_head ?_
          refine g_iload_n 51 dMod_deliver_51 rfl ?_
          refine g_ialdN 52 dMod_deliver_52 hR.1.T_head (by omega) (by decide) ?_
          refine g_top (nI (hh)) (x3) ?_
          refine g_iaddN 53 dMod_deliver_53 ?_
          refine g_istore_n 54 dMod_deliver_54 (by decide) rfl ?_
          refine g_aload_n 55 dMod_deliver_55 rfl ?_
          refine g_getr 56 10 1 dMod_deliver_56 fs_Mod_13 rfl hR.1.mod hR.1.R_head ?_
          refine g_iload_n 59 dMod_deliver_59 rfl ?_
          refine g_aload_n 60 dMod_deliver_60 rfl ?_
          refine g_getr 61 10 1 dMod_deliver_61 fs_Mod_13 rfl hR.1.mod hR.1.R_head ?_
          refine g_iload_n 64 dMod_deliver_64 rfl ?_
          refine g_ialdN 65 dMod_deliver_65 hR.1.T_head (by omega) (by decide) ?_
          refine g_top (nI (hh)) (x3) ?_
          refine g_iconst 66 (nI 1) dMod_deliver_66 rfl ?_
          refine g_iaddN 67 dMod_deliver_67 ?_
          refine g_bipush 68 (nI 48) dMod_deliver_68 rfl ?_
          refine g_iremN 70 dMod_deliver_70 (by omega) (by decide) (by decide) ?_
          refine g_iastN 71 dMod_deliver_71 hR.1.T_head (by omega) (by decide) ?_
          refine g_aload_n 72 dMod_deliver_72 rfl ?_
          refine g_getr 73 10 2 dMod_deliver_73 fs_Mod_16 rfl hR.1.mod hR.1.R_count ?_
          refine g_iload_n 76 dMod_deliver_76 rfl ?_
          refine g_aload_n 77 dMod_deliver_77 rfl ?_
          refine g_getr 78 10 2 dMod_deliver_78 fs_Mod_16 rfl hR.1.mod hR.1.R_count ?_
          refine g_iload_n 81 dMod_deliver_81 rfl ?_
          refine g_ialdN 82 dMod_deliver_82 hR.1.T_count (by omega) (by decide) ?_
          refine g_top (nI ((L.length + 1))) ((sI_a (by decide)).trans x4') ?_
          refine g_iconst 83 (nI 1) dMod_deliver_83 rfl ?_
          refine g_isubN 84 dMod_deliver_84 (by omega) ?_
          refine g_top (nI (L.length)) (rfl) ?_
          refine g_iastN 85 dMod_deliver_85 hR.1.T_count (by omega) (by decide) ?_
          obtain ⟨hRp, hF⟩ := rr_pop hR he hz x1 x3
          refine g_memF (B := yP A e L) hRp hF (kM (kM hC (by decide)) (by decide)) (fun M1 hR1 hC1 hF1 => ?_)
          refine g_aload_n 86 dMod_deliver_86 rfl ?_
          refine g_getr 87 10 0 dMod_deliver_87 fs_Mod_7 rfl hR1.1.mod hR1.1.R_downs ?_
          refine g_iload_n 90 dMod_deliver_90 rfl ?_
          refine g_ialdN 91 dMod_deliver_91 hR1.1.T_downs (by omega) (by decide) ?_
          refine g_top (zI A (9 + 80 * e) 3) (hR1.dn he) ?_
          refine g_if_eq 92 97 dMod_deliver_92 rfl (fun h92 => ?_) (fun h92 => ?_)
          · refine g_aload_n 97 dMod_deliver_97 rfl ?_
            refine g_getr 98 10 3 dMod_deliver_98 fs_Mod_19 rfl hR1.1.mod hR1.1.R_kinds ?_
            refine g_iload_n 101 dMod_deliver_101 rfl ?_
            refine g_ialdN 102 dMod_deliver_102 hR1.1.T_kinds (by omega) (by decide) ?_
            refine g_top (1) (hF1.1.trans hkd) ?_
            refine g_istore_n 103 dMod_deliver_103 (by decide) rfl ?_
            refine g_iload_n 104 dMod_deliver_104 rfl ?_
            refine g_iconst 105 2 dMod_deliver_105 rfl ?_
            refine g_icmp_ge 106 129 dMod_deliver_106 rfl (fun h106 => ?_) (fun h106 => ?_)
            · exact absurd h106 (by decide)
            · refine g_iload_n 109 dMod_deliver_109 rfl ?_
              refine g_if_ne 110 122 dMod_deliver_110 rfl (fun h110 => ?_) (fun h110 => ?_)
              · refine g_aload_n 122 dMod_deliver_122 rfl ?_
                refine g_iload_n 123 dMod_deliver_123 rfl ?_
                refine g_iload_n 124 dMod_deliver_124 rfl ?_
                refine g_callV 125 [_, _] dMod_deliver_125 cs_Mod_294 rfl (ci := 10) rfl (by decide) hR1.1.mod rfl ⟨(Nat.le_of_ble_eq_true rfl), (Nat.le_of_ble_eq_true rfl)⟩ (Nat.le_of_ble_eq_true rfl) (hG _ hh hR1 hF1 (by omega)) (Nat.le_of_ble_eq_true rfl) (Nat.le_of_ble_eq_true rfl) ?_
                rintro _ M2 ⟨rfl, hR2, hc⟩
                have hC2 := hC1.tr hc
                exact g_iret 128 dMod_deliver_128 rfl ⟨rfl, hR2, hC2⟩
              · exact absurd h110 (by decide)
          · exact absurd hd h92
        · exact absurd h40 h37
    · exact absurd h13 (by omega)

set_option maxRecDepth 100000 in
set_option maxHeartbeats 4000000 in
theorem cm_dl_rst {X : mX} {l : Launch} {M : mM} {A : zA} {e : Nat} (hR : RR M A) (he : e < 2) {f : zF} {L : List zF} (hz : zP A e = f :: L) (hd : zI A (9 + 80 * e) 3 = 0) (h40 : (zP A (1 - e)).length < 40) (hkd : f.1 = 3) {C : zA} {v : Int32} (hG : ∀ (M1 : mM) (hh_ : Nat), RR M1 (yP A e L) → FrR M1 (48 * e + hh_) f → 48 * e + hh_ < 96 → Ct X l uMod_getReset (rk 2 49) [.ref 169, .int (nI e), .int f.2.1] M1 (fun r M' => r = some (.int v) ∧ RR M' C ∧ Chg M1 M' mP no2)) : Ct X l uMod_deliver (rk 6 146) [.ref 169, .int (nI e)] M (fun r M' => r = some (.int v) ∧ RR M' C ∧ Chg M M' mP no2) := by
  refine Ct.of (by decide) (Nat.le_of_ble_eq_true rfl) ?_
  show G X l uMod_deliver (rk 6 146) 0 0 M 0 [some (.ref 169), some (.int (nI e)), none, none] [] _
  have hC : Chg M M mP no2 := Chg.rf
  obtain ⟨hh, x1, x2, x3, x4, x5⟩ := hR.2.2.2.2.1 e he
  have hpo := hR.pl (e := 1 - e) (by omega)
  have x4' : mI M 172 e = nI (L.length + 1) := x4.trans (by rw [hz]; rfl)
  have hl48 : L.length + 1 < 48 := by rw [hz] at x2; exact x2
  refine g_iload_n 0 dMod_deliver_0 rfl ?_
  refine g_callS 1 [_] dMod_deliver_1 cs_Mod_171 rfl rfl ⟨(Nat.le_of_ble_eq_true rfl), (Nat.le_of_ble_eq_true rfl)⟩ (Nat.le_of_ble_eq_true rfl) (ct_isEnd_y he) (Nat.le_of_ble_eq_true rfl) (Nat.le_of_ble_eq_true rfl) ?_
  rintro _ M2 ⟨rfl, hM2⟩
  rw [hM2]
  clear hM2 M2
  refine g_if_eq 4 16 dMod_deliver_4 rfl (fun h4 => ?_) (fun h4 => ?_)
  · exact absurd h4 (by decide)
  · refine g_aload_n 7 dMod_deliver_7 rfl ?_
    refine g_getr 8 10 2 dMod_deliver_8 fs_Mod_16 rfl hR.1.mod hR.1.R_count ?_
    refine g_iload_n 11 dMod_deliver_11 rfl ?_
    refine g_ialdN 12 dMod_deliver_12 hR.1.T_count (by omega) (by decide) ?_
    refine g_top (nI ((L.length + 1))) (x4') ?_
    refine g_if_neN 13 18 dMod_deliver_13 rfl (by omega) (fun h13 => ?_) (fun h13 => ?_)
    · refine g_aload_n 18 dMod_deliver_18 rfl ?_
      refine g_getr 19 10 0 dMod_deliver_19 fs_Mod_7 rfl hR.1.mod hR.1.R_downs ?_
      refine g_iload_n 22 dMod_deliver_22 rfl ?_
      refine g_ialdN 23 dMod_deliver_23 hR.1.T_downs (by omega) (by decide) ?_
      refine g_top (zI A (9 + 80 * e) 3) (hR.dn he) ?_
      refine g_if_ne 24 43 dMod_deliver_24 rfl (fun h24 => ?_) (fun h24 => ?_)
      · exact absurd hd h24
      · refine g_aload_n 27 dMod_deliver_27 rfl ?_
        refine g_getr 28 10 2 dMod_deliver_28 fs_Mod_16 rfl hR.1.mod hR.1.R_count ?_
        refine g_iconst 31 (nI 1) dMod_deliver_31 rfl ?_
        refine g_iload_n 32 dMod_deliver_32 rfl ?_
        refine g_isubN 33 dMod_deliver_33 (by omega) ?_
        refine g_ialdN 34 dMod_deliver_34 hR.1.T_count (by omega) (by decide) ?_
        refine g_top (nI ((zP A (1 - e)).length)) (hR.pc (e := 1 - e) (by omega)) ?_
        refine g_bipush 35 (nI 40) dMod_deliver_35 rfl ?_
        refine g_icmp_ltN 37 43 dMod_deliver_37 rfl (by omega) (by omega) (fun h37 => ?_) (fun h37 => ?_)
        · refine g_bipush 43 (nI 48) dMod_deliver_43 rfl ?_
          refine g_iload_n 45 dMod_deliver_45 rfl ?_
          refine g_imulN 46 dMod_deliver_46 ?_
          refine g_aload_n 47 dMod_deliver_47 rfl ?_
          refine g_getr 48 10 1 dMod_deliver_48 fs_Mod_13 rfl hR.1.mod hR.1.R_head ?_
          refine g_iload_n 51 dMod_deliver_51 rfl ?_
          refine g_ialdN 52 dMod_deliver_52 hR.1.T_head (by omega) (by decide) ?_
          refine g_top (nI (hh)) (x3) ?_
          refine g_iaddN 53 dMod_deliver_53 ?_
          refine g_istore_n 54 dMod_deliver_54 (by decide) rfl ?_
          refine g_aload_n 55 dMod_deliver_55 rfl ?_
          refine g_getr 56 10 1 dMod_deliver_56 fs_Mod_13 rfl hR.1.mod hR.1.R_head ?_
          refine g_iload_n 59 dMod_deliver_59 rfl ?_
          refine g_aload_n 60 dMod_deliver_60 rfl ?_
          refine g_getr 61 10 1 dMod_deliver_61 fs_Mod_13 rfl hR.1.mod hR.1.R_head ?_
          refine g_iload_n 64 dMod_deliver_64 rfl ?_
          refine g_ialdN 65 dMod_deliver_65 hR.1.T_head (by omega) (by decide) ?_
          refine g_top (nI (hh)) (x3) ?_
          refine g_iconst 66 (nI 1) dMod_deliver_66 rfl ?_
          refine g_iaddN 67 dMod_deliver_67 ?_
          refine g_bipush 68 (nI 48) dMod_deliver_68 rfl ?_
          refine g_iremN 70 dMod_deliver_70 (by omega) (by decide) (by decide) ?_
          refine g_iastN 71 dMod_deliver_71 hR.1.T_head (by omega) (by decide) ?_
          refine g_aload_n 72 dMod_deliver_72 rfl ?_
          refine g_getr 73 10 2 dMod_deliver_73 fs_Mod_16 rfl hR.1.mod hR.1.R_count ?_
          refine g_iload_n 76 dMod_deliver_76 rfl ?_
          refine g_aload_n 77 dMod_deliver_77 rfl ?_
          refine g_getr 78 10 2 dMod_deliver_78 fs_Mod_16 rfl hR.1.mod hR.1.R_count ?_
          refine g_iload_n 81 dMod_deliver_81 rfl ?_
          refine g_ialdN 82 dMod_deliver_82 hR.1.T_count (by omega) (by decide) ?_
          refine g_top (nI ((L.length + 1))) ((sI_a (by decide)).trans x4') ?_
          refine g_iconst 83 (nI 1) dMod_deliver_83 rfl ?_
          refine g_isubN 84 dMod_deliver_84 (by omega) ?_
          refine g_top (nI (L.length)) (rfl) ?_
          refine g_iastN 85 dMod_deliver_85 hR.1.T_count (by omega) (by decide) ?_
          obtain ⟨hRp, hF⟩ := rr_pop hR he hz x1 x3
          refine g_memF (B := yP A e L) hRp hF (kM (kM hC (by decide)) (by decide)) (fun M1 hR1 hC1 hF1 => ?_)
          refine g_aload_n 86 dMod_deliver_86 rfl ?_
          refine g_getr 87 10 0 dMod_deliver_87 fs_Mod_7 rfl hR1.1.mod hR1.1.R_downs ?_
          refine g_iload_n 90 dMod_deliver_90 rfl ?_
          refine g_ialdN 91 dMod_deliver_91 hR1.1.T_downs (by omega) (by decide) ?_
          refine g_top (zI A (9 + 80 * e) 3) (hR1.dn he) ?_
          refine g_if_eq 92 97 dMod_deliver_92 rfl (fun h92 => ?_) (fun h92 => ?_)
          · refine g_aload_n 97 dMod_deliver_97 rfl ?_
            refine g_getr 98 10 3 dMod_deliver_98 fs_Mod_19 rfl hR1.1.mod hR1.1.R_kinds ?_
            refine g_iload_n 101 dMod_deliver_101 rfl ?_
            refine g_ialdN 102 dMod_deliver_102 hR1.1.T_kinds (by omega) (by decide) ?_
            refine g_top (3) (hF1.1.trans hkd) ?_
            refine g_istore_n 103 dMod_deliver_103 (by decide) rfl ?_
            refine g_iload_n 104 dMod_deliver_104 rfl ?_
            refine g_iconst 105 2 dMod_deliver_105 rfl ?_
            refine g_icmp_ge 106 129 dMod_deliver_106 rfl (fun h106 => ?_) (fun h106 => ?_)
            · refine g_iload_n 129 dMod_deliver_129 rfl ?_
              refine g_iconst 130 3 dMod_deliver_130 rfl ?_
              refine g_icmp_ne 131 146 dMod_deliver_131 rfl (fun h131 => ?_) (fun h131 => ?_)
              · exact absurd (by decide) h131
              · refine g_aload_n 134 dMod_deliver_134 rfl ?_
                refine g_iload_n 135 dMod_deliver_135 rfl ?_
                refine g_aload_n 136 dMod_deliver_136 rfl ?_
                refine g_getr 137 10 4 dMod_deliver_137 fs_Mod_22 rfl hR1.1.mod hR1.1.R_streams ?_
                refine g_iload_n 140 dMod_deliver_140 rfl ?_
                refine g_ialdN 141 dMod_deliver_141 hR1.1.T_streams (by omega) (by decide) ?_
                refine g_top (f.2.1) (hF1.2.1) ?_
                refine g_callV 142 [_, _] dMod_deliver_142 cs_Mod_297 rfl (ci := 10) rfl (by decide) hR1.1.mod rfl ⟨(Nat.le_of_ble_eq_true rfl), (Nat.le_of_ble_eq_true rfl)⟩ (Nat.le_of_ble_eq_true rfl) (hG _ hh hR1 hF1 (by omega)) (Nat.le_of_ble_eq_true rfl) (Nat.le_of_ble_eq_true rfl) ?_
                rintro _ M2 ⟨rfl, hR2, hc⟩
                have hC2 := hC1.tr hc
                exact g_iret 145 dMod_deliver_145 rfl ⟨rfl, hR2, hC2⟩
            · exact absurd (by decide) h106
          · exact absurd hd h92
        · exact absurd h40 h37
    · exact absurd h13 (by omega)

set_option maxRecDepth 100000 in
set_option maxHeartbeats 4000000 in
theorem cm_dl_ack {X : mX} {l : Launch} {M : mM} {A : zA} {e : Nat} (hR : RR M A) (he : e < 2) {f : zF} {L : List zF} (hz : zP A e = f :: L) (hd : zI A (9 + 80 * e) 3 = 0) (h40 : (zP A (1 - e)).length < 40) (hkd : f.1 = 4) (hfl : ¬ f.2.2.2.1 = 0) {C : zA} {v : Int32} (hG : ∀ (M1 : mM) (hh_ : Nat), RR M1 (yP A e L) → FrR M1 (48 * e + hh_) f → 48 * e + hh_ < 96 → Ct X l uMod_getAck (rk 2 48) [.ref 169, .int (nI e)] M1 (fun r M' => r = some (.int v) ∧ RR M' C ∧ Chg M1 M' mP no2)) : Ct X l uMod_deliver (rk 6 146) [.ref 169, .int (nI e)] M (fun r M' => r = some (.int v) ∧ RR M' C ∧ Chg M M' mP no2) := by
  refine Ct.of (by decide) (Nat.le_of_ble_eq_true rfl) ?_
  show G X l uMod_deliver (rk 6 146) 0 0 M 0 [some (.ref 169), some (.int (nI e)), none, none] [] _
  have hC : Chg M M mP no2 := Chg.rf
  obtain ⟨hh, x1, x2, x3, x4, x5⟩ := hR.2.2.2.2.1 e he
  have hpo := hR.pl (e := 1 - e) (by omega)
  have x4' : mI M 172 e = nI (L.length + 1) := x4.trans (by rw [hz]; rfl)
  have hl48 : L.length + 1 < 48 := by rw [hz] at x2; exact x2
  refine g_iload_n 0 dMod_deliver_0 rfl ?_
  refine g_callS 1 [_] dMod_deliver_1 cs_Mod_171 rfl rfl ⟨(Nat.le_of_ble_eq_true rfl), (Nat.le_of_ble_eq_true rfl)⟩ (Nat.le_of_ble_eq_true rfl) (ct_isEnd_y he) (Nat.le_of_ble_eq_true rfl) (Nat.le_of_ble_eq_true rfl) ?_
  rintro _ M2 ⟨rfl, hM2⟩
  rw [hM2]
  clear hM2 M2
  refine g_if_eq 4 16 dMod_deliver_4 rfl (fun h4 => ?_) (fun h4 => ?_)
  · exact absurd h4 (by decide)
  · refine g_aload_n 7 dMod_deliver_7 rfl ?_
    refine g_getr 8 10 2 dMod_deliver_8 fs_Mod_16 rfl hR.1.mod hR.1.R_count ?_
    refine g_iload_n 11 dMod_deliver_11 rfl ?_
    refine g_ialdN 12 dMod_deliver_12 hR.1.T_count (by omega) (by decide) ?_
    refine g_top (nI ((L.length + 1))) (x4') ?_
    refine g_if_neN 13 18 dMod_deliver_13 rfl (by omega) (fun h13 => ?_) (fun h13 => ?_)
    · refine g_aload_n 18 dMod_deliver_18 rfl ?_
      refine g_getr 19 10 0 dMod_deliver_19 fs_Mod_7 rfl hR.1.mod hR.1.R_downs ?_
      refine g_iload_n 22 dMod_deliver_22 rfl ?_
      refine g_ialdN 23 dMod_deliver_23 hR.1.T_downs (by omega) (by decide) ?_
      refine g_top (zI A (9 + 80 * e) 3) (hR.dn he) ?_
      refine g_if_ne 24 43 dMod_deliver_24 rfl (fun h24 => ?_) (fun h24 => ?_)
      · exact absurd hd h24
      · refine g_aload_n 27 dMod_deliver_27 rfl ?_
        refine g_getr 28 10 2 dMod_deliver_28 fs_Mod_16 rfl hR.1.mod hR.1.R_count ?_
        refine g_iconst 31 (nI 1) dMod_deliver_31 rfl ?_
        refine g_iload_n 32 dMod_deliver_32 rfl ?_
        refine g_isubN 33 dMod_deliver_33 (by omega) ?_
        refine g_ialdN 34 dMod_deliver_34 hR.1.T_count (by omega) (by decide) ?_
        refine g_top (nI ((zP A (1 - e)).length)) (hR.pc (e := 1 - e) (by omega)) ?_
        refine g_bipush 35 (nI 40) dMod_deliver_35 rfl ?_
        refine g_icmp_ltN 37 43 dMod_deliver_37 rfl (by omega) (by omega) (fun h37 => ?_) (fun h37 => ?_)
        · refine g_bipush 43 (nI 48) dMod_deliver_43 rfl ?_
          refine g_iload_n 45 dMod_deliver_45 rfl ?_
          refine g_imulN 46 dMod_deliver_46 ?_
          refine g_aload_n 47 dMod_deliver_47 rfl ?_
          refine g_getr 48 10 1 dMod_deliver_48 fs_Mod_13 rfl hR.1.mod hR.1.R_head ?_
          refine g_iload_n 51 dMod_deliver_51 rfl ?_
          refine g_ialdN 52 dMod_deliver_52 hR.1.T_head (by omega) (by decide) ?_
          refine g_top (nI (hh)) (x3) ?_
          refine g_iaddN 53 dMod_deliver_53 ?_
          refine g_istore_n 54 dMod_deliver_54 (by decide) rfl ?_
          refine g_aload_n 55 dMod_deliver_55 rfl ?_
          refine g_getr 56 10 1 dMod_deliver_56 fs_Mod_13 rfl hR.1.mod hR.1.R_head ?_
          refine g_iload_n 59 dMod_deliver_59 rfl ?_
          refine g_aload_n 60 dMod_deliver_60 rfl ?_
          refine g_getr 61 10 1 dMod_deliver_61 fs_Mod_13 rfl hR.1.mod hR.1.R_head ?_
          refine g_iload_n 64 dMod_deliver_64 rfl ?_
          refine g_ialdN 65 dMod_deliver_65 hR.1.T_head (by omega) (by decide) ?_
          refine g_top (nI (hh)) (x3) ?_
          refine g_iconst 66 (nI 1) dMod_deliver_66 rfl ?_
          refine g_iaddN 67 dMod_deliver_67 ?_
          refine g_bipush 68 (nI 48) dMod_deliver_68 rfl ?_
          refine g_iremN 70 dMod_deliver_70 (by omega) (by decide) (by decide) ?_
          refine g_iastN 71 dMod_deliver_71 hR.1.T_head (by omega) (by decide) ?_
          refine g_aload_n 72 dMod_deliver_72 rfl ?_
          refine g_getr 73 10 2 dMod_deliver_73 fs_Mod_16 rfl hR.1.mod hR.1.R_count ?_
          refine g_iload_n 76 dMod_deliver_76 rfl ?_
          refine g_aload_n 77 dMod_deliver_77 rfl ?_
          refine g_getr 78 10 2 dMod_deliver_78 fs_Mod_16 rfl hR.1.mod hR.1.R_count ?_
          refine g_iload_n 81 dMod_deliver_81 rfl ?_
          refine g_ialdN 82 dMod_deliver_82 hR.1.T_count (by omega) (by decide) ?_
          refine g_top (nI ((L.length + 1))) ((sI_a (by decide)).trans x4') ?_
          refine g_iconst 83 (nI 1) dMod_deliver_83 rfl ?_
          refine g_isubN 84 dMod_deliver_84 (by omega) ?_
          refine g_top (nI (L.length)) (rfl) ?_
          refine g_iastN 85 dMod_deliver_85 hR.1.T_count (by omega) (by decide) ?_
          obtain ⟨hRp, hF⟩ := rr_pop hR he hz x1 x3
          refine g_memF (B := yP A e L) hRp hF (kM (kM hC (by decide)) (by decide)) (fun M1 hR1 hC1 hF1 => ?_)
          refine g_aload_n 86 dMod_deliver_86 rfl ?_
          refine g_getr 87 10 0 dMod_deliver_87 fs_Mod_7 rfl hR1.1.mod hR1.1.R_downs ?_
          refine g_iload_n 90 dMod_deliver_90 rfl ?_
          refine g_ialdN 91 dMod_deliver_91 hR1.1.T_downs (by omega) (by decide) ?_
          refine g_top (zI A (9 + 80 * e) 3) (hR1.dn he) ?_
          refine g_if_eq 92 97 dMod_deliver_92 rfl (fun h92 => ?_) (fun h92 => ?_)
          · refine g_aload_n 97 dMod_deliver_97 rfl ?_
            refine g_getr 98 10 3 dMod_deliver_98 fs_Mod_19 rfl hR1.1.mod hR1.1.R_kinds ?_
            refine g_iload_n 101 dMod_deliver_101 rfl ?_
            refine g_ialdN 102 dMod_deliver_102 hR1.1.T_kinds (by omega) (by decide) ?_
            refine g_top (4) (hF1.1.trans hkd) ?_
            refine g_istore_n 103 dMod_deliver_103 (by decide) rfl ?_
            refine g_iload_n 104 dMod_deliver_104 rfl ?_
            refine g_iconst 105 2 dMod_deliver_105 rfl ?_
            refine g_icmp_ge 106 129 dMod_deliver_106 rfl (fun h106 => ?_) (fun h106 => ?_)
            · refine g_iload_n 129 dMod_deliver_129 rfl ?_
              refine g_iconst 130 3 dMod_deliver_130 rfl ?_
              refine g_icmp_ne 131 146 dMod_deliver_131 rfl (fun h131 => ?_) (fun h131 => ?_)
              · refine g_iload_n 146 dMod_deliver_146 rfl ?_
                refine g_iconst 147 4 dMod_deliver_147 rfl ?_
                refine g_icmp_ne 148 186 dMod_deliver_148 rfl (fun h148 => ?_) (fun h148 => ?_)
                · exact absurd (by decide) h148
                · refine g_aload_n 151 dMod_deliver_151 rfl ?_
                  refine g_getr 152 10 6 dMod_deliver_152 fs_Mod_28 rfl hR1.1.mod hR1.1.R_flags ?_
                  refine g_iload_n 155 dMod_deliver_155 rfl ?_
                  refine g_zaldN 156 dMod_deliver_156 hR1.1.T_flags (by omega) (by decide) ?_
                  refine g_top (f.2.2.2.1) (hF1.2.2.2.1) ?_
                  refine g_if_eq 157 168 dMod_deliver_157 rfl (fun h157 => ?_) (fun h157 => ?_)
                  · exact absurd h157 hfl
                  · refine g_aload_n 160 dMod_deliver_160 rfl ?_
                    refine g_iload_n 161 dMod_deliver_161 rfl ?_
                    refine g_callV 162 [_] dMod_deliver_162 cs_Mod_300 rfl (ci := 10) rfl (by decide) hR1.1.mod rfl ⟨(Nat.le_of_ble_eq_true rfl), (Nat.le_of_ble_eq_true rfl)⟩ (Nat.le_of_ble_eq_true rfl) (hG _ hh hR1 hF1 (by omega)) (Nat.le_of_ble_eq_true rfl) (Nat.le_of_ble_eq_true rfl) ?_
                    rintro _ M2 ⟨rfl, hR2, hc⟩
                    have hC2 := hC1.tr hc
                    refine g_goto 165 185 dMod_deliver_165 rfl ?_
                    exact g_iret 185 dMod_deliver_185 rfl ⟨rfl, hR2, hC2⟩
              · exact absurd h131 (by decide)
            · exact absurd (by decide) h106
          · exact absurd hd h92
        · exact absurd h40 h37
    · exact absurd h13 (by omega)

set_option maxRecDepth 100000 in
set_option maxHeartbeats 4000000 in
theorem cm_dl_set {X : mX} {l : Launch} {M : mM} {A : zA} {e : Nat} (hR : RR M A) (he : e < 2) {f : zF} {L : List zF} (hz : zP A e = f :: L) (hd : zI A (9 + 80 * e) 3 = 0) (h40 : (zP A (1 - e)).length < 40) (hkd : f.1 = 4) (hfl : f.2.2.2.1 = 0) {C : zA} {v : Int32} (hG : ∀ (M1 : mM) (hh_ : Nat), RR M1 (yP A e L) → FrR M1 (48 * e + hh_) f → 48 * e + hh_ < 96 → Ct X l uMod_getSetting (rk 2 48) [.ref 169, .int (nI e), .int f.2.2.2.2.1, .int f.2.2.1] M1 (fun r M' => r = some (.int v) ∧ RR M' C ∧ Chg M1 M' mP no2)) : Ct X l uMod_deliver (rk 6 146) [.ref 169, .int (nI e)] M (fun r M' => r = some (.int v) ∧ RR M' C ∧ Chg M M' mP no2) := by
  refine Ct.of (by decide) (Nat.le_of_ble_eq_true rfl) ?_
  show G X l uMod_deliver (rk 6 146) 0 0 M 0 [some (.ref 169), some (.int (nI e)), none, none] [] _
  have hC : Chg M M mP no2 := Chg.rf
  obtain ⟨hh, x1, x2, x3, x4, x5⟩ := hR.2.2.2.2.1 e he
  have hpo := hR.pl (e := 1 - e) (by omega)
  have x4' : mI M 172 e = nI (L.length + 1) := x4.trans (by rw [hz]; rfl)
  have hl48 : L.length + 1 < 48 := by rw [hz] at x2; exact x2
  refine g_iload_n 0 dMod_deliver_0 rfl ?_
  refine g_callS 1 [_] dMod_deliver_1 cs_Mod_171 rfl rfl ⟨(Nat.le_of_ble_eq_true rfl), (Nat.le_of_ble_eq_true rfl)⟩ (Nat.le_of_ble_eq_true rfl) (ct_isEnd_y he) (Nat.le_of_ble_eq_true rfl) (Nat.le_of_ble_eq_true rfl) ?_
  rintro _ M2 ⟨rfl, hM2⟩
  rw [hM2]
  clear hM2 M2
  refine g_if_eq 4 16 dMod_deliver_4 rfl (fun h4 => ?_) (fun h4 => ?_)
  · exact absurd h4 (by decide)
  · refine g_aload_n 7 dMod_deliver_7 rfl ?_
    refine g_getr 8 10 2 dMod_deliver_8 fs_Mod_16 rfl hR.1.mod hR.1.R_count ?_
    refine g_iload_n 11 dMod_deliver_11 rfl ?_
    refine g_ialdN 12 dMod_deliver_12 hR.1.T_count (by omega) (by decide) ?_
    refine g_top (nI ((L.length + 1))) (x4') ?_
    refine g_if_neN 13 18 dMod_deliver_13 rfl (by omega) (fun h13 => ?_) (fun h13 => ?_)
    · refine g_aload_n 18 dMod_deliver_18 rfl ?_
      refine g_getr 19 10 0 dMod_deliver_19 fs_Mod_7 rfl hR.1.mod hR.1.R_downs ?_
      refine g_iload_n 22 dMod_deliver_22 rfl ?_
      refine g_ialdN 23 dMod_deliver_23 hR.1.T_downs (by omega) (by decide) ?_
      refine g_top (zI A (9 + 80 * e) 3) (hR.dn he) ?_
      refine g_if_ne 24 43 dMod_deliver_24 rfl (fun h24 => ?_) (fun h24 => ?_)
      · exact absurd hd h24
      · refine g_aload_n 27 dMod_deliver_27 rfl ?_
        refine g_getr 28 10 2 dMod_deliver_28 fs_Mod_16 rfl hR.1.mod hR.1.R_count ?_
        refine g_iconst 31 (nI 1) dMod_deliver_31 rfl ?_
        refine g_iload_n 32 dMod_deliver_32 rfl ?_
        refine g_isubN 33 dMod_deliver_33 (by omega) ?_
        refine g_ialdN 34 dMod_deliver_34 hR.1.T_count (by omega) (by decide) ?_
        refine g_top (nI ((zP A (1 - e)).length)) (hR.pc (e := 1 - e) (by omega)) ?_
        refine g_bipush 35 (nI 40) dMod_deliver_35 rfl ?_
        refine g_icmp_ltN 37 43 dMod_deliver_37 rfl (by omega) (by omega) (fun h37 => ?_) (fun h37 => ?_)
        · refine g_bipush 43 (nI 48) dMod_deliver_43 rfl ?_
          refine g_iload_n 45 dMod_deliver_45 rfl ?_
          refine g_imulN 46 dMod_deliver_46 ?_
          refine g_aload_n 47 dMod_deliver_47 rfl ?_
          refine g_getr 48 10 1 dMod_deliver_48 fs_Mod_13 rfl hR.1.mod hR.1.R_head ?_
          refine g_iload_n 51 dMod_deliver_51 rfl ?_
          refine g_ialdN 52 dMod_deliver_52 hR.1.T_head (by omega) (by decide) ?_
          refine g_top (nI (hh)) (x3) ?_
          refine g_iaddN 53 dMod_deliver_53 ?_
          refine g_istore_n 54 dMod_deliver_54 (by decide) rfl ?_
          refine g_aload_n 55 dMod_deliver_55 rfl ?_
          refine g_getr 56 10 1 dMod_deliver_56 fs_Mod_13 rfl hR.1.mod hR.1.R_head ?_
          refine g_iload_n 59 dMod_deliver_59 rfl ?_
          refine g_aload_n 60 dMod_deliver_60 rfl ?_
          refine g_getr 61 10 1 dMod_deliver_61 fs_Mod_13 rfl hR.1.mod hR.1.R_head ?_
          refine g_iload_n 64 dMod_deliver_64 rfl ?_
          refine g_ialdN 65 dMod_deliver_65 hR.1.T_head (by omega) (by decide) ?_
          refine g_top (nI (hh)) (x3) ?_
          refine g_iconst 66 (nI 1) dMod_deliver_66 rfl ?_
          refine g_iaddN 67 dMod_deliver_67 ?_
          refine g_bipush 68 (nI 48) dMod_deliver_68 rfl ?_
          refine g_iremN 70 dMod_deliver_70 (by omega) (by decide) (by decide) ?_
          refine g_iastN 71 dMod_deliver_71 hR.1.T_head (by omega) (by decide) ?_
          refine g_aload_n 72 dMod_deliver_72 rfl ?_
          refine g_getr 73 10 2 dMod_deliver_73 fs_Mod_16 rfl hR.1.mod hR.1.R_count ?_
          refine g_iload_n 76 dMod_deliver_76 rfl ?_
          refine g_aload_n 77 dMod_deliver_77 rfl ?_
          refine g_getr 78 10 2 dMod_deliver_78 fs_Mod_16 rfl hR.1.mod hR.1.R_count ?_
          refine g_iload_n 81 dMod_deliver_81 rfl ?_
          refine g_ialdN 82 dMod_deliver_82 hR.1.T_count (by omega) (by decide) ?_
          refine g_top (nI ((L.length + 1))) ((sI_a (by decide)).trans x4') ?_
          refine g_iconst 83 (nI 1) dMod_deliver_83 rfl ?_
          refine g_isubN 84 dMod_deliver_84 (by omega) ?_
          refine g_top (nI (L.length)) (rfl) ?_
          refine g_iastN 85 dMod_deliver_85 hR.1.T_count (by omega) (by decide) ?_
          obtain ⟨hRp, hF⟩ := rr_pop hR he hz x1 x3
          refine g_memF (B := yP A e L) hRp hF (kM (kM hC (by decide)) (by decide)) (fun M1 hR1 hC1 hF1 => ?_)
          refine g_aload_n 86 dMod_deliver_86 rfl ?_
          refine g_getr 87 10 0 dMod_deliver_87 fs_Mod_7 rfl hR1.1.mod hR1.1.R_downs ?_
          refine g_iload_n 90 dMod_deliver_90 rfl ?_
          refine g_ialdN 91 dMod_deliver_91 hR1.1.T_downs (by omega) (by decide) ?_
          refine g_top (zI A (9 + 80 * e) 3) (hR1.dn he) ?_
          refine g_if_eq 92 97 dMod_deliver_92 rfl (fun h92 => ?_) (fun h92 => ?_)
          · refine g_aload_n 97 dMod_deliver_97 rfl ?_
            refine g_getr 98 10 3 dMod_deliver_98 fs_Mod_19 rfl hR1.1.mod hR1.1.R_kinds ?_
            refine g_iload_n 101 dMod_deliver_101 rfl ?_
            refine g_ialdN 102 dMod_deliver_102 hR1.1.T_kinds (by omega) (by decide) ?_
            refine g_top (4) (hF1.1.trans hkd) ?_
            refine g_istore_n 103 dMod_deliver_103 (by decide) rfl ?_
            refine g_iload_n 104 dMod_deliver_104 rfl ?_
            refine g_iconst 105 2 dMod_deliver_105 rfl ?_
            refine g_icmp_ge 106 129 dMod_deliver_106 rfl (fun h106 => ?_) (fun h106 => ?_)
            · refine g_iload_n 129 dMod_deliver_129 rfl ?_
              refine g_iconst 130 3 dMod_deliver_130 rfl ?_
              refine g_icmp_ne 131 146 dMod_deliver_131 rfl (fun h131 => ?_) (fun h131 => ?_)
              · refine g_iload_n 146 dMod_deliver_146 rfl ?_
                refine g_iconst 147 4 dMod_deliver_147 rfl ?_
                refine g_icmp_ne 148 186 dMod_deliver_148 rfl (fun h148 => ?_) (fun h148 => ?_)
                · exact absurd (by decide) h148
                · refine g_aload_n 151 dMod_deliver_151 rfl ?_
                  refine g_getr 152 10 6 dMod_deliver_152 fs_Mod_28 rfl hR1.1.mod hR1.1.R_flags ?_
                  refine g_iload_n 155 dMod_deliver_155 rfl ?_
                  refine g_zaldN 156 dMod_deliver_156 hR1.1.T_flags (by omega) (by decide) ?_
                  refine g_top (f.2.2.2.1) (hF1.2.2.2.1) ?_
                  refine g_if_eq 157 168 dMod_deliver_157 rfl (fun h157 => ?_) (fun h157 => ?_)
                  · refine g_aload_n 168 dMod_deliver_168 rfl ?_
                    refine g_iload_n 169 dMod_deliver_169 rfl ?_
                    refine g_aload_n 170 dMod_deliver_170 rfl ?_
                    refine g_getr 171 10 7 dMod_deliver_171 fs_Mod_32 rfl hR1.1.mod hR1.1.R_settings ?_
                    refine g_iload_n 174 dMod_deliver_174 rfl ?_
                    refine g_ialdN 175 dMod_deliver_175 hR1.1.T_settings (by omega) (by decide) ?_
                    refine g_top (f.2.2.2.2.1) (hF1.2.2.2.2.1 (by rw [hkd]; decide)) ?_
                    refine g_aload_n 176 dMod_deliver_176 rfl ?_
                    refine g_getr 177 10 5 dMod_deliver_177 fs_Mod_25 rfl hR1.1.mod hR1.1.R_amounts ?_
                    refine g_iload_n 180 dMod_deliver_180 rfl ?_
                    refine g_ialdN 181 dMod_deliver_181 hR1.1.T_amounts (by omega) (by decide) ?_
                    refine g_top (f.2.2.1) (hF1.2.2.1) ?_
                    refine g_callV 182 [_, _, _] dMod_deliver_182 cs_Mod_303 rfl (ci := 10) rfl (by decide) hR1.1.mod rfl ⟨(Nat.le_of_ble_eq_true rfl), (Nat.le_of_ble_eq_true rfl)⟩ (Nat.le_of_ble_eq_true rfl) (hG _ hh hR1 hF1 (by omega)) (Nat.le_of_ble_eq_true rfl) (Nat.le_of_ble_eq_true rfl) ?_
                    rintro _ M2 ⟨rfl, hR2, hc⟩
                    have hC2 := hC1.tr hc
                    exact g_iret 185 dMod_deliver_185 rfl ⟨rfl, hR2, hC2⟩
                  · exact absurd hfl h157
              · exact absurd h131 (by decide)
            · exact absurd (by decide) h106
          · exact absurd hd h92
        · exact absurd h40 h37
    · exact absurd h13 (by omega)

set_option maxRecDepth 100000 in
set_option maxHeartbeats 4000000 in
theorem cm_dl_win {X : mX} {l : Launch} {M : mM} {A : zA} {e : Nat} (hR : RR M A) (he : e < 2) {f : zF} {L : List zF} (hz : zP A e = f :: L) (hd : zI A (9 + 80 * e) 3 = 0) (h40 : (zP A (1 - e)).length < 40) (hkd : f.1 = 8) {C : zA} {v : Int32} (hG : ∀ (M1 : mM) (hh_ : Nat), RR M1 (yP A e L) → FrR M1 (48 * e + hh_) f → 48 * e + hh_ < 96 → Ct X l uMod_getWindow (rk 3 74) [.ref 169, .int (nI e), .int f.2.1, .int f.2.2.1] M1 (fun r M' => r = some (.int v) ∧ RR M' C ∧ Chg M1 M' mP no2)) : Ct X l uMod_deliver (rk 6 146) [.ref 169, .int (nI e)] M (fun r M' => r = some (.int v) ∧ RR M' C ∧ Chg M M' mP no2) := by
  refine Ct.of (by decide) (Nat.le_of_ble_eq_true rfl) ?_
  show G X l uMod_deliver (rk 6 146) 0 0 M 0 [some (.ref 169), some (.int (nI e)), none, none] [] _
  have hC : Chg M M mP no2 := Chg.rf
  obtain ⟨hh, x1, x2, x3, x4, x5⟩ := hR.2.2.2.2.1 e he
  have hpo := hR.pl (e := 1 - e) (by omega)
  have x4' : mI M 172 e = nI (L.length + 1) := x4.trans (by rw [hz]; rfl)
  have hl48 : L.length + 1 < 48 := by rw [hz] at x2; exact x2
  refine g_iload_n 0 dMod_deliver_0 rfl ?_
  refine g_callS 1 [_] dMod_deliver_1 cs_Mod_171 rfl rfl ⟨(Nat.le_of_ble_eq_true rfl), (Nat.le_of_ble_eq_true rfl)⟩ (Nat.le_of_ble_eq_true rfl) (ct_isEnd_y he) (Nat.le_of_ble_eq_true rfl) (Nat.le_of_ble_eq_true rfl) ?_
  rintro _ M2 ⟨rfl, hM2⟩
  rw [hM2]
  clear hM2 M2
  refine g_if_eq 4 16 dMod_deliver_4 rfl (fun h4 => ?_) (fun h4 => ?_)
  · exact absurd h4 (by decide)
  · refine g_aload_n 7 dMod_deliver_7 rfl ?_
    refine g_getr 8 10 2 dMod_deliver_8 fs_Mod_16 rfl hR.1.mod hR.1.R_count ?_
    refine g_iload_n 11 dMod_deliver_11 rfl ?_
    refine g_ialdN 12 dMod_deliver_12 hR.1.T_count (by omega) (by decide) ?_
    refine g_top (nI ((L.length + 1))) (x4') ?_
    refine g_if_neN 13 18 dMod_deliver_13 rfl (by omega) (fun h13 => ?_) (fun h13 => ?_)
    · refine g_aload_n 18 dMod_deliver_18 rfl ?_
      refine g_getr 19 10 0 dMod_deliver_19 fs_Mod_7 rfl hR.1.mod hR.1.R_downs ?_
      refine g_iload_n 22 dMod_deliver_22 rfl ?_
      refine g_ialdN 23 dMod_deliver_23 hR.1.T_downs (by omega) (by decide) ?_
      refine g_top (zI A (9 + 80 * e) 3) (hR.dn he) ?_
      refine g_if_ne 24 43 dMod_deliver_24 rfl (fun h24 => ?_) (fun h24 => ?_)
      · exact absurd hd h24
      · refine g_aload_n 27 dMod_deliver_27 rfl ?_
        refine g_getr 28 10 2 dMod_deliver_28 fs_Mod_16 rfl hR.1.mod hR.1.R_count ?_
        refine g_iconst 31 (nI 1) dMod_deliver_31 rfl ?_
        refine g_iload_n 32 dMod_deliver_32 rfl ?_
        refine g_isubN 33 dMod_deliver_33 (by omega) ?_
        refine g_ialdN 34 dMod_deliver_34 hR.1.T_count (by omega) (by decide) ?_
        refine g_top (nI ((zP A (1 - e)).length)) (hR.pc (e := 1 - e) (by omega)) ?_
        refine g_bipush 35 (nI 40) dMod_deliver_35 rfl ?_
        refine g_icmp_ltN 37 43 dMod_deliver_37 rfl (by omega) (by omega) (fun h37 => ?_) (fun h37 => ?_)
        · refine g_bipush 43 (nI 48) dMod_deliver_43 rfl ?_
          refine g_iload_n 45 dMod_deliver_45 rfl ?_
          refine g_imulN 46 dMod_deliver_46 ?_
          refine g_aload_n 47 dMod_deliver_47 rfl ?_
          refine g_getr 48 10 1 dMod_deliver_48 fs_Mod_13 rfl hR.1.mod hR.1.R_head ?_
          refine g_iload_n 51 dMod_deliver_51 rfl ?_
          refine g_ialdN 52 dMod_deliver_52 hR.1.T_head (by omega) (by decide) ?_
          refine g_top (nI (hh)) (x3) ?_
          refine g_iaddN 53 dMod_deliver_53 ?_
          refine g_istore_n 54 dMod_deliver_54 (by decide) rfl ?_
          refine g_aload_n 55 dMod_deliver_55 rfl ?_
          refine g_getr 56 10 1 dMod_deliver_56 fs_Mod_13 rfl hR.1.mod hR.1.R_head ?_
          refine g_iload_n 59 dMod_deliver_59 rfl ?_
          refine g_aload_n 60 dMod_deliver_60 rfl ?_
          refine g_getr 61 10 1 dMod_deliver_61 fs_Mod_13 rfl hR.1.mod hR.1.R_head ?_
          refine g_iload_n 64 dMod_deliver_64 rfl ?_
          refine g_ialdN 65 dMod_deliver_65 hR.1.T_head (by omega) (by decide) ?_
          refine g_top (nI (hh)) (x3) ?_
          refine g_iconst 66 (nI 1) dMod_deliver_66 rfl ?_
          refine g_iaddN 67 dMod_deliver_67 ?_
          refine g_bipush 68 (nI 48) dMod_deliver_68 rfl ?_
          refine g_iremN 70 dMod_deliver_70 (by omega) (by decide) (by decide) ?_
          refine g_iastN 71 dMod_deliver_71 hR.1.T_head (by omega) (by decide) ?_
          refine g_aload_n 72 dMod_deliver_72 rfl ?_
          refine g_getr 73 10 2 dMod_deliver_73 fs_Mod_16 rfl hR.1.mod hR.1.R_count ?_
          refine g_iload_n 76 dMod_deliver_76 rfl ?_
          refine g_aload_n 77 dMod_deliver_77 rfl ?_
          refine g_getr 78 10 2 dMod_deliver_78 fs_Mod_16 rfl hR.1.mod hR.1.R_count ?_
          refine g_iload_n 81 dMod_deliver_81 rfl ?_
          refine g_ialdN 82 dMod_deliver_82 hR.1.T_count (by omega) (by decide) ?_
          refine g_top (nI ((L.length + 1))) ((sI_a (by decide)).trans x4') ?_
          refine g_iconst 83 (nI 1) dMod_deliver_83 rfl ?_
          refine g_isubN 84 dMod_deliver_84 (by omega) ?_
          refine g_top (nI (L.length)) (rfl) ?_
          refine g_iastN 85 dMod_deliver_85 hR.1.T_count (by omega) (by decide) ?_
          obtain ⟨hRp, hF⟩ := rr_pop hR he hz x1 x3
          refine g_memF (B := yP A e L) hRp hF (kM (kM hC (by decide)) (by decide)) (fun M1 hR1 hC1 hF1 => ?_)
          refine g_aload_n 86 dMod_deliver_86 rfl ?_
          refine g_getr 87 10 0 dMod_deliver_87 fs_Mod_7 rfl hR1.1.mod hR1.1.R_downs ?_
          refine g_iload_n 90 dMod_deliver_90 rfl ?_
          refine g_ialdN 91 dMod_deliver_91 hR1.1.T_downs (by omega) (by decide) ?_
          refine g_top (zI A (9 + 80 * e) 3) (hR1.dn he) ?_
          refine g_if_eq 92 97 dMod_deliver_92 rfl (fun h92 => ?_) (fun h92 => ?_)
          · refine g_aload_n 97 dMod_deliver_97 rfl ?_
            refine g_getr 98 10 3 dMod_deliver_98 fs_Mod_19 rfl hR1.1.mod hR1.1.R_kinds ?_
            refine g_iload_n 101 dMod_deliver_101 rfl ?_
            refine g_ialdN 102 dMod_deliver_102 hR1.1.T_kinds (by omega) (by decide) ?_
            refine g_top (8) (hF1.1.trans hkd) ?_
            refine g_istore_n 103 dMod_deliver_103 (by decide) rfl ?_
            refine g_iload_n 104 dMod_deliver_104 rfl ?_
            refine g_iconst 105 2 dMod_deliver_105 rfl ?_
            refine g_icmp_ge 106 129 dMod_deliver_106 rfl (fun h106 => ?_) (fun h106 => ?_)
            · refine g_iload_n 129 dMod_deliver_129 rfl ?_
              refine g_iconst 130 3 dMod_deliver_130 rfl ?_
              refine g_icmp_ne 131 146 dMod_deliver_131 rfl (fun h131 => ?_) (fun h131 => ?_)
              · refine g_iload_n 146 dMod_deliver_146 rfl ?_
                refine g_iconst 147 4 dMod_deliver_147 rfl ?_
                refine g_icmp_ne 148 186 dMod_deliver_148 rfl (fun h148 => ?_) (fun h148 => ?_)
                · refine g_iload_n 186 dMod_deliver_186 rfl ?_
                  refine g_bipush 187 8 dMod_deliver_187 rfl ?_
                  refine g_icmp_ne 189 210 dMod_deliver_189 rfl (fun h189 => ?_) (fun h189 => ?_)
                  · exact absurd (by decide) h189
                  · refine g_aload_n 192 dMod_deliver_192 rfl ?_
                    refine g_iload_n 193 dMod_deliver_193 rfl ?_
                    refine g_aload_n 194 dMod_deliver_194 rfl ?_
                    refine g_getr 195 10 4 dMod_deliver_195 fs_Mod_22 rfl hR1.1.mod hR1.1.R_streams ?_
                    refine g_iload_n 198 dMod_deliver_198 rfl ?_
                    refine g_ialdN 199 dMod_deliver_199 hR1.1.T_streams (by omega) (by decide) ?_
                    refine g_top (f.2.1) (hF1.2.1) ?_
                    refine g_aload_n 200 dMod_deliver_200 rfl ?_
                    refine g_getr 201 10 5 dMod_deliver_201 fs_Mod_25 rfl hR1.1.mod hR1.1.R_amounts ?_
                    refine g_iload_n 204 dMod_deliver_204 rfl ?_
                    refine g_ialdN 205 dMod_deliver_205 hR1.1.T_amounts (by omega) (by decide) ?_
                    refine g_top (f.2.2.1) (hF1.2.2.1) ?_
                    refine g_callV 206 [_, _, _] dMod_deliver_206 cs_Mod_306 rfl (ci := 10) rfl (by decide) hR1.1.mod rfl ⟨(Nat.le_of_ble_eq_true rfl), (Nat.le_of_ble_eq_true rfl)⟩ (Nat.le_of_ble_eq_true rfl) (hG _ hh hR1 hF1 (by omega)) (Nat.le_of_ble_eq_true rfl) (Nat.le_of_ble_eq_true rfl) ?_
                    rintro _ M2 ⟨rfl, hR2, hc⟩
                    have hC2 := hC1.tr hc
                    exact g_iret 209 dMod_deliver_209 rfl ⟨rfl, hR2, hC2⟩
                · exact absurd h148 (by decide)
              · exact absurd h131 (by decide)
            · exact absurd (by decide) h106
          · exact absurd hd h92
        · exact absurd h40 h37
    · exact absurd h13 (by omega)

set_option maxRecDepth 100000 in
set_option maxHeartbeats 4000000 in
theorem cm_dl_bye {X : mX} {l : Launch} {M : mM} {A : zA} {e : Nat} (hR : RR M A) (he : e < 2) {f : zF} {L : List zF} (hz : zP A e = f :: L) (hd : zI A (9 + 80 * e) 3 = 0) (h40 : (zP A (1 - e)).length < 40) (hkd : f.1 = 7) : Ct X l uMod_deliver (rk 6 146) [.ref 169, .int (nI e)] M (fun r M' => r = some (.int 0) ∧ RR M' (yI (yP A e L) (9 + 80 * e) 3 (200 + f.2.2.1)) ∧ Chg M M' mP no2) := by
  refine Ct.of (by decide) (Nat.le_of_ble_eq_true rfl) ?_
  show G X l uMod_deliver (rk 6 146) 0 0 M 0 [some (.ref 169), some (.int (nI e)), none, none] [] _
  have hC : Chg M M mP no2 := Chg.rf
  obtain ⟨hh, x1, x2, x3, x4, x5⟩ := hR.2.2.2.2.1 e he
  have hpo := hR.pl (e := 1 - e) (by omega)
  have x4' : mI M 172 e = nI (L.length + 1) := x4.trans (by rw [hz]; rfl)
  have hl48 : L.length + 1 < 48 := by rw [hz] at x2; exact x2
  refine g_iload_n 0 dMod_deliver_0 rfl ?_
  refine g_callS 1 [_] dMod_deliver_1 cs_Mod_171 rfl rfl ⟨(Nat.le_of_ble_eq_true rfl), (Nat.le_of_ble_eq_true rfl)⟩ (Nat.le_of_ble_eq_true rfl) (ct_isEnd_y he) (Nat.le_of_ble_eq_true rfl) (Nat.le_of_ble_eq_true rfl) ?_
  rintro _ M2 ⟨rfl, hM2⟩
  rw [hM2]
  clear hM2 M2
  refine g_if_eq 4 16 dMod_deliver_4 rfl (fun h4 => ?_) (fun h4 => ?_)
  · exact absurd h4 (by decide)
  · refine g_aload_n 7 dMod_deliver_7 rfl ?_
    refine g_getr 8 10 2 dMod_deliver_8 fs_Mod_16 rfl hR.1.mod hR.1.R_count ?_
    refine g_iload_n 11 dMod_deliver_11 rfl ?_
    refine g_ialdN 12 dMod_deliver_12 hR.1.T_count (by omega) (by decide) ?_
    refine g_top (nI ((L.length + 1))) (x4') ?_
    refine g_if_neN 13 18 dMod_deliver_13 rfl (by omega) (fun h13 => ?_) (fun h13 => ?_)
    · refine g_aload_n 18 dMod_deliver_18 rfl ?_
      refine g_getr 19 10 0 dMod_deliver_19 fs_Mod_7 rfl hR.1.mod hR.1.R_downs ?_
      refine g_iload_n 22 dMod_deliver_22 rfl ?_
      refine g_ialdN 23 dMod_deliver_23 hR.1.T_downs (by omega) (by decide) ?_
      refine g_top (zI A (9 + 80 * e) 3) (hR.dn he) ?_
      refine g_if_ne 24 43 dMod_deliver_24 rfl (fun h24 => ?_) (fun h24 => ?_)
      · exact absurd hd h24
      · refine g_aload_n 27 dMod_deliver_27 rfl ?_
        refine g_getr 28 10 2 dMod_deliver_28 fs_Mod_16 rfl hR.1.mod hR.1.R_count ?_
        refine g_iconst 31 (nI 1) dMod_deliver_31 rfl ?_
        refine g_iload_n 32 dMod_deliver_32 rfl ?_
        refine g_isubN 33 dMod_deliver_33 (by omega) ?_
        refine g_ialdN 34 dMod_deliver_34 hR.1.T_count (by omega) (by decide) ?_
        refine g_top (nI ((zP A (1 - e)).length)) (hR.pc (e := 1 - e) (by omega)) ?_
        refine g_bipush 35 (nI 40) dMod_deliver_35 rfl ?_
        refine g_icmp_ltN 37 43 dMod_deliver_37 rfl (by omega) (by omega) (fun h37 => ?_) (fun h37 => ?_)
        · refine g_bipush 43 (nI 48) dMod_deliver_43 rfl ?_
          refine g_iload_n 45 dMod_deliver_45 rfl ?_
          refine g_imulN 46 dMod_deliver_46 ?_
          refine g_aload_n 47 dMod_deliver_47 rfl ?_
          refine g_getr 48 10 1 dMod_deliver_48 fs_Mod_13 rfl hR.1.mod hR.1.R_head ?_
          refine g_iload_n 51 dMod_deliver_51 rfl ?_
          refine g_ialdN 52 dMod_deliver_52 hR.1.T_head (by omega) (by decide) ?_
          refine g_top (nI (hh)) (x3) ?_
          refine g_iaddN 53 dMod_deliver_53 ?_
          refine g_istore_n 54 dMod_deliver_54 (by decide) rfl ?_
          refine g_aload_n 55 dMod_deliver_55 rfl ?_
          refine g_getr 56 10 1 dMod_deliver_56 fs_Mod_13 rfl hR.1.mod hR.1.R_head ?_
          refine g_iload_n 59 dMod_deliver_59 rfl ?_
          refine g_aload_n 60 dMod_deliver_60 rfl ?_
          refine g_getr 61 10 1 dMod_deliver_61 fs_Mod_13 rfl hR.1.mod hR.1.R_head ?_
          refine g_iload_n 64 dMod_deliver_64 rfl ?_
          refine g_ialdN 65 dMod_deliver_65 hR.1.T_head (by omega) (by decide) ?_
          refine g_top (nI (hh)) (x3) ?_
          refine g_iconst 66 (nI 1) dMod_deliver_66 rfl ?_
          refine g_iaddN 67 dMod_deliver_67 ?_
          refine g_bipush 68 (nI 48) dMod_deliver_68 rfl ?_
          refine g_iremN 70 dMod_deliver_70 (by omega) (by decide) (by decide) ?_
          refine g_iastN 71 dMod_deliver_71 hR.1.T_head (by omega) (by decide) ?_
          refine g_aload_n 72 dMod_deliver_72 rfl ?_
          refine g_getr 73 10 2 dMod_deliver_73 fs_Mod_16 rfl hR.1.mod hR.1.R_count ?_
          refine g_iload_n 76 dMod_deliver_76 rfl ?_
          refine g_aload_n 77 dMod_deliver_77 rfl ?_
          refine g_getr 78 10 2 dMod_deliver_78 fs_Mod_16 rfl hR.1.mod hR.1.R_count ?_
          refine g_iload_n 81 dMod_deliver_81 rfl ?_
          refine g_ialdN 82 dMod_deliver_82 hR.1.T_count (by omega) (by decide) ?_
          refine g_top (nI ((L.length + 1))) ((sI_a (by decide)).trans x4') ?_
          refine g_iconst 83 (nI 1) dMod_deliver_83 rfl ?_
          refine g_isubN 84 dMod_deliver_84 (by omega) ?_
          refine g_top (nI (L.length)) (rfl) ?_
          refine g_iastN 85 dMod_deliver_85 hR.1.T_count (by omega) (by decide) ?_
          obtain ⟨hRp, hF⟩ := rr_pop hR he hz x1 x3
          refine g_memF (B := yP A e L) hRp hF (kM (kM hC (by decide)) (by decide)) (fun M1 hR1 hC1 hF1 => ?_)
          refine g_aload_n 86 dMod_deliver_86 rfl ?_
          refine g_getr 87 10 0 dMod_deliver_87 fs_Mod_7 rfl hR1.1.mod hR1.1.R_downs ?_
          refine g_iload_n 90 dMod_deliver_90 rfl ?_
          refine g_ialdN 91 dMod_deliver_91 hR1.1.T_downs (by omega) (by decide) ?_
          refine g_top (zI A (9 + 80 * e) 3) (hR1.dn he) ?_
          refine g_if_eq 92 97 dMod_deliver_92 rfl (fun h92 => ?_) (fun h92 => ?_)
          · refine g_aload_n 97 dMod_deliver_97 rfl ?_
            refine g_getr 98 10 3 dMod_deliver_98 fs_Mod_19 rfl hR1.1.mod hR1.1.R_kinds ?_
            refine g_iload_n 101 dMod_deliver_101 rfl ?_
            refine g_ialdN 102 dMod_deliver_102 hR1.1.T_kinds (by omega) (by decide) ?_
            refine g_top (7) (hF1.1.trans hkd) ?_
            refine g_istore_n 103 dMod_deliver_103 (by decide) rfl ?_
            refine g_iload_n 104 dMod_deliver_104 rfl ?_
            refine g_iconst 105 2 dMod_deliver_105 rfl ?_
            refine g_icmp_ge 106 129 dMod_deliver_106 rfl (fun h106 => ?_) (fun h106 => ?_)
            · refine g_iload_n 129 dMod_deliver_129 rfl ?_
              refine g_iconst 130 3 dMod_deliver_130 rfl ?_
              refine g_icmp_ne 131 146 dMod_deliver_131 rfl (fun h131 => ?_) (fun h131 => ?_)
              · refine g_iload_n 146 dMod_deliver_146 rfl ?_
                refine g_iconst 147 4 dMod_deliver_147 rfl ?_
                refine g_icmp_ne 148 186 dMod_deliver_148 rfl (fun h148 => ?_) (fun h148 => ?_)
                · refine g_iload_n 186 dMod_deliver_186 rfl ?_
                  refine g_bipush 187 8 dMod_deliver_187 rfl ?_
                  refine g_icmp_ne 189 210 dMod_deliver_189 rfl (fun h189 => ?_) (fun h189 => ?_)
                  · refine g_aload_n 210 dMod_deliver_210 rfl ?_
                    refine g_getr 211 10 0 dMod_deliver_211 fs_Mod_7 rfl hR1.1.mod hR1.1.R_downs ?_
                    refine g_iload_n 214 dMod_deliver_214 rfl ?_
                    refine g_sipush 215 200 dMod_deliver_215 rfl ?_
                    refine g_aload_n 218 dMod_deliver_218 rfl ?_
                    refine g_getr 219 10 5 dMod_deliver_219 fs_Mod_25 rfl hR1.1.mod hR1.1.R_amounts ?_
                    refine g_iload_n 222 dMod_deliver_222 rfl ?_
                    refine g_ialdN 223 dMod_deliver_223 hR1.1.T_amounts (by omega) (by decide) ?_
                    refine g_top (f.2.2.1) (hF1.2.2.1) ?_
                    refine g_iadd 224 dMod_deliver_224 ?_
                    refine g_iastN 225 dMod_deliver_225 hR1.1.T_downs (by omega) (by decide) ?_
                    refine g_memM (hR1.down he) (kM hC1 (by decide)) (fun M2 hR2 hC2 => ?_)
                    refine g_iconst 226 0 dMod_deliver_226 rfl ?_
                    exact g_iret 227 dMod_deliver_227 rfl ⟨rfl, hR2, hC2⟩
                  · exact absurd h189 (by decide)
                · exact absurd h148 (by decide)
              · exact absurd h131 (by decide)
            · exact absurd (by decide) h106
          · exact absurd hd h92
        · exact absurd h40 h37
    · exact absurd h13 (by omega)


/-! ===== the calls, the reference over the state: settings, injected frames, frames read ===== -/
theorem rr_det {M : mM} {B : zA} {p sl : Nat} {kd s a f d v : Int32} {Y : List Int32} {S : List zS} (h : RR M (push B p (kd, s, a, f, d, Y, S))) (hp : p < 2) (hs : lastS M p (zP B p).length sl) (hd : kd ≠ 1) : RR (setI M 177 sl v) (push B p (kd, s, a, f, v, Y, S)) := by
  obtain ⟨⟨h1, h2, h3, h4, h5, h6, h7⟩, hsl⟩ := h.lastF hp hs
  have c : Chg M (setI M 177 sl v) (fun a j => (173 ≤ a ∧ a ≤ 178 ∧ j = sl) ∨ (179 ≤ a ∧ a ≤ 182 ∧ 8 * sl ≤ j ∧ j < 8 * sl + 8)) no2 := Chg.rf.setI (Or.inl (by omega))
  have := rr_last h (L := zP B p) (f := (kd, s, a, f, d, Y, S)) (g := (kd, s, a, f, v, Y, S)) hp upf_same hs c ⟨(sI_a (by decide)).trans h1, (sI_a (by decide)).trans h2, (sI_a (by decide)).trans h3, (sI_a (by decide)).trans h4, fun _ => sI_s, fun q => absurd q hd, fun q => h7 q⟩
  rw [push_yP] at this
  exact this
theorem rr_det1 {M : mM} {B : zA} {p sl : Nat} {s z : Int32} {S : List zS} (h : RR M (push B p (hfr s z S))) (hp : p < 2) (hs : lastS M p (zP B p).length sl) : RR (setI M 177 sl 0) (push B p (hfr s z S)) := by
  obtain ⟨⟨h1, h2, h3, h4, h5, h6, h7⟩, hsl⟩ := h.lastF hp hs
  have c : Chg M (setI M 177 sl 0) (fun a j => (173 ≤ a ∧ a ≤ 178 ∧ j = sl) ∨ (179 ≤ a ∧ a ≤ 182 ∧ 8 * sl ≤ j ∧ j < 8 * sl + 8)) no2 := Chg.rf.setI (Or.inl (by omega))
  obtain ⟨g1, g2, g3, g4, g5⟩ := h6 rfl
  have := rr_last h (L := zP B p) (f := hfr s z S) (g := hfr s z S) hp upf_same hs c ⟨(sI_a (by decide)).trans h1, (sI_a (by decide)).trans h2, (sI_a (by decide)).trans h3, (sI_a (by decide)).trans h4, fun q => absurd rfl q, fun _ => ⟨sI_s, g2, g3, g4, fun j t ht => ⟨(sI_a (by decide)).trans (g5 j t ht).1, (sI_a (by decide)).trans (g5 j t ht).2.1, (sI_a (by decide)).trans (g5 j t ht).2.2.1, (sI_a (by decide)).trans (g5 j t ht).2.2.2⟩⟩, fun q => absurd (show (1 : Int32) = 0 from q) (by decide)⟩
  rw [push_yP] at this
  exact this
theorem ct_stepP {X : mX} {l : Launch} {M : mM} {B : zA} {p sl : Nat} {s z kd ix na va : Int32} {S : List zS} (h : RR M (push B p (hfr s z S))) (hp : p < 2) (hs : lastS M p (zP B p).length sl) (h8 : S.length < 8) : Ct X l uMod_step (rk 0 0) [.ref 169, .int (nI sl), .int kd, .int ix, .int na, .int va] M (fun r M' => r = none ∧ RR M' (push B p (hfr s z (S ++ [(kd, ix, na, va)]))) ∧ Chg M M' mP no2 ∧ lastS M' p (zP B p).length sl) := by
  have := ct_stepM (X := X) (l := l) (M := M) (B := B) (e := 1 - p) (sl := sl) (s := s) (z := z) (kd := kd) (ix := ix) (na := na) (va := va) (S := S)
  rw [show 1 - (1 - p) = p by omega] at this
  exact this h (by omega) hs h8
theorem PdR.app {M : mM} {e : Nat} {D : List (Int32 × Int32)} {s v : Int32} (h : PdR M e D) (h8 : D.length < 8) : PdR (setI (setI (setI M 211 (8 * e + D.length) s) 212 (8 * e + D.length) v) 210 e (nI (D.length + 1))) e (D ++ [(s, v)]) := by
  obtain ⟨h1, h2, h3⟩ := h
  refine ⟨?_, by rw [List.length_append]; exact h8, fun j x hx => ?_⟩
  · rw [List.length_append]
    exact sI_s
  · show mI _ 211 _ = _ ∧ mI _ 212 _ = _
    by_cases hj : j < D.length
    · rw [List.getElem?_append_left hj] at hx
      exact ⟨by rw [sI_a (by decide), sI_a (by decide), sI_k (by omega)]; exact (h3 j x hx).1, by rw [sI_a (by decide), sI_k (by omega), sI_a (by decide)]; exact (h3 j x hx).2⟩
    · rw [List.getElem?_append_right (by omega)] at hx
      have h6 := (List.getElem?_eq_some_iff.mp hx).1
      have hj2 : j = D.length := by simp at h6; omega
      subst hj2
      simp at hx
      subst hx
      exact ⟨by rw [sI_a (by decide), sI_a (by decide), sI_s], by rw [sI_a (by decide), sI_s]⟩
theorem g_memL {X : mX} {l : Launch} {u : mU} {rm : Room} {bc bs : Nat} {M0 M : mM} {A : zA} {p n sl : Nat} {pc : Nat} {ls : List (Option Value)} {st : List Value} {Q : Option Value → mM → Prop} (hR : RR M A) (hC : Chg M0 M mP no2) (hl : lastS M p n sl) (k : ∀ M', RR M' A → Chg M0 M' mP no2 → lastS M' p n sl → G X l u rm bc bs M' pc ls st Q) : G X l u rm bc bs M pc ls st Q := k M hR hC hl
set_option maxRecDepth 100000 in
set_option maxHeartbeats 4000000 in
theorem cm_settingR {X : mX} {l : Launch} {M : mM} {A : zA} {e : Nat} (hR : RR M A) (he : e < 2) {s v : Int32} (hk : ¬ knC s = 0) (hr : ¬ rgC s v = 0) (h8 : (zD A e).length < 8) (hz0 : zI A (9 + 80 * e) 3 = 0) (hnf : (zP A (1 - e)).length < 30) : Ct X l uMod_setting (rk 2 41) [.ref 169, .int (nI e), .int s, .int v] M (fun r M' => r = some (.int 1) ∧ RR M' (sSt A e s v) ∧ Chg M M' mP no2) := by
  refine Ct.of (by decide) (Nat.le_of_ble_eq_true rfl) ?_
  show G X l uMod_setting (rk 2 41) 0 0 M 0 [some (.ref 169), some (.int (nI e)), some (.int s), some (.int v), none] [] _
  have hC : Chg M M mP no2 := Chg.rf
  have hu : Rdowns M e = 0 := (hR.dn he).trans hz0
  have hpd := hR.pd he
  refine g_aload_n 0 dMod_setting_0 rfl ?_
  refine g_iload_n 1 dMod_setting_1 rfl ?_
  refine g_callV 2 [_] dMod_setting_2 cs_Mod_309 rfl (ci := 10) rfl (by decide) hR.1.mod rfl ⟨(Nat.le_of_ble_eq_true rfl), (Nat.le_of_ble_eq_true rfl)⟩ (Nat.le_of_ble_eq_true rfl) (ct_up_y hR.1 he hu) (Nat.le_of_ble_eq_true rfl) (Nat.le_of_ble_eq_true rfl) ?_
  rintro _ M2 ⟨rfl, hM2⟩
  rw [hM2]
  clear hM2 M2
  refine g_if_eq 5 46 dMod_setting_5 rfl (fun h5 => ?_) (fun h5 => ?_)
  · exact absurd h5 (by decide)
  · refine g_iload_n 8 dMod_setting_8 rfl ?_
    refine g_callS 9 [_] dMod_setting_9 cs_Mod_279 rfl rfl ⟨(Nat.le_of_ble_eq_true rfl), (Nat.le_of_ble_eq_true rfl)⟩ (Nat.le_of_ble_eq_true rfl) (cm_known) (Nat.le_of_ble_eq_true rfl) (Nat.le_of_ble_eq_true rfl) ?_
    rintro _ M2 ⟨rfl, hM2⟩
    rw [hM2]
    clear hM2 M2
    refine g_if_eq 12 46 dMod_setting_12 rfl (fun h12 => ?_) (fun h12 => ?_)
    · exact absurd h12 hk
    · refine g_iload_n 15 dMod_setting_15 rfl ?_
      refine g_if_lt 16 46 dMod_setting_16 rfl (fun h16 => ?_) (fun h16 => ?_)
      · exact absurd (by rw [rg_hi hk]; unfold wi; rw [if_pos h16]) hr
      · refine g_iload_n 19 dMod_setting_19 rfl ?_
        refine g_iload_n 20 dMod_setting_20 rfl ?_
        refine g_callS 21 [_] dMod_setting_21 cs_Mod_282 rfl rfl ⟨(Nat.le_of_ble_eq_true rfl), (Nat.le_of_ble_eq_true rfl)⟩ (Nat.le_of_ble_eq_true rfl) (cm_highest) (Nat.le_of_ble_eq_true rfl) (Nat.le_of_ble_eq_true rfl) ?_
        rintro _ M2 ⟨rfl, hM2⟩
        rw [hM2]
        clear hM2 M2
        refine g_icmp_gt 24 46 dMod_setting_24 rfl (fun h24 => ?_) (fun h24 => ?_)
        · exact absurd (by rw [rg_hi hk]; unfold wi; rw [if_neg h16, if_pos h24]) hr
        · refine g_aload_n 27 dMod_setting_27 rfl ?_
          refine g_getr 28 10 41 dMod_setting_28 fs_Mod_132 rfl hR.1.mod hR.1.R_open ?_
          refine g_iload_n 31 dMod_setting_31 rfl ?_
          refine g_ialdN 32 dMod_setting_32 hR.1.T_open (by omega) (by decide) ?_
          refine g_top (nI ((zD A e).length)) (hpd.1) ?_
          refine g_bipush 33 (nI 8) dMod_setting_33 rfl ?_
          refine g_icmp_geN 35 46 dMod_setting_35 rfl (by omega) (by omega) (fun h35 => ?_) (fun h35 => ?_)
          · exact absurd h35 (by omega)
          · refine g_aload_n 38 dMod_setting_38 rfl ?_
            refine g_iload_n 39 dMod_setting_39 rfl ?_
            refine g_callV 40 [_] dMod_setting_40 cs_Mod_315 rfl (ci := 10) rfl (by decide) hR.1.mod rfl ⟨(Nat.le_of_ble_eq_true rfl), (Nat.le_of_ble_eq_true rfl)⟩ (Nat.le_of_ble_eq_true rfl) (ct_fullM hR he) (Nat.le_of_ble_eq_true rfl) (Nat.le_of_ble_eq_true rfl) ?_
            rintro _ M2 ⟨rfl, hM2⟩
            rw [hM2]
            clear hM2 M2
            refine g_if_eq 43 48 dMod_setting_43 rfl (fun h43 => ?_) (fun h43 => ?_)
            · refine g_aload_n 48 dMod_setting_48 rfl ?_
              refine g_getr 49 10 42 dMod_setting_49 fs_Mod_135 rfl hR.1.mod hR.1.R_openSetting ?_
              refine g_bipush 52 (nI 8) dMod_setting_52 rfl ?_
              refine g_iload_n 54 dMod_setting_54 rfl ?_
              refine g_imulN 55 dMod_setting_55 ?_
              refine g_aload_n 56 dMod_setting_56 rfl ?_
              refine g_getr 57 10 41 dMod_setting_57 fs_Mod_132 rfl hR.1.mod hR.1.R_open ?_
              refine g_iload_n 60 dMod_setting_60 rfl ?_
              refine g_ialdN 61 dMod_setting_61 hR.1.T_open (by omega) (by decide) ?_
              refine g_top (nI ((zD A e).length)) (hpd.1) ?_
              refine g_iaddN 62 dMod_setting_62 ?_
              refine g_iload_n 63 dMod_setting_63 rfl ?_
              refine g_iastN 64 dMod_setting_64 hR.1.T_openSetting (by omega) (by decide) ?_
              refine g_aload_n 65 dMod_setting_65 rfl ?_
              refine g_getr 66 10 43 dMod_setting_66 fs_Mod_138 rfl hR.1.mod hR.1.R_openValue ?_
              refine g_bipush 69 (nI 8) dMod_setting_69 rfl ?_
              refine g_iload_n 71 dMod_setting_71 rfl ?_
              refine g_imulN 72 dMod_setting_72 ?_
              refine g_aload_n 73 dMod_setting_73 rfl ?_
              refine g_getr 74 10 41 dMod_setting_74 fs_Mod_132 rfl hR.1.mod hR.1.R_open ?_
              refine g_iload_n 77 dMod_setting_77 rfl ?_
              refine g_ialdN 78 dMod_setting_78 hR.1.T_open (by omega) (by decide) ?_
              refine g_top (nI ((zD A e).length)) ((sI_a (by decide)).trans hpd.1) ?_
              refine g_iaddN 79 dMod_setting_79 ?_
              refine g_iload_n 80 dMod_setting_80 rfl ?_
              refine g_iastN 81 dMod_setting_81 hR.1.T_openValue (by omega) (by decide) ?_
              refine g_aload_n 82 dMod_setting_82 rfl ?_
              refine g_getr 83 10 41 dMod_setting_83 fs_Mod_132 rfl hR.1.mod hR.1.R_open ?_
              refine g_iload_n 86 dMod_setting_86 rfl ?_
              refine g_aload_n 87 dMod_setting_87 rfl ?_
              refine g_getr 88 10 41 dMod_setting_88 fs_Mod_132 rfl hR.1.mod hR.1.R_open ?_
              refine g_iload_n 91 dMod_setting_91 rfl ?_
              refine g_ialdN 92 dMod_setting_92 hR.1.T_open (by omega) (by decide) ?_
              refine g_top (nI ((zD A e).length)) ((sI_a (by decide)).trans ((sI_a (by decide)).trans hpd.1)) ?_
              refine g_iconst 93 (nI 1) dMod_setting_93 rfl ?_
              refine g_iaddN 94 dMod_setting_94 ?_
              refine g_iastN 95 dMod_setting_95 hR.1.T_open (by omega) (by decide) ?_
              refine g_memM (A := yD A e (zD A e ++ [(s, v)])) (hR.yD he (hpd.app h8) (((Chg.rf.setI (Or.inl (by omega))).setI (Or.inl (by omega))).setI (Or.inl (by omega)))) (kM (kM (kM hC (by decide)) (by decide)) (by decide)) (fun M1 hR1 hC1 => ?_)
              refine g_aload_n 96 dMod_setting_96 rfl ?_
              refine g_iconst 97 (nI 1) dMod_setting_97 rfl ?_
              refine g_iload_n 98 dMod_setting_98 rfl ?_
              refine g_isubN 99 dMod_setting_99 (by omega) ?_
              refine g_iconst 100 4 dMod_setting_100 rfl ?_
              refine g_iconst 101 0 dMod_setting_101 rfl ?_
              refine g_iload_n 102 dMod_setting_102 rfl ?_
              refine g_iconst 103 0 dMod_setting_103 rfl ?_
              refine g_callV 104 [_, _, _, _, _] dMod_setting_104 cs_Mod_182 rfl (ci := 10) rfl (by decide) hR1.1.mod rfl ⟨(Nat.le_of_ble_eq_true rfl), (Nat.le_of_ble_eq_true rfl)⟩ (Nat.le_of_ble_eq_true rfl) (ct_pushR hR1 (by omega) (show (zP A (1 - e)).length < 47 by omega) (Or.inl rfl) [] (fun q => absurd q (by decide)) (fun q => absurd q (by decide))) (Nat.le_of_ble_eq_true rfl) (Nat.le_of_ble_eq_true rfl) ?_
              rintro _ M2 ⟨sl, hsl, rfl, hla, hR2, hc⟩
              have hC2 := hC1.tr hc
              refine g_istore 107 dMod_setting_107 (by decide) rfl ?_
              refine g_aload_n 109 dMod_setting_109 rfl ?_
              refine g_getr 110 10 7 dMod_setting_110 fs_Mod_32 rfl hR2.1.mod hR2.1.R_settings ?_
              refine g_iload 113 dMod_setting_113 rfl ?_
              refine g_iload_n 115 dMod_setting_115 rfl ?_
              refine g_iastN 116 dMod_setting_116 hR2.1.T_settings (by omega) (by decide) ?_
              refine g_memM (rr_det hR2 (by omega) hla (by decide)) (kM hC2 (by decide)) (fun M3 hR3 hC3 => ?_)
              refine g_iconst 117 1 dMod_setting_117 rfl ?_
              exact g_zret 118 dMod_setting_118 rfl (by decide) ⟨rfl, hR3, hC3⟩
            · exact absurd (if_neg (by omega)) h43

set_option maxRecDepth 100000 in
set_option maxHeartbeats 4000000 in
theorem cm_inj_3 {X : mX} {l : Launch} {M : mM} {A : zA} {e : Nat} (hR : RR M A) (he : e < 2) {s x z : Int32} (h30 : (zP A e).length < 30) : Ct X l uMod_inject (rk 1 26) [.ref 169, .int (nI e), .int 3, .int s, .int x, .int z] M (fun r M' => r = some (.int 1) ∧ RR M' (push A e (3, s, x, 0, 0, [], [])) ∧ Chg M M' mP no2) := by
  refine Ct.of (by decide) (Nat.le_of_ble_eq_true rfl) ?_
  show G X l uMod_inject (rk 1 26) 0 0 M 0 [some (.ref 169), some (.int (nI e)), some (.int 3), some (.int s), some (.int x), some (.int z), none, none, none, none] [] _
  have hC : Chg M M mP no2 := Chg.rf
  refine g_iload_n 0 dMod_inject_0 rfl ?_
  refine g_if_eq 1 31 dMod_inject_1 rfl (fun h1 => ?_) (fun h1 => ?_)
  · exact absurd h1 (by decide)
  · refine g_iload_n 4 dMod_inject_4 rfl ?_
    refine g_iconst 5 1 dMod_inject_5 rfl ?_
    refine g_icmp_eq 6 31 dMod_inject_6 rfl (fun h6 => ?_) (fun h6 => ?_)
    · exact absurd h6 (by decide)
    · refine g_iload_n 9 dMod_inject_9 rfl ?_
      refine g_iconst 10 3 dMod_inject_10 rfl ?_
      refine g_icmp_eq 11 31 dMod_inject_11 rfl (fun h11 => ?_) (fun h11 => ?_)
      · refine g_iconst 31 1 dMod_inject_31 rfl ?_
        refine g_goto 32 36 dMod_inject_32 rfl ?_
        refine g_istore 36 dMod_inject_36 (by decide) rfl ?_
        refine g_iload_n 38 dMod_inject_38 rfl ?_
        refine g_callS 39 [_] dMod_inject_39 cs_Mod_171 rfl rfl ⟨(Nat.le_of_ble_eq_true rfl), (Nat.le_of_ble_eq_true rfl)⟩ (Nat.le_of_ble_eq_true rfl) (ct_isEnd_y he) (Nat.le_of_ble_eq_true rfl) (Nat.le_of_ble_eq_true rfl) ?_
        rintro _ M2 ⟨rfl, hM2⟩
        rw [hM2]
        clear hM2 M2
        refine g_if_eq 42 83 dMod_inject_42 rfl (fun h42 => ?_) (fun h42 => ?_)
        · exact absurd h42 (by decide)
        · refine g_iload 45 dMod_inject_45 rfl ?_
          refine g_if_eq 47 83 dMod_inject_47 rfl (fun h47 => ?_) (fun h47 => ?_)
          · exact absurd h47 (by decide)
          · refine g_iload_n 50 dMod_inject_50 rfl ?_
            refine g_if_eq 51 60 dMod_inject_51 rfl (fun h51 => ?_) (fun h51 => ?_)
            · exact absurd h51 (by decide)
            · refine g_iload_n 54 dMod_inject_54 rfl ?_
              refine g_bipush 55 7 dMod_inject_55 rfl ?_
              refine g_icmp_ne 57 72 dMod_inject_57 rfl (fun h57 => ?_) (fun h57 => ?_)
              · refine g_aload_n 72 dMod_inject_72 rfl ?_
                refine g_getr 73 10 2 dMod_inject_73 fs_Mod_16 rfl hR.1.mod hR.1.R_count ?_
                refine g_iload_n 76 dMod_inject_76 rfl ?_
                refine g_ialdN 77 dMod_inject_77 hR.1.T_count (by omega) (by decide) ?_
                refine g_top (nI ((zP A e).length)) (hR.pc he) ?_
                refine g_bipush 78 (nI 30) dMod_inject_78 rfl ?_
                refine g_icmp_ltN 80 85 dMod_inject_80 rfl (by omega) (by omega) (fun h80 => ?_) (fun h80 => ?_)
                · refine g_iload_n 85 dMod_inject_85 rfl ?_
                  refine g_iconst 86 4 dMod_inject_86 rfl ?_
                  refine g_icmp_eq 87 96 dMod_inject_87 rfl (fun h87 => ?_) (fun h87 => ?_)
                  · exact absurd h87 (by decide)
                  · refine g_iload_n 90 dMod_inject_90 rfl ?_
                    refine g_bipush 91 7 dMod_inject_91 rfl ?_
                    refine g_icmp_ne 93 100 dMod_inject_93 rfl (fun h93 => ?_) (fun h93 => ?_)
                    · refine g_iconst 100 0 dMod_inject_100 rfl ?_
                      refine g_istore 101 dMod_inject_101 (by decide) rfl ?_
                      refine g_iload_n 103 dMod_inject_103 rfl ?_
                      refine g_iconst 104 4 dMod_inject_104 rfl ?_
                      refine g_icmp_ne 105 117 dMod_inject_105 rfl (fun h105 => ?_) (fun h105 => ?_)
                      · refine g_iconst 117 0 dMod_inject_117 rfl ?_
                        refine g_istore 118 dMod_inject_118 (by decide) rfl ?_
                        refine g_aload_n 120 dMod_inject_120 rfl ?_
                        refine g_iload_n 121 dMod_inject_121 rfl ?_
                        refine g_iload_n 122 dMod_inject_122 rfl ?_
                        refine g_iload 123 dMod_inject_123 rfl ?_
                        refine g_if_eq 125 132 dMod_inject_125 rfl (fun h125 => ?_) (fun h125 => ?_)
                        · refine g_iload_n 132 dMod_inject_132 rfl ?_
                          refine g_iload_n 133 dMod_inject_133 rfl ?_
                          refine g_iconst 134 1 dMod_inject_134 rfl ?_
                          refine g_icmp_eq 135 143 dMod_inject_135 rfl (fun h135 => ?_) (fun h135 => ?_)
                          · exact absurd h135 (by decide)
                          · refine g_iload 138 dMod_inject_138 rfl ?_
                            refine g_if_eq 140 147 dMod_inject_140 rfl (fun h140 => ?_) (fun h140 => ?_)
                            · refine g_iload 147 dMod_inject_147 rfl ?_
                              refine g_iload_n 149 dMod_inject_149 rfl ?_
                              refine g_iconst 150 2 dMod_inject_150 rfl ?_
                              refine g_icmp_ge 151 159 dMod_inject_151 rfl (fun h151 => ?_) (fun h151 => ?_)
                              · refine g_iload 159 dMod_inject_159 rfl ?_
                                refine g_if_eq 161 168 dMod_inject_161 rfl (fun h161 => ?_) (fun h161 => ?_)
                                · refine g_iconst 168 0 dMod_inject_168 rfl ?_
                                  refine g_callV 169 [_, _, _, _, _] dMod_inject_169 cs_Mod_182 rfl (ci := 10) rfl (by decide) hR.1.mod rfl ⟨(Nat.le_of_ble_eq_true rfl), (Nat.le_of_ble_eq_true rfl)⟩ (Nat.le_of_ble_eq_true rfl) (ct_pushR hR he (show (zP A e).length < 47 by omega) (Or.inl rfl) [] (fun q => absurd q (by decide)) (fun q => absurd q (by decide))) (Nat.le_of_ble_eq_true rfl) (Nat.le_of_ble_eq_true rfl) ?_
                                  rintro _ M1 ⟨sl, hsl, rfl, hla, hR1, hc⟩
                                  have hC1 := hC.tr hc
                                  refine g_istore 172 dMod_inject_172 (by decide) rfl ?_
                                  refine g_aload_n 174 dMod_inject_174 rfl ?_
                                  refine g_getr 175 10 7 dMod_inject_175 fs_Mod_32 rfl hR1.1.mod hR1.1.R_settings ?_
                                  refine g_iload 178 dMod_inject_178 rfl ?_
                                  refine g_iload_n 180 dMod_inject_180 rfl ?_
                                  refine g_iconst 181 4 dMod_inject_181 rfl ?_
                                  refine g_icmp_ne 182 194 dMod_inject_182 rfl (fun h182 => ?_) (fun h182 => ?_)
                                  · refine g_iconst 194 0 dMod_inject_194 rfl ?_
                                    refine g_iastN 195 dMod_inject_195 hR1.1.T_settings (by omega) (by decide) ?_
                                    refine g_memM (rr_det hR1 he hla (by decide)) (kM hC1 (by decide)) (fun M2 hR2 hC2 => ?_)
                                    refine g_iload_n 196 dMod_inject_196 rfl ?_
                                    refine g_iconst 197 1 dMod_inject_197 rfl ?_
                                    refine g_icmp_ne 198 212 dMod_inject_198 rfl (fun h198 => ?_) (fun h198 => ?_)
                                    · refine g_iconst 212 1 dMod_inject_212 rfl ?_
                                      exact g_zret 213 dMod_inject_213 rfl (by decide) ⟨rfl, hR2, hC2⟩
                                    · exact absurd h198 (by decide)
                                  · exact absurd h182 (by decide)
                                · exact absurd rfl h161
                              · exact absurd (by decide) h151
                            · exact absurd rfl h140
                        · exact absurd rfl h125
                      · exact absurd h105 (by decide)
                    · exact absurd h93 (by decide)
                · exact absurd h30 h80
              · exact absurd h57 (by decide)
      · exact absurd (by decide) h11

set_option maxRecDepth 100000 in
set_option maxHeartbeats 4000000 in
theorem cm_inj_8 {X : mX} {l : Launch} {M : mM} {A : zA} {e : Nat} (hR : RR M A) (he : e < 2) {s x z : Int32} (h30 : (zP A e).length < 30) : Ct X l uMod_inject (rk 1 26) [.ref 169, .int (nI e), .int 8, .int s, .int x, .int z] M (fun r M' => r = some (.int 1) ∧ RR M' (push A e (8, s, x, 0, 0, [], [])) ∧ Chg M M' mP no2) := by
  refine Ct.of (by decide) (Nat.le_of_ble_eq_true rfl) ?_
  show G X l uMod_inject (rk 1 26) 0 0 M 0 [some (.ref 169), some (.int (nI e)), some (.int 8), some (.int s), some (.int x), some (.int z), none, none, none, none] [] _
  have hC : Chg M M mP no2 := Chg.rf
  refine g_iload_n 0 dMod_inject_0 rfl ?_
  refine g_if_eq 1 31 dMod_inject_1 rfl (fun h1 => ?_) (fun h1 => ?_)
  · exact absurd h1 (by decide)
  · refine g_iload_n 4 dMod_inject_4 rfl ?_
    refine g_iconst 5 1 dMod_inject_5 rfl ?_
    refine g_icmp_eq 6 31 dMod_inject_6 rfl (fun h6 => ?_) (fun h6 => ?_)
    · exact absurd h6 (by decide)
    · refine g_iload_n 9 dMod_inject_9 rfl ?_
      refine g_iconst 10 3 dMod_inject_10 rfl ?_
      refine g_icmp_eq 11 31 dMod_inject_11 rfl (fun h11 => ?_) (fun h11 => ?_)
      · exact absurd h11 (by decide)
      · refine g_iload_n 14 dMod_inject_14 rfl ?_
        refine g_iconst 15 4 dMod_inject_15 rfl ?_
        refine g_icmp_eq 16 31 dMod_inject_16 rfl (fun h16 => ?_) (fun h16 => ?_)
        · exact absurd h16 (by decide)
        · refine g_iload_n 19 dMod_inject_19 rfl ?_
          refine g_bipush 20 7 dMod_inject_20 rfl ?_
          refine g_icmp_eq 22 31 dMod_inject_22 rfl (fun h22 => ?_) (fun h22 => ?_)
          · exact absurd h22 (by decide)
          · refine g_iload_n 25 dMod_inject_25 rfl ?_
            refine g_bipush 26 8 dMod_inject_26 rfl ?_
            refine g_icmp_ne 28 35 dMod_inject_28 rfl (fun h28 => ?_) (fun h28 => ?_)
            · exact absurd (by decide) h28
            · refine g_iconst 31 1 dMod_inject_31 rfl ?_
              refine g_goto 32 36 dMod_inject_32 rfl ?_
              refine g_istore 36 dMod_inject_36 (by decide) rfl ?_
              refine g_iload_n 38 dMod_inject_38 rfl ?_
              refine g_callS 39 [_] dMod_inject_39 cs_Mod_171 rfl rfl ⟨(Nat.le_of_ble_eq_true rfl), (Nat.le_of_ble_eq_true rfl)⟩ (Nat.le_of_ble_eq_true rfl) (ct_isEnd_y he) (Nat.le_of_ble_eq_true rfl) (Nat.le_of_ble_eq_true rfl) ?_
              rintro _ M2 ⟨rfl, hM2⟩
              rw [hM2]
              clear hM2 M2
              refine g_if_eq 42 83 dMod_inject_42 rfl (fun h42 => ?_) (fun h42 => ?_)
              · exact absurd h42 (by decide)
              · refine g_iload 45 dMod_inject_45 rfl ?_
                refine g_if_eq 47 83 dMod_inject_47 rfl (fun h47 => ?_) (fun h47 => ?_)
                · exact absurd h47 (by decide)
                · refine g_iload_n 50 dMod_inject_50 rfl ?_
                  refine g_if_eq 51 60 dMod_inject_51 rfl (fun h51 => ?_) (fun h51 => ?_)
                  · exact absurd h51 (by decide)
                  · refine g_iload_n 54 dMod_inject_54 rfl ?_
                    refine g_bipush 55 7 dMod_inject_55 rfl ?_
                    refine g_icmp_ne 57 72 dMod_inject_57 rfl (fun h57 => ?_) (fun h57 => ?_)
                    · refine g_aload_n 72 dMod_inject_72 rfl ?_
                      refine g_getr 73 10 2 dMod_inject_73 fs_Mod_16 rfl hR.1.mod hR.1.R_count ?_
                      refine g_iload_n 76 dMod_inject_76 rfl ?_
                      refine g_ialdN 77 dMod_inject_77 hR.1.T_count (by omega) (by decide) ?_
                      refine g_top (nI ((zP A e).length)) (hR.pc he) ?_
                      refine g_bipush 78 (nI 30) dMod_inject_78 rfl ?_
                      refine g_icmp_ltN 80 85 dMod_inject_80 rfl (by omega) (by omega) (fun h80 => ?_) (fun h80 => ?_)
                      · refine g_iload_n 85 dMod_inject_85 rfl ?_
                        refine g_iconst 86 4 dMod_inject_86 rfl ?_
                        refine g_icmp_eq 87 96 dMod_inject_87 rfl (fun h87 => ?_) (fun h87 => ?_)
                        · exact absurd h87 (by decide)
                        · refine g_iload_n 90 dMod_inject_90 rfl ?_
                          refine g_bipush 91 7 dMod_inject_91 rfl ?_
                          refine g_icmp_ne 93 100 dMod_inject_93 rfl (fun h93 => ?_) (fun h93 => ?_)
                          · refine g_iconst 100 0 dMod_inject_100 rfl ?_
                            refine g_istore 101 dMod_inject_101 (by decide) rfl ?_
                            refine g_iload_n 103 dMod_inject_103 rfl ?_
                            refine g_iconst 104 4 dMod_inject_104 rfl ?_
                            refine g_icmp_ne 105 117 dMod_inject_105 rfl (fun h105 => ?_) (fun h105 => ?_)
                            · refine g_iconst 117 0 dMod_inject_117 rfl ?_
                              refine g_istore 118 dMod_inject_118 (by decide) rfl ?_
                              refine g_aload_n 120 dMod_inject_120 rfl ?_
                              refine g_iload_n 121 dMod_inject_121 rfl ?_
                              refine g_iload_n 122 dMod_inject_122 rfl ?_
                              refine g_iload 123 dMod_inject_123 rfl ?_
                              refine g_if_eq 125 132 dMod_inject_125 rfl (fun h125 => ?_) (fun h125 => ?_)
                              · refine g_iload_n 132 dMod_inject_132 rfl ?_
                                refine g_iload_n 133 dMod_inject_133 rfl ?_
                                refine g_iconst 134 1 dMod_inject_134 rfl ?_
                                refine g_icmp_eq 135 143 dMod_inject_135 rfl (fun h135 => ?_) (fun h135 => ?_)
                                · exact absurd h135 (by decide)
                                · refine g_iload 138 dMod_inject_138 rfl ?_
                                  refine g_if_eq 140 147 dMod_inject_140 rfl (fun h140 => ?_) (fun h140 => ?_)
                                  · refine g_iload 147 dMod_inject_147 rfl ?_
                                    refine g_iload_n 149 dMod_inject_149 rfl ?_
                                    refine g_iconst 150 2 dMod_inject_150 rfl ?_
                                    refine g_icmp_ge 151 159 dMod_inject_151 rfl (fun h151 => ?_) (fun h151 => ?_)
                                    · refine g_iload 159 dMod_inject_159 rfl ?_
                                      refine g_if_eq 161 168 dMod_inject_161 rfl (fun h161 => ?_) (fun h161 => ?_)
                                      · refine g_iconst 168 0 dMod_inject_168 rfl ?_
                                        refine g_callV 169 [_, _, _, _, _] dMod_inject_169 cs_Mod_182 rfl (ci := 10) rfl (by decide) hR.1.mod rfl ⟨(Nat.le_of_ble_eq_true rfl), (Nat.le_of_ble_eq_true rfl)⟩ (Nat.le_of_ble_eq_true rfl) (ct_pushR hR he (show (zP A e).length < 47 by omega) (Or.inl rfl) [] (fun q => absurd q (by decide)) (fun q => absurd q (by decide))) (Nat.le_of_ble_eq_true rfl) (Nat.le_of_ble_eq_true rfl) ?_
                                        rintro _ M1 ⟨sl, hsl, rfl, hla, hR1, hc⟩
                                        have hC1 := hC.tr hc
                                        refine g_istore 172 dMod_inject_172 (by decide) rfl ?_
                                        refine g_aload_n 174 dMod_inject_174 rfl ?_
                                        refine g_getr 175 10 7 dMod_inject_175 fs_Mod_32 rfl hR1.1.mod hR1.1.R_settings ?_
                                        refine g_iload 178 dMod_inject_178 rfl ?_
                                        refine g_iload_n 180 dMod_inject_180 rfl ?_
                                        refine g_iconst 181 4 dMod_inject_181 rfl ?_
                                        refine g_icmp_ne 182 194 dMod_inject_182 rfl (fun h182 => ?_) (fun h182 => ?_)
                                        · refine g_iconst 194 0 dMod_inject_194 rfl ?_
                                          refine g_iastN 195 dMod_inject_195 hR1.1.T_settings (by omega) (by decide) ?_
                                          refine g_memM (rr_det hR1 he hla (by decide)) (kM hC1 (by decide)) (fun M2 hR2 hC2 => ?_)
                                          refine g_iload_n 196 dMod_inject_196 rfl ?_
                                          refine g_iconst 197 1 dMod_inject_197 rfl ?_
                                          refine g_icmp_ne 198 212 dMod_inject_198 rfl (fun h198 => ?_) (fun h198 => ?_)
                                          · refine g_iconst 212 1 dMod_inject_212 rfl ?_
                                            exact g_zret 213 dMod_inject_213 rfl (by decide) ⟨rfl, hR2, hC2⟩
                                          · exact absurd h198 (by decide)
                                        · exact absurd h182 (by decide)
                                      · exact absurd rfl h161
                                    · exact absurd (by decide) h151
                                  · exact absurd rfl h140
                              · exact absurd rfl h125
                            · exact absurd h105 (by decide)
                          · exact absurd h93 (by decide)
                      · exact absurd h30 h80
                    · exact absurd h57 (by decide)

set_option maxRecDepth 100000 in
set_option maxHeartbeats 4000000 in
theorem cm_inj_7 {X : mX} {l : Launch} {M : mM} {A : zA} {e : Nat} (hR : RR M A) (he : e < 2) {s x z : Int32} (hx0 : ¬ x < 0) (hx1 : ¬ 15 < x) (h30 : (zP A e).length < 30) : Ct X l uMod_inject (rk 1 26) [.ref 169, .int (nI e), .int 7, .int s, .int x, .int z] M (fun r M' => r = some (.int 1) ∧ RR M' (push A e (7, 0, x, 0, 0, [], [])) ∧ Chg M M' mP no2) := by
  refine Ct.of (by decide) (Nat.le_of_ble_eq_true rfl) ?_
  show G X l uMod_inject (rk 1 26) 0 0 M 0 [some (.ref 169), some (.int (nI e)), some (.int 7), some (.int s), some (.int x), some (.int z), none, none, none, none] [] _
  have hC : Chg M M mP no2 := Chg.rf
  refine g_iload_n 0 dMod_inject_0 rfl ?_
  refine g_if_eq 1 31 dMod_inject_1 rfl (fun h1 => ?_) (fun h1 => ?_)
  · exact absurd h1 (by decide)
  · refine g_iload_n 4 dMod_inject_4 rfl ?_
    refine g_iconst 5 1 dMod_inject_5 rfl ?_
    refine g_icmp_eq 6 31 dMod_inject_6 rfl (fun h6 => ?_) (fun h6 => ?_)
    · exact absurd h6 (by decide)
    · refine g_iload_n 9 dMod_inject_9 rfl ?_
      refine g_iconst 10 3 dMod_inject_10 rfl ?_
      refine g_icmp_eq 11 31 dMod_inject_11 rfl (fun h11 => ?_) (fun h11 => ?_)
      · exact absurd h11 (by decide)
      · refine g_iload_n 14 dMod_inject_14 rfl ?_
        refine g_iconst 15 4 dMod_inject_15 rfl ?_
        refine g_icmp_eq 16 31 dMod_inject_16 rfl (fun h16 => ?_) (fun h16 => ?_)
        · exact absurd h16 (by decide)
        · refine g_iload_n 19 dMod_inject_19 rfl ?_
          refine g_bipush 20 7 dMod_inject_20 rfl ?_
          refine g_icmp_eq 22 31 dMod_inject_22 rfl (fun h22 => ?_) (fun h22 => ?_)
          · refine g_iconst 31 1 dMod_inject_31 rfl ?_
            refine g_goto 32 36 dMod_inject_32 rfl ?_
            refine g_istore 36 dMod_inject_36 (by decide) rfl ?_
            refine g_iload_n 38 dMod_inject_38 rfl ?_
            refine g_callS 39 [_] dMod_inject_39 cs_Mod_171 rfl rfl ⟨(Nat.le_of_ble_eq_true rfl), (Nat.le_of_ble_eq_true rfl)⟩ (Nat.le_of_ble_eq_true rfl) (ct_isEnd_y he) (Nat.le_of_ble_eq_true rfl) (Nat.le_of_ble_eq_true rfl) ?_
            rintro _ M2 ⟨rfl, hM2⟩
            rw [hM2]
            clear hM2 M2
            refine g_if_eq 42 83 dMod_inject_42 rfl (fun h42 => ?_) (fun h42 => ?_)
            · exact absurd h42 (by decide)
            · refine g_iload 45 dMod_inject_45 rfl ?_
              refine g_if_eq 47 83 dMod_inject_47 rfl (fun h47 => ?_) (fun h47 => ?_)
              · exact absurd h47 (by decide)
              · refine g_iload_n 50 dMod_inject_50 rfl ?_
                refine g_if_eq 51 60 dMod_inject_51 rfl (fun h51 => ?_) (fun h51 => ?_)
                · exact absurd h51 (by decide)
                · refine g_iload_n 54 dMod_inject_54 rfl ?_
                  refine g_bipush 55 7 dMod_inject_55 rfl ?_
                  refine g_icmp_ne 57 72 dMod_inject_57 rfl (fun h57 => ?_) (fun h57 => ?_)
                  · exact absurd (by decide) h57
                  · refine g_iload 60 dMod_inject_60 rfl ?_
                    refine g_if_lt 62 83 dMod_inject_62 rfl (fun h62 => ?_) (fun h62 => ?_)
                    · exact absurd h62 hx0
                    · refine g_iload 65 dMod_inject_65 rfl ?_
                      refine g_bipush 67 15 dMod_inject_67 rfl ?_
                      refine g_icmp_gt 69 83 dMod_inject_69 rfl (fun h69 => ?_) (fun h69 => ?_)
                      · exact absurd h69 hx1
                      · refine g_aload_n 72 dMod_inject_72 rfl ?_
                        refine g_getr 73 10 2 dMod_inject_73 fs_Mod_16 rfl hR.1.mod hR.1.R_count ?_
                        refine g_iload_n 76 dMod_inject_76 rfl ?_
                        refine g_ialdN 77 dMod_inject_77 hR.1.T_count (by omega) (by decide) ?_
                        refine g_top (nI ((zP A e).length)) (hR.pc he) ?_
                        refine g_bipush 78 (nI 30) dMod_inject_78 rfl ?_
                        refine g_icmp_ltN 80 85 dMod_inject_80 rfl (by omega) (by omega) (fun h80 => ?_) (fun h80 => ?_)
                        · refine g_iload_n 85 dMod_inject_85 rfl ?_
                          refine g_iconst 86 4 dMod_inject_86 rfl ?_
                          refine g_icmp_eq 87 96 dMod_inject_87 rfl (fun h87 => ?_) (fun h87 => ?_)
                          · exact absurd h87 (by decide)
                          · refine g_iload_n 90 dMod_inject_90 rfl ?_
                            refine g_bipush 91 7 dMod_inject_91 rfl ?_
                            refine g_icmp_ne 93 100 dMod_inject_93 rfl (fun h93 => ?_) (fun h93 => ?_)
                            · exact absurd (by decide) h93
                            · refine g_iconst 96 1 dMod_inject_96 rfl ?_
                              refine g_goto 97 101 dMod_inject_97 rfl ?_
                              refine g_istore 101 dMod_inject_101 (by decide) rfl ?_
                              refine g_iload_n 103 dMod_inject_103 rfl ?_
                              refine g_iconst 104 4 dMod_inject_104 rfl ?_
                              refine g_icmp_ne 105 117 dMod_inject_105 rfl (fun h105 => ?_) (fun h105 => ?_)
                              · refine g_iconst 117 0 dMod_inject_117 rfl ?_
                                refine g_istore 118 dMod_inject_118 (by decide) rfl ?_
                                refine g_aload_n 120 dMod_inject_120 rfl ?_
                                refine g_iload_n 121 dMod_inject_121 rfl ?_
                                refine g_iload_n 122 dMod_inject_122 rfl ?_
                                refine g_iload 123 dMod_inject_123 rfl ?_
                                refine g_if_eq 125 132 dMod_inject_125 rfl (fun h125 => ?_) (fun h125 => ?_)
                                · exact absurd h125 (by decide)
                                · refine g_iconst 128 0 dMod_inject_128 rfl ?_
                                  refine g_goto 129 133 dMod_inject_129 rfl ?_
                                  refine g_iload_n 133 dMod_inject_133 rfl ?_
                                  refine g_iconst 134 1 dMod_inject_134 rfl ?_
                                  refine g_icmp_eq 135 143 dMod_inject_135 rfl (fun h135 => ?_) (fun h135 => ?_)
                                  · exact absurd h135 (by decide)
                                  · refine g_iload 138 dMod_inject_138 rfl ?_
                                    refine g_if_eq 140 147 dMod_inject_140 rfl (fun h140 => ?_) (fun h140 => ?_)
                                    · refine g_iload 147 dMod_inject_147 rfl ?_
                                      refine g_iload_n 149 dMod_inject_149 rfl ?_
                                      refine g_iconst 150 2 dMod_inject_150 rfl ?_
                                      refine g_icmp_ge 151 159 dMod_inject_151 rfl (fun h151 => ?_) (fun h151 => ?_)
                                      · refine g_iload 159 dMod_inject_159 rfl ?_
                                        refine g_if_eq 161 168 dMod_inject_161 rfl (fun h161 => ?_) (fun h161 => ?_)
                                        · refine g_iconst 168 0 dMod_inject_168 rfl ?_
                                          refine g_callV 169 [_, _, _, _, _] dMod_inject_169 cs_Mod_182 rfl (ci := 10) rfl (by decide) hR.1.mod rfl ⟨(Nat.le_of_ble_eq_true rfl), (Nat.le_of_ble_eq_true rfl)⟩ (Nat.le_of_ble_eq_true rfl) (ct_pushR hR he (show (zP A e).length < 47 by omega) (Or.inl rfl) [] (fun q => absurd q (by decide)) (fun q => absurd q (by decide))) (Nat.le_of_ble_eq_true rfl) (Nat.le_of_ble_eq_true rfl) ?_
                                          rintro _ M1 ⟨sl, hsl, rfl, hla, hR1, hc⟩
                                          have hC1 := hC.tr hc
                                          refine g_istore 172 dMod_inject_172 (by decide) rfl ?_
                                          refine g_aload_n 174 dMod_inject_174 rfl ?_
                                          refine g_getr 175 10 7 dMod_inject_175 fs_Mod_32 rfl hR1.1.mod hR1.1.R_settings ?_
                                          refine g_iload 178 dMod_inject_178 rfl ?_
                                          refine g_iload_n 180 dMod_inject_180 rfl ?_
                                          refine g_iconst 181 4 dMod_inject_181 rfl ?_
                                          refine g_icmp_ne 182 194 dMod_inject_182 rfl (fun h182 => ?_) (fun h182 => ?_)
                                          · refine g_iconst 194 0 dMod_inject_194 rfl ?_
                                            refine g_iastN 195 dMod_inject_195 hR1.1.T_settings (by omega) (by decide) ?_
                                            refine g_memM (rr_det hR1 he hla (by decide)) (kM hC1 (by decide)) (fun M2 hR2 hC2 => ?_)
                                            refine g_iload_n 196 dMod_inject_196 rfl ?_
                                            refine g_iconst 197 1 dMod_inject_197 rfl ?_
                                            refine g_icmp_ne 198 212 dMod_inject_198 rfl (fun h198 => ?_) (fun h198 => ?_)
                                            · refine g_iconst 212 1 dMod_inject_212 rfl ?_
                                              exact g_zret 213 dMod_inject_213 rfl (by decide) ⟨rfl, hR2, hC2⟩
                                            · exact absurd h198 (by decide)
                                          · exact absurd h182 (by decide)
                                        · exact absurd rfl h161
                                      · exact absurd (by decide) h151
                                    · exact absurd rfl h140
                              · exact absurd h105 (by decide)
                        · exact absurd h30 h80
          · exact absurd (by decide) h22

set_option maxRecDepth 100000 in
set_option maxHeartbeats 4000000 in
theorem cm_inj_4 {X : mX} {l : Launch} {M : mM} {A : zA} {e : Nat} (hR : RR M A) (he : e < 2) {s x : Int32} (h30 : (zP A e).length < 30) : Ct X l uMod_inject (rk 1 26) [.ref 169, .int (nI e), .int 4, .int s, .int x, .int 0] M (fun r M' => r = some (.int 1) ∧ RR M' (push A e (4, 0, x, 0, s, [], [])) ∧ Chg M M' mP no2) := by
  refine Ct.of (by decide) (Nat.le_of_ble_eq_true rfl) ?_
  show G X l uMod_inject (rk 1 26) 0 0 M 0 [some (.ref 169), some (.int (nI e)), some (.int 4), some (.int s), some (.int x), some (.int 0), none, none, none, none] [] _
  have hC : Chg M M mP no2 := Chg.rf
  refine g_iload_n 0 dMod_inject_0 rfl ?_
  refine g_if_eq 1 31 dMod_inject_1 rfl (fun h1 => ?_) (fun h1 => ?_)
  · exact absurd h1 (by decide)
  · refine g_iload_n 4 dMod_inject_4 rfl ?_
    refine g_iconst 5 1 dMod_inject_5 rfl ?_
    refine g_icmp_eq 6 31 dMod_inject_6 rfl (fun h6 => ?_) (fun h6 => ?_)
    · exact absurd h6 (by decide)
    · refine g_iload_n 9 dMod_inject_9 rfl ?_
      refine g_iconst 10 3 dMod_inject_10 rfl ?_
      refine g_icmp_eq 11 31 dMod_inject_11 rfl (fun h11 => ?_) (fun h11 => ?_)
      · exact absurd h11 (by decide)
      · refine g_iload_n 14 dMod_inject_14 rfl ?_
        refine g_iconst 15 4 dMod_inject_15 rfl ?_
        refine g_icmp_eq 16 31 dMod_inject_16 rfl (fun h16 => ?_) (fun h16 => ?_)
        · refine g_iconst 31 1 dMod_inject_31 rfl ?_
          refine g_goto 32 36 dMod_inject_32 rfl ?_
          refine g_istore 36 dMod_inject_36 (by decide) rfl ?_
          refine g_iload_n 38 dMod_inject_38 rfl ?_
          refine g_callS 39 [_] dMod_inject_39 cs_Mod_171 rfl rfl ⟨(Nat.le_of_ble_eq_true rfl), (Nat.le_of_ble_eq_true rfl)⟩ (Nat.le_of_ble_eq_true rfl) (ct_isEnd_y he) (Nat.le_of_ble_eq_true rfl) (Nat.le_of_ble_eq_true rfl) ?_
          rintro _ M2 ⟨rfl, hM2⟩
          rw [hM2]
          clear hM2 M2
          refine g_if_eq 42 83 dMod_inject_42 rfl (fun h42 => ?_) (fun h42 => ?_)
          · exact absurd h42 (by decide)
          · refine g_iload 45 dMod_inject_45 rfl ?_
            refine g_if_eq 47 83 dMod_inject_47 rfl (fun h47 => ?_) (fun h47 => ?_)
            · exact absurd h47 (by decide)
            · refine g_iload_n 50 dMod_inject_50 rfl ?_
              refine g_if_eq 51 60 dMod_inject_51 rfl (fun h51 => ?_) (fun h51 => ?_)
              · exact absurd h51 (by decide)
              · refine g_iload_n 54 dMod_inject_54 rfl ?_
                refine g_bipush 55 7 dMod_inject_55 rfl ?_
                refine g_icmp_ne 57 72 dMod_inject_57 rfl (fun h57 => ?_) (fun h57 => ?_)
                · refine g_aload_n 72 dMod_inject_72 rfl ?_
                  refine g_getr 73 10 2 dMod_inject_73 fs_Mod_16 rfl hR.1.mod hR.1.R_count ?_
                  refine g_iload_n 76 dMod_inject_76 rfl ?_
                  refine g_ialdN 77 dMod_inject_77 hR.1.T_count (by omega) (by decide) ?_
                  refine g_top (nI ((zP A e).length)) (hR.pc he) ?_
                  refine g_bipush 78 (nI 30) dMod_inject_78 rfl ?_
                  refine g_icmp_ltN 80 85 dMod_inject_80 rfl (by omega) (by omega) (fun h80 => ?_) (fun h80 => ?_)
                  · refine g_iload_n 85 dMod_inject_85 rfl ?_
                    refine g_iconst 86 4 dMod_inject_86 rfl ?_
                    refine g_icmp_eq 87 96 dMod_inject_87 rfl (fun h87 => ?_) (fun h87 => ?_)
                    · refine g_iconst 96 1 dMod_inject_96 rfl ?_
                      refine g_goto 97 101 dMod_inject_97 rfl ?_
                      refine g_istore 101 dMod_inject_101 (by decide) rfl ?_
                      refine g_iload_n 103 dMod_inject_103 rfl ?_
                      refine g_iconst 104 4 dMod_inject_104 rfl ?_
                      refine g_icmp_ne 105 117 dMod_inject_105 rfl (fun h105 => ?_) (fun h105 => ?_)
                      · exact absurd (by decide) h105
                      · refine g_iload 108 dMod_inject_108 rfl ?_
                        refine g_if_eq 110 117 dMod_inject_110 rfl (fun h110 => ?_) (fun h110 => ?_)
                        · refine g_iconst 117 0 dMod_inject_117 rfl ?_
                          refine g_istore 118 dMod_inject_118 (by decide) rfl ?_
                          refine g_aload_n 120 dMod_inject_120 rfl ?_
                          refine g_iload_n 121 dMod_inject_121 rfl ?_
                          refine g_iload_n 122 dMod_inject_122 rfl ?_
                          refine g_iload 123 dMod_inject_123 rfl ?_
                          refine g_if_eq 125 132 dMod_inject_125 rfl (fun h125 => ?_) (fun h125 => ?_)
                          · exact absurd h125 (by decide)
                          · refine g_iconst 128 0 dMod_inject_128 rfl ?_
                            refine g_goto 129 133 dMod_inject_129 rfl ?_
                            refine g_iload_n 133 dMod_inject_133 rfl ?_
                            refine g_iconst 134 1 dMod_inject_134 rfl ?_
                            refine g_icmp_eq 135 143 dMod_inject_135 rfl (fun h135 => ?_) (fun h135 => ?_)
                            · exact absurd h135 (by decide)
                            · refine g_iload 138 dMod_inject_138 rfl ?_
                              refine g_if_eq 140 147 dMod_inject_140 rfl (fun h140 => ?_) (fun h140 => ?_)
                              · refine g_iload 147 dMod_inject_147 rfl ?_
                                refine g_iload_n 149 dMod_inject_149 rfl ?_
                                refine g_iconst 150 2 dMod_inject_150 rfl ?_
                                refine g_icmp_ge 151 159 dMod_inject_151 rfl (fun h151 => ?_) (fun h151 => ?_)
                                · refine g_iload 159 dMod_inject_159 rfl ?_
                                  refine g_if_eq 161 168 dMod_inject_161 rfl (fun h161 => ?_) (fun h161 => ?_)
                                  · refine g_iconst 168 0 dMod_inject_168 rfl ?_
                                    refine g_callV 169 [_, _, _, _, _] dMod_inject_169 cs_Mod_182 rfl (ci := 10) rfl (by decide) hR.1.mod rfl ⟨(Nat.le_of_ble_eq_true rfl), (Nat.le_of_ble_eq_true rfl)⟩ (Nat.le_of_ble_eq_true rfl) (ct_pushR hR he (show (zP A e).length < 47 by omega) (Or.inl rfl) [] (fun q => absurd q (by decide)) (fun q => absurd q (by decide))) (Nat.le_of_ble_eq_true rfl) (Nat.le_of_ble_eq_true rfl) ?_
                                    rintro _ M1 ⟨sl, hsl, rfl, hla, hR1, hc⟩
                                    have hC1 := hC.tr hc
                                    refine g_istore 172 dMod_inject_172 (by decide) rfl ?_
                                    refine g_aload_n 174 dMod_inject_174 rfl ?_
                                    refine g_getr 175 10 7 dMod_inject_175 fs_Mod_32 rfl hR1.1.mod hR1.1.R_settings ?_
                                    refine g_iload 178 dMod_inject_178 rfl ?_
                                    refine g_iload_n 180 dMod_inject_180 rfl ?_
                                    refine g_iconst 181 4 dMod_inject_181 rfl ?_
                                    refine g_icmp_ne 182 194 dMod_inject_182 rfl (fun h182 => ?_) (fun h182 => ?_)
                                    · exact absurd (by decide) h182
                                    · refine g_iload 185 dMod_inject_185 rfl ?_
                                      refine g_if_ne 187 194 dMod_inject_187 rfl (fun h187 => ?_) (fun h187 => ?_)
                                      · exact absurd rfl h187
                                      · refine g_iload_n 190 dMod_inject_190 rfl ?_
                                        refine g_goto 191 195 dMod_inject_191 rfl ?_
                                        refine g_iastN 195 dMod_inject_195 hR1.1.T_settings (by omega) (by decide) ?_
                                        refine g_memM (rr_det hR1 he hla (by decide)) (kM hC1 (by decide)) (fun M2 hR2 hC2 => ?_)
                                        refine g_iload_n 196 dMod_inject_196 rfl ?_
                                        refine g_iconst 197 1 dMod_inject_197 rfl ?_
                                        refine g_icmp_ne 198 212 dMod_inject_198 rfl (fun h198 => ?_) (fun h198 => ?_)
                                        · refine g_iconst 212 1 dMod_inject_212 rfl ?_
                                          exact g_zret 213 dMod_inject_213 rfl (by decide) ⟨rfl, hR2, hC2⟩
                                        · exact absurd h198 (by decide)
                                  · exact absurd rfl h161
                                · exact absurd (by decide) h151
                              · exact absurd rfl h140
                        · exact absurd rfl h110
                    · exact absurd (by decide) h87
                  · exact absurd h30 h80
                · exact absurd h57 (by decide)
        · exact absurd (by decide) h16

set_option maxRecDepth 100000 in
set_option maxHeartbeats 4000000 in
theorem cm_inj_4a {X : mX} {l : Launch} {M : mM} {A : zA} {e : Nat} (hR : RR M A) (he : e < 2) {s x : Int32} (h30 : (zP A e).length < 30) : Ct X l uMod_inject (rk 1 26) [.ref 169, .int (nI e), .int 4, .int s, .int x, .int 1] M (fun r M' => r = some (.int 1) ∧ RR M' (push A e (4, 0, 0, 1, 0, [], [])) ∧ Chg M M' mP no2) := by
  refine Ct.of (by decide) (Nat.le_of_ble_eq_true rfl) ?_
  show G X l uMod_inject (rk 1 26) 0 0 M 0 [some (.ref 169), some (.int (nI e)), some (.int 4), some (.int s), some (.int x), some (.int 1), none, none, none, none] [] _
  have hC : Chg M M mP no2 := Chg.rf
  refine g_iload_n 0 dMod_inject_0 rfl ?_
  refine g_if_eq 1 31 dMod_inject_1 rfl (fun h1 => ?_) (fun h1 => ?_)
  · exact absurd h1 (by decide)
  · refine g_iload_n 4 dMod_inject_4 rfl ?_
    refine g_iconst 5 1 dMod_inject_5 rfl ?_
    refine g_icmp_eq 6 31 dMod_inject_6 rfl (fun h6 => ?_) (fun h6 => ?_)
    · exact absurd h6 (by decide)
    · refine g_iload_n 9 dMod_inject_9 rfl ?_
      refine g_iconst 10 3 dMod_inject_10 rfl ?_
      refine g_icmp_eq 11 31 dMod_inject_11 rfl (fun h11 => ?_) (fun h11 => ?_)
      · exact absurd h11 (by decide)
      · refine g_iload_n 14 dMod_inject_14 rfl ?_
        refine g_iconst 15 4 dMod_inject_15 rfl ?_
        refine g_icmp_eq 16 31 dMod_inject_16 rfl (fun h16 => ?_) (fun h16 => ?_)
        · refine g_iconst 31 1 dMod_inject_31 rfl ?_
          refine g_goto 32 36 dMod_inject_32 rfl ?_
          refine g_istore 36 dMod_inject_36 (by decide) rfl ?_
          refine g_iload_n 38 dMod_inject_38 rfl ?_
          refine g_callS 39 [_] dMod_inject_39 cs_Mod_171 rfl rfl ⟨(Nat.le_of_ble_eq_true rfl), (Nat.le_of_ble_eq_true rfl)⟩ (Nat.le_of_ble_eq_true rfl) (ct_isEnd_y he) (Nat.le_of_ble_eq_true rfl) (Nat.le_of_ble_eq_true rfl) ?_
          rintro _ M2 ⟨rfl, hM2⟩
          rw [hM2]
          clear hM2 M2
          refine g_if_eq 42 83 dMod_inject_42 rfl (fun h42 => ?_) (fun h42 => ?_)
          · exact absurd h42 (by decide)
          · refine g_iload 45 dMod_inject_45 rfl ?_
            refine g_if_eq 47 83 dMod_inject_47 rfl (fun h47 => ?_) (fun h47 => ?_)
            · exact absurd h47 (by decide)
            · refine g_iload_n 50 dMod_inject_50 rfl ?_
              refine g_if_eq 51 60 dMod_inject_51 rfl (fun h51 => ?_) (fun h51 => ?_)
              · exact absurd h51 (by decide)
              · refine g_iload_n 54 dMod_inject_54 rfl ?_
                refine g_bipush 55 7 dMod_inject_55 rfl ?_
                refine g_icmp_ne 57 72 dMod_inject_57 rfl (fun h57 => ?_) (fun h57 => ?_)
                · refine g_aload_n 72 dMod_inject_72 rfl ?_
                  refine g_getr 73 10 2 dMod_inject_73 fs_Mod_16 rfl hR.1.mod hR.1.R_count ?_
                  refine g_iload_n 76 dMod_inject_76 rfl ?_
                  refine g_ialdN 77 dMod_inject_77 hR.1.T_count (by omega) (by decide) ?_
                  refine g_top (nI ((zP A e).length)) (hR.pc he) ?_
                  refine g_bipush 78 (nI 30) dMod_inject_78 rfl ?_
                  refine g_icmp_ltN 80 85 dMod_inject_80 rfl (by omega) (by omega) (fun h80 => ?_) (fun h80 => ?_)
                  · refine g_iload_n 85 dMod_inject_85 rfl ?_
                    refine g_iconst 86 4 dMod_inject_86 rfl ?_
                    refine g_icmp_eq 87 96 dMod_inject_87 rfl (fun h87 => ?_) (fun h87 => ?_)
                    · refine g_iconst 96 1 dMod_inject_96 rfl ?_
                      refine g_goto 97 101 dMod_inject_97 rfl ?_
                      refine g_istore 101 dMod_inject_101 (by decide) rfl ?_
                      refine g_iload_n 103 dMod_inject_103 rfl ?_
                      refine g_iconst 104 4 dMod_inject_104 rfl ?_
                      refine g_icmp_ne 105 117 dMod_inject_105 rfl (fun h105 => ?_) (fun h105 => ?_)
                      · exact absurd (by decide) h105
                      · refine g_iload 108 dMod_inject_108 rfl ?_
                        refine g_if_eq 110 117 dMod_inject_110 rfl (fun h110 => ?_) (fun h110 => ?_)
                        · exact absurd h110 (by decide)
                        · refine g_iconst 113 1 dMod_inject_113 rfl ?_
                          refine g_goto 114 118 dMod_inject_114 rfl ?_
                          refine g_istore 118 dMod_inject_118 (by decide) rfl ?_
                          refine g_aload_n 120 dMod_inject_120 rfl ?_
                          refine g_iload_n 121 dMod_inject_121 rfl ?_
                          refine g_iload_n 122 dMod_inject_122 rfl ?_
                          refine g_iload 123 dMod_inject_123 rfl ?_
                          refine g_if_eq 125 132 dMod_inject_125 rfl (fun h125 => ?_) (fun h125 => ?_)
                          · exact absurd h125 (by decide)
                          · refine g_iconst 128 0 dMod_inject_128 rfl ?_
                            refine g_goto 129 133 dMod_inject_129 rfl ?_
                            refine g_iload_n 133 dMod_inject_133 rfl ?_
                            refine g_iconst 134 1 dMod_inject_134 rfl ?_
                            refine g_icmp_eq 135 143 dMod_inject_135 rfl (fun h135 => ?_) (fun h135 => ?_)
                            · exact absurd h135 (by decide)
                            · refine g_iload 138 dMod_inject_138 rfl ?_
                              refine g_if_eq 140 147 dMod_inject_140 rfl (fun h140 => ?_) (fun h140 => ?_)
                              · exact absurd h140 (by decide)
                              · refine g_iconst 143 0 dMod_inject_143 rfl ?_
                                refine g_goto 144 149 dMod_inject_144 rfl ?_
                                refine g_iload_n 149 dMod_inject_149 rfl ?_
                                refine g_iconst 150 2 dMod_inject_150 rfl ?_
                                refine g_icmp_ge 151 159 dMod_inject_151 rfl (fun h151 => ?_) (fun h151 => ?_)
                                · refine g_iload 159 dMod_inject_159 rfl ?_
                                  refine g_if_eq 161 168 dMod_inject_161 rfl (fun h161 => ?_) (fun h161 => ?_)
                                  · exact absurd h161 (by decide)
                                  · refine g_iconst 164 1 dMod_inject_164 rfl ?_
                                    refine g_goto 165 169 dMod_inject_165 rfl ?_
                                    refine g_callV 169 [_, _, _, _, _] dMod_inject_169 cs_Mod_182 rfl (ci := 10) rfl (by decide) hR.1.mod rfl ⟨(Nat.le_of_ble_eq_true rfl), (Nat.le_of_ble_eq_true rfl)⟩ (Nat.le_of_ble_eq_true rfl) (ct_pushR hR he (show (zP A e).length < 47 by omega) (Or.inr rfl) [] (fun q => absurd q (by decide)) (fun q => absurd q (by decide))) (Nat.le_of_ble_eq_true rfl) (Nat.le_of_ble_eq_true rfl) ?_
                                    rintro _ M1 ⟨sl, hsl, rfl, hla, hR1, hc⟩
                                    have hC1 := hC.tr hc
                                    refine g_istore 172 dMod_inject_172 (by decide) rfl ?_
                                    refine g_aload_n 174 dMod_inject_174 rfl ?_
                                    refine g_getr 175 10 7 dMod_inject_175 fs_Mod_32 rfl hR1.1.mod hR1.1.R_settings ?_
                                    refine g_iload 178 dMod_inject_178 rfl ?_
                                    refine g_iload_n 180 dMod_inject_180 rfl ?_
                                    refine g_iconst 181 4 dMod_inject_181 rfl ?_
                                    refine g_icmp_ne 182 194 dMod_inject_182 rfl (fun h182 => ?_) (fun h182 => ?_)
                                    · exact absurd (by decide) h182
                                    · refine g_iload 185 dMod_inject_185 rfl ?_
                                      refine g_if_ne 187 194 dMod_inject_187 rfl (fun h187 => ?_) (fun h187 => ?_)
                                      · refine g_iconst 194 0 dMod_inject_194 rfl ?_
                                        refine g_iastN 195 dMod_inject_195 hR1.1.T_settings (by omega) (by decide) ?_
                                        refine g_memM (rr_det hR1 he hla (by decide)) (kM hC1 (by decide)) (fun M2 hR2 hC2 => ?_)
                                        refine g_iload_n 196 dMod_inject_196 rfl ?_
                                        refine g_iconst 197 1 dMod_inject_197 rfl ?_
                                        refine g_icmp_ne 198 212 dMod_inject_198 rfl (fun h198 => ?_) (fun h198 => ?_)
                                        · refine g_iconst 212 1 dMod_inject_212 rfl ?_
                                          exact g_zret 213 dMod_inject_213 rfl (by decide) ⟨rfl, hR2, hC2⟩
                                        · exact absurd h198 (by decide)
                                      · exact absurd h187 (by decide)
                                · exact absurd (by decide) h151
                    · exact absurd (by decide) h87
                  · exact absurd h30 h80
                · exact absurd h57 (by decide)
        · exact absurd (by decide) h16

set_option maxRecDepth 100000 in
set_option maxHeartbeats 4000000 in
theorem cm_inj_0a {X : mX} {l : Launch} {M : mM} {A : zA} {e : Nat} (hR : RR M A) (he : e < 2) {s : Int32} {j : Nat} (hj : j ≤ 15) (h30 : (zP A e).length < 30) : Ct X l uMod_inject (rk 1 26) [.ref 169, .int (nI e), .int 0, .int s, .int (nI j), .int 0] M (fun r M' => r = some (.int 1) ∧ RR M' (push A e (0, s, nI j, 0, 0, List.replicate j 0, [])) ∧ Chg M M' mP no2) := by
  refine Ct.of (by decide) (Nat.le_of_ble_eq_true rfl) ?_
  show G X l uMod_inject (rk 1 26) 0 0 M 0 [some (.ref 169), some (.int (nI e)), some (.int 0), some (.int s), some (.int (nI j)), some (.int 0), none, none, none, none] [] _
  have hC : Chg M M mP no2 := Chg.rf
  refine g_iload_n 0 dMod_inject_0 rfl ?_
  refine g_if_eq 1 31 dMod_inject_1 rfl (fun h1 => ?_) (fun h1 => ?_)
  · refine g_iconst 31 1 dMod_inject_31 rfl ?_
    refine g_goto 32 36 dMod_inject_32 rfl ?_
    refine g_istore 36 dMod_inject_36 (by decide) rfl ?_
    refine g_iload_n 38 dMod_inject_38 rfl ?_
    refine g_callS 39 [_] dMod_inject_39 cs_Mod_171 rfl rfl ⟨(Nat.le_of_ble_eq_true rfl), (Nat.le_of_ble_eq_true rfl)⟩ (Nat.le_of_ble_eq_true rfl) (ct_isEnd_y he) (Nat.le_of_ble_eq_true rfl) (Nat.le_of_ble_eq_true rfl) ?_
    rintro _ M2 ⟨rfl, hM2⟩
    rw [hM2]
    clear hM2 M2
    refine g_if_eq 42 83 dMod_inject_42 rfl (fun h42 => ?_) (fun h42 => ?_)
    · exact absurd h42 (by decide)
    · refine g_iload 45 dMod_inject_45 rfl ?_
      refine g_if_eq 47 83 dMod_inject_47 rfl (fun h47 => ?_) (fun h47 => ?_)
      · exact absurd h47 (by decide)
      · refine g_iload_n 50 dMod_inject_50 rfl ?_
        refine g_if_eq 51 60 dMod_inject_51 rfl (fun h51 => ?_) (fun h51 => ?_)
        · refine g_iload 60 dMod_inject_60 rfl ?_
          refine g_if_ltN 62 83 dMod_inject_62 rfl (by omega) (fun h62 => ?_) (fun h62 => ?_)
          · exact absurd h62 (Nat.not_lt_zero _)
          · refine g_iload 65 dMod_inject_65 rfl ?_
            refine g_bipush 67 (nI 15) dMod_inject_67 rfl ?_
            refine g_icmp_gtN 69 83 dMod_inject_69 rfl (by omega) (by omega) (fun h69 => ?_) (fun h69 => ?_)
            · exact absurd h69 (by omega)
            · refine g_aload_n 72 dMod_inject_72 rfl ?_
              refine g_getr 73 10 2 dMod_inject_73 fs_Mod_16 rfl hR.1.mod hR.1.R_count ?_
              refine g_iload_n 76 dMod_inject_76 rfl ?_
              refine g_ialdN 77 dMod_inject_77 hR.1.T_count (by omega) (by decide) ?_
              refine g_top (nI ((zP A e).length)) (hR.pc he) ?_
              refine g_bipush 78 (nI 30) dMod_inject_78 rfl ?_
              refine g_icmp_ltN 80 85 dMod_inject_80 rfl (by omega) (by omega) (fun h80 => ?_) (fun h80 => ?_)
              · refine g_iload_n 85 dMod_inject_85 rfl ?_
                refine g_iconst 86 4 dMod_inject_86 rfl ?_
                refine g_icmp_eq 87 96 dMod_inject_87 rfl (fun h87 => ?_) (fun h87 => ?_)
                · exact absurd h87 (by decide)
                · refine g_iload_n 90 dMod_inject_90 rfl ?_
                  refine g_bipush 91 7 dMod_inject_91 rfl ?_
                  refine g_icmp_ne 93 100 dMod_inject_93 rfl (fun h93 => ?_) (fun h93 => ?_)
                  · refine g_iconst 100 0 dMod_inject_100 rfl ?_
                    refine g_istore 101 dMod_inject_101 (by decide) rfl ?_
                    refine g_iload_n 103 dMod_inject_103 rfl ?_
                    refine g_iconst 104 4 dMod_inject_104 rfl ?_
                    refine g_icmp_ne 105 117 dMod_inject_105 rfl (fun h105 => ?_) (fun h105 => ?_)
                    · refine g_iconst 117 0 dMod_inject_117 rfl ?_
                      refine g_istore 118 dMod_inject_118 (by decide) rfl ?_
                      refine g_aload_n 120 dMod_inject_120 rfl ?_
                      refine g_iload_n 121 dMod_inject_121 rfl ?_
                      refine g_iload_n 122 dMod_inject_122 rfl ?_
                      refine g_iload 123 dMod_inject_123 rfl ?_
                      refine g_if_eq 125 132 dMod_inject_125 rfl (fun h125 => ?_) (fun h125 => ?_)
                      · refine g_iload_n 132 dMod_inject_132 rfl ?_
                        refine g_iload_n 133 dMod_inject_133 rfl ?_
                        refine g_iconst 134 1 dMod_inject_134 rfl ?_
                        refine g_icmp_eq 135 143 dMod_inject_135 rfl (fun h135 => ?_) (fun h135 => ?_)
                        · exact absurd h135 (by decide)
                        · refine g_iload 138 dMod_inject_138 rfl ?_
                          refine g_if_eq 140 147 dMod_inject_140 rfl (fun h140 => ?_) (fun h140 => ?_)
                          · refine g_iload 147 dMod_inject_147 rfl ?_
                            refine g_iload_n 149 dMod_inject_149 rfl ?_
                            refine g_iconst 150 2 dMod_inject_150 rfl ?_
                            refine g_icmp_ge 151 159 dMod_inject_151 rfl (fun h151 => ?_) (fun h151 => ?_)
                            · exact absurd h151 (by decide)
                            · refine g_iload 154 dMod_inject_154 rfl ?_
                              refine g_if_ne 156 164 dMod_inject_156 rfl (fun h156 => ?_) (fun h156 => ?_)
                              · exact absurd rfl h156
                              · refine g_iload 159 dMod_inject_159 rfl ?_
                                refine g_if_eq 161 168 dMod_inject_161 rfl (fun h161 => ?_) (fun h161 => ?_)
                                · refine g_iconst 168 0 dMod_inject_168 rfl ?_
                                  refine g_callV 169 [_, _, _, _, _] dMod_inject_169 cs_Mod_182 rfl (ci := 10) rfl (by decide) hR.1.mod rfl ⟨(Nat.le_of_ble_eq_true rfl), (Nat.le_of_ble_eq_true rfl)⟩ (Nat.le_of_ble_eq_true rfl) (ct_pushR hR he (show (zP A e).length < 47 by omega) (Or.inl rfl) (List.replicate j 0) (fun _ => ⟨by rw [List.length_replicate], fun x hx => (List.mem_replicate.mp hx).2⟩) (fun q => absurd q (by decide))) (Nat.le_of_ble_eq_true rfl) (Nat.le_of_ble_eq_true rfl) ?_
                                  rintro _ M1 ⟨sl, hsl, rfl, hla, hR1, hc⟩
                                  have hC1 := hC.tr hc
                                  refine g_istore 172 dMod_inject_172 (by decide) rfl ?_
                                  refine g_aload_n 174 dMod_inject_174 rfl ?_
                                  refine g_getr 175 10 7 dMod_inject_175 fs_Mod_32 rfl hR1.1.mod hR1.1.R_settings ?_
                                  refine g_iload 178 dMod_inject_178 rfl ?_
                                  refine g_iload_n 180 dMod_inject_180 rfl ?_
                                  refine g_iconst 181 4 dMod_inject_181 rfl ?_
                                  refine g_icmp_ne 182 194 dMod_inject_182 rfl (fun h182 => ?_) (fun h182 => ?_)
                                  · refine g_iconst 194 0 dMod_inject_194 rfl ?_
                                    refine g_iastN 195 dMod_inject_195 hR1.1.T_settings (by omega) (by decide) ?_
                                    refine g_memM (rr_det hR1 he hla (by decide)) (kM hC1 (by decide)) (fun M2 hR2 hC2 => ?_)
                                    refine g_iload_n 196 dMod_inject_196 rfl ?_
                                    refine g_iconst 197 1 dMod_inject_197 rfl ?_
                                    refine g_icmp_ne 198 212 dMod_inject_198 rfl (fun h198 => ?_) (fun h198 => ?_)
                                    · refine g_iconst 212 1 dMod_inject_212 rfl ?_
                                      exact g_zret 213 dMod_inject_213 rfl (by decide) ⟨rfl, hR2, hC2⟩
                                    · exact absurd h198 (by decide)
                                  · exact absurd h182 (by decide)
                                · exact absurd rfl h161
                          · exact absurd rfl h140
                      · exact absurd rfl h125
                    · exact absurd h105 (by decide)
                  · exact absurd h93 (by decide)
              · exact absurd h30 h80
        · exact absurd rfl h51
  · exact absurd rfl h1

set_option maxRecDepth 100000 in
set_option maxHeartbeats 4000000 in
theorem cm_inj_1a {X : mX} {l : Launch} {M : mM} {A : zA} {e : Nat} (hR : RR M A) (he : e < 2) {s x : Int32} (h30 : (zP A e).length < 30) : Ct X l uMod_inject (rk 1 26) [.ref 169, .int (nI e), .int 1, .int s, .int x, .int 0] M (fun r M' => r = some (.int 1) ∧ RR M' (push A e (hfr s 0 [(1, x, 0, 0)])) ∧ Chg M M' mP no2) := by
  refine Ct.of (by decide) (Nat.le_of_ble_eq_true rfl) ?_
  show G X l uMod_inject (rk 1 26) 0 0 M 0 [some (.ref 169), some (.int (nI e)), some (.int 1), some (.int s), some (.int x), some (.int 0), none, none, none, none] [] _
  have hC : Chg M M mP no2 := Chg.rf
  refine g_iload_n 0 dMod_inject_0 rfl ?_
  refine g_if_eq 1 31 dMod_inject_1 rfl (fun h1 => ?_) (fun h1 => ?_)
  · exact absurd h1 (by decide)
  · refine g_iload_n 4 dMod_inject_4 rfl ?_
    refine g_iconst 5 1 dMod_inject_5 rfl ?_
    refine g_icmp_eq 6 31 dMod_inject_6 rfl (fun h6 => ?_) (fun h6 => ?_)
    · refine g_iconst 31 1 dMod_inject_31 rfl ?_
      refine g_goto 32 36 dMod_inject_32 rfl ?_
      refine g_istore 36 dMod_inject_36 (by decide) rfl ?_
      refine g_iload_n 38 dMod_inject_38 rfl ?_
      refine g_callS 39 [_] dMod_inject_39 cs_Mod_171 rfl rfl ⟨(Nat.le_of_ble_eq_true rfl), (Nat.le_of_ble_eq_true rfl)⟩ (Nat.le_of_ble_eq_true rfl) (ct_isEnd_y he) (Nat.le_of_ble_eq_true rfl) (Nat.le_of_ble_eq_true rfl) ?_
      rintro _ M2 ⟨rfl, hM2⟩
      rw [hM2]
      clear hM2 M2
      refine g_if_eq 42 83 dMod_inject_42 rfl (fun h42 => ?_) (fun h42 => ?_)
      · exact absurd h42 (by decide)
      · refine g_iload 45 dMod_inject_45 rfl ?_
        refine g_if_eq 47 83 dMod_inject_47 rfl (fun h47 => ?_) (fun h47 => ?_)
        · exact absurd h47 (by decide)
        · refine g_iload_n 50 dMod_inject_50 rfl ?_
          refine g_if_eq 51 60 dMod_inject_51 rfl (fun h51 => ?_) (fun h51 => ?_)
          · exact absurd h51 (by decide)
          · refine g_iload_n 54 dMod_inject_54 rfl ?_
            refine g_bipush 55 7 dMod_inject_55 rfl ?_
            refine g_icmp_ne 57 72 dMod_inject_57 rfl (fun h57 => ?_) (fun h57 => ?_)
            · refine g_aload_n 72 dMod_inject_72 rfl ?_
              refine g_getr 73 10 2 dMod_inject_73 fs_Mod_16 rfl hR.1.mod hR.1.R_count ?_
              refine g_iload_n 76 dMod_inject_76 rfl ?_
              refine g_ialdN 77 dMod_inject_77 hR.1.T_count (by omega) (by decide) ?_
              refine g_top (nI ((zP A e).length)) (hR.pc he) ?_
              refine g_bipush 78 (nI 30) dMod_inject_78 rfl ?_
              refine g_icmp_ltN 80 85 dMod_inject_80 rfl (by omega) (by omega) (fun h80 => ?_) (fun h80 => ?_)
              · refine g_iload_n 85 dMod_inject_85 rfl ?_
                refine g_iconst 86 4 dMod_inject_86 rfl ?_
                refine g_icmp_eq 87 96 dMod_inject_87 rfl (fun h87 => ?_) (fun h87 => ?_)
                · exact absurd h87 (by decide)
                · refine g_iload_n 90 dMod_inject_90 rfl ?_
                  refine g_bipush 91 7 dMod_inject_91 rfl ?_
                  refine g_icmp_ne 93 100 dMod_inject_93 rfl (fun h93 => ?_) (fun h93 => ?_)
                  · refine g_iconst 100 0 dMod_inject_100 rfl ?_
                    refine g_istore 101 dMod_inject_101 (by decide) rfl ?_
                    refine g_iload_n 103 dMod_inject_103 rfl ?_
                    refine g_iconst 104 4 dMod_inject_104 rfl ?_
                    refine g_icmp_ne 105 117 dMod_inject_105 rfl (fun h105 => ?_) (fun h105 => ?_)
                    · refine g_iconst 117 0 dMod_inject_117 rfl ?_
                      refine g_istore 118 dMod_inject_118 (by decide) rfl ?_
                      refine g_aload_n 120 dMod_inject_120 rfl ?_
                      refine g_iload_n 121 dMod_inject_121 rfl ?_
                      refine g_iload_n 122 dMod_inject_122 rfl ?_
                      refine g_iload 123 dMod_inject_123 rfl ?_
                      refine g_if_eq 125 132 dMod_inject_125 rfl (fun h125 => ?_) (fun h125 => ?_)
                      · refine g_iload_n 132 dMod_inject_132 rfl ?_
                        refine g_iload_n 133 dMod_inject_133 rfl ?_
                        refine g_iconst 134 1 dMod_inject_134 rfl ?_
                        refine g_icmp_eq 135 143 dMod_inject_135 rfl (fun h135 => ?_) (fun h135 => ?_)
                        · refine g_iconst 143 0 dMod_inject_143 rfl ?_
                          refine g_goto 144 149 dMod_inject_144 rfl ?_
                          refine g_iload_n 149 dMod_inject_149 rfl ?_
                          refine g_iconst 150 2 dMod_inject_150 rfl ?_
                          refine g_icmp_ge 151 159 dMod_inject_151 rfl (fun h151 => ?_) (fun h151 => ?_)
                          · exact absurd h151 (by decide)
                          · refine g_iload 154 dMod_inject_154 rfl ?_
                            refine g_if_ne 156 164 dMod_inject_156 rfl (fun h156 => ?_) (fun h156 => ?_)
                            · exact absurd rfl h156
                            · refine g_iload 159 dMod_inject_159 rfl ?_
                              refine g_if_eq 161 168 dMod_inject_161 rfl (fun h161 => ?_) (fun h161 => ?_)
                              · refine g_iconst 168 0 dMod_inject_168 rfl ?_
                                refine g_callV 169 [_, _, _, _, _] dMod_inject_169 cs_Mod_182 rfl (ci := 10) rfl (by decide) hR.1.mod rfl ⟨(Nat.le_of_ble_eq_true rfl), (Nat.le_of_ble_eq_true rfl)⟩ (Nat.le_of_ble_eq_true rfl) (ct_pushR hR he (show (zP A e).length < 47 by omega) (Or.inl rfl) [] (fun q => absurd q (by decide)) (fun _ => rfl)) (Nat.le_of_ble_eq_true rfl) (Nat.le_of_ble_eq_true rfl) ?_
                                rintro _ M1 ⟨sl, hsl, rfl, hla, hR1, hc⟩
                                have hC1 := hC.tr hc
                                refine g_istore 172 dMod_inject_172 (by decide) rfl ?_
                                refine g_aload_n 174 dMod_inject_174 rfl ?_
                                refine g_getr 175 10 7 dMod_inject_175 fs_Mod_32 rfl hR1.1.mod hR1.1.R_settings ?_
                                refine g_iload 178 dMod_inject_178 rfl ?_
                                refine g_iload_n 180 dMod_inject_180 rfl ?_
                                refine g_iconst 181 4 dMod_inject_181 rfl ?_
                                refine g_icmp_ne 182 194 dMod_inject_182 rfl (fun h182 => ?_) (fun h182 => ?_)
                                · refine g_iconst 194 0 dMod_inject_194 rfl ?_
                                  refine g_iastN 195 dMod_inject_195 hR1.1.T_settings (by omega) (by decide) ?_
                                  refine g_memL (A := push A e (hfr s 0 [])) (rr_det1 hR1 he hla) (kM hC1 (by decide)) (hla.mv (Chg.rf.setI (PI := fun a j => a = 177) (PR := no2) (Or.inl rfl)) hR1.1.1 fun a j q => by omega) (fun M2 hR2 hC2 hla2 => ?_)
                                  refine g_iload_n 196 dMod_inject_196 rfl ?_
                                  refine g_iconst 197 1 dMod_inject_197 rfl ?_
                                  refine g_icmp_ne 198 212 dMod_inject_198 rfl (fun h198 => ?_) (fun h198 => ?_)
                                  · exact absurd (by decide) h198
                                  · refine g_aload_n 201 dMod_inject_201 rfl ?_
                                    refine g_iload 202 dMod_inject_202 rfl ?_
                                    refine g_iconst 204 1 dMod_inject_204 rfl ?_
                                    refine g_iload 205 dMod_inject_205 rfl ?_
                                    refine g_iconst 207 0 dMod_inject_207 rfl ?_
                                    refine g_iconst 208 0 dMod_inject_208 rfl ?_
                                    refine g_callV 209 [_, _, _, _, _] dMod_inject_209 cs_Mod_219 rfl (ci := 10) rfl (by decide) hR2.1.mod rfl ⟨(Nat.le_of_ble_eq_true rfl), (Nat.le_of_ble_eq_true rfl)⟩ (Nat.le_of_ble_eq_true rfl) (ct_stepP (S := []) hR2 he hla2 (by decide)) (Nat.le_of_ble_eq_true rfl) (Nat.le_of_ble_eq_true rfl) ?_
                                    rintro _ M3 ⟨rfl, hR3, hc, _⟩
                                    have hC3 := hC2.tr hc
                                    refine g_iconst 212 1 dMod_inject_212 rfl ?_
                                    exact g_zret 213 dMod_inject_213 rfl (by decide) ⟨rfl, hR3, hC3⟩
                                · exact absurd h182 (by decide)
                              · exact absurd rfl h161
                        · exact absurd (by decide) h135
                      · exact absurd rfl h125
                    · exact absurd h105 (by decide)
                  · exact absurd h93 (by decide)
              · exact absurd h30 h80
            · exact absurd h57 (by decide)
    · exact absurd (by decide) h6

set_option maxRecDepth 100000 in
set_option maxHeartbeats 4000000 in
theorem cm_inj_0b {X : mX} {l : Launch} {M : mM} {A : zA} {e : Nat} (hR : RR M A) (he : e < 2) {s : Int32} {j : Nat} (hj : j ≤ 15) (h30 : (zP A e).length < 30) : Ct X l uMod_inject (rk 1 26) [.ref 169, .int (nI e), .int 0, .int s, .int (nI j), .int 1] M (fun r M' => r = some (.int 1) ∧ RR M' (push A e (0, s, nI j, 1, 0, List.replicate j 0, [])) ∧ Chg M M' mP no2) := by
  refine Ct.of (by decide) (Nat.le_of_ble_eq_true rfl) ?_
  show G X l uMod_inject (rk 1 26) 0 0 M 0 [some (.ref 169), some (.int (nI e)), some (.int 0), some (.int s), some (.int (nI j)), some (.int 1), none, none, none, none] [] _
  have hC : Chg M M mP no2 := Chg.rf
  refine g_iload_n 0 dMod_inject_0 rfl ?_
  refine g_if_eq 1 31 dMod_inject_1 rfl (fun h1 => ?_) (fun h1 => ?_)
  · refine g_iconst 31 1 dMod_inject_31 rfl ?_
    refine g_goto 32 36 dMod_inject_32 rfl ?_
    refine g_istore 36 dMod_inject_36 (by decide) rfl ?_
    refine g_iload_n 38 dMod_inject_38 rfl ?_
    refine g_callS 39 [_] dMod_inject_39 cs_Mod_171 rfl rfl ⟨(Nat.le_of_ble_eq_true rfl), (Nat.le_of_ble_eq_true rfl)⟩ (Nat.le_of_ble_eq_true rfl) (ct_isEnd_y he) (Nat.le_of_ble_eq_true rfl) (Nat.le_of_ble_eq_true rfl) ?_
    rintro _ M2 ⟨rfl, hM2⟩
    rw [hM2]
    clear hM2 M2
    refine g_if_eq 42 83 dMod_inject_42 rfl (fun h42 => ?_) (fun h42 => ?_)
    · exact absurd h42 (by decide)
    · refine g_iload 45 dMod_inject_45 rfl ?_
      refine g_if_eq 47 83 dMod_inject_47 rfl (fun h47 => ?_) (fun h47 => ?_)
      · exact absurd h47 (by decide)
      · refine g_iload_n 50 dMod_inject_50 rfl ?_
        refine g_if_eq 51 60 dMod_inject_51 rfl (fun h51 => ?_) (fun h51 => ?_)
        · refine g_iload 60 dMod_inject_60 rfl ?_
          refine g_if_ltN 62 83 dMod_inject_62 rfl (by omega) (fun h62 => ?_) (fun h62 => ?_)
          · exact absurd h62 (Nat.not_lt_zero _)
          · refine g_iload 65 dMod_inject_65 rfl ?_
            refine g_bipush 67 (nI 15) dMod_inject_67 rfl ?_
            refine g_icmp_gtN 69 83 dMod_inject_69 rfl (by omega) (by omega) (fun h69 => ?_) (fun h69 => ?_)
            · exact absurd h69 (by omega)
            · refine g_aload_n 72 dMod_inject_72 rfl ?_
              refine g_getr 73 10 2 dMod_inject_73 fs_Mod_16 rfl hR.1.mod hR.1.R_count ?_
              refine g_iload_n 76 dMod_inject_76 rfl ?_
              refine g_ialdN 77 dMod_inject_77 hR.1.T_count (by omega) (by decide) ?_
              refine g_top (nI ((zP A e).length)) (hR.pc he) ?_
              refine g_bipush 78 (nI 30) dMod_inject_78 rfl ?_
              refine g_icmp_ltN 80 85 dMod_inject_80 rfl (by omega) (by omega) (fun h80 => ?_) (fun h80 => ?_)
              · refine g_iload_n 85 dMod_inject_85 rfl ?_
                refine g_iconst 86 4 dMod_inject_86 rfl ?_
                refine g_icmp_eq 87 96 dMod_inject_87 rfl (fun h87 => ?_) (fun h87 => ?_)
                · exact absurd h87 (by decide)
                · refine g_iload_n 90 dMod_inject_90 rfl ?_
                  refine g_bipush 91 7 dMod_inject_91 rfl ?_
                  refine g_icmp_ne 93 100 dMod_inject_93 rfl (fun h93 => ?_) (fun h93 => ?_)
                  · refine g_iconst 100 0 dMod_inject_100 rfl ?_
                    refine g_istore 101 dMod_inject_101 (by decide) rfl ?_
                    refine g_iload_n 103 dMod_inject_103 rfl ?_
                    refine g_iconst 104 4 dMod_inject_104 rfl ?_
                    refine g_icmp_ne 105 117 dMod_inject_105 rfl (fun h105 => ?_) (fun h105 => ?_)
                    · refine g_iconst 117 0 dMod_inject_117 rfl ?_
                      refine g_istore 118 dMod_inject_118 (by decide) rfl ?_
                      refine g_aload_n 120 dMod_inject_120 rfl ?_
                      refine g_iload_n 121 dMod_inject_121 rfl ?_
                      refine g_iload_n 122 dMod_inject_122 rfl ?_
                      refine g_iload 123 dMod_inject_123 rfl ?_
                      refine g_if_eq 125 132 dMod_inject_125 rfl (fun h125 => ?_) (fun h125 => ?_)
                      · refine g_iload_n 132 dMod_inject_132 rfl ?_
                        refine g_iload_n 133 dMod_inject_133 rfl ?_
                        refine g_iconst 134 1 dMod_inject_134 rfl ?_
                        refine g_icmp_eq 135 143 dMod_inject_135 rfl (fun h135 => ?_) (fun h135 => ?_)
                        · exact absurd h135 (by decide)
                        · refine g_iload 138 dMod_inject_138 rfl ?_
                          refine g_if_eq 140 147 dMod_inject_140 rfl (fun h140 => ?_) (fun h140 => ?_)
                          · refine g_iload 147 dMod_inject_147 rfl ?_
                            refine g_iload_n 149 dMod_inject_149 rfl ?_
                            refine g_iconst 150 2 dMod_inject_150 rfl ?_
                            refine g_icmp_ge 151 159 dMod_inject_151 rfl (fun h151 => ?_) (fun h151 => ?_)
                            · exact absurd h151 (by decide)
                            · refine g_iload 154 dMod_inject_154 rfl ?_
                              refine g_if_ne 156 164 dMod_inject_156 rfl (fun h156 => ?_) (fun h156 => ?_)
                              · refine g_iconst 164 1 dMod_inject_164 rfl ?_
                                refine g_goto 165 169 dMod_inject_165 rfl ?_
                                refine g_callV 169 [_, _, _, _, _] dMod_inject_169 cs_Mod_182 rfl (ci := 10) rfl (by decide) hR.1.mod rfl ⟨(Nat.le_of_ble_eq_true rfl), (Nat.le_of_ble_eq_true rfl)⟩ (Nat.le_of_ble_eq_true rfl) (ct_pushR hR he (show (zP A e).length < 47 by omega) (Or.inr rfl) (List.replicate j 0) (fun _ => ⟨by rw [List.length_replicate], fun x hx => (List.mem_replicate.mp hx).2⟩) (fun q => absurd q (by decide))) (Nat.le_of_ble_eq_true rfl) (Nat.le_of_ble_eq_true rfl) ?_
                                rintro _ M1 ⟨sl, hsl, rfl, hla, hR1, hc⟩
                                have hC1 := hC.tr hc
                                refine g_istore 172 dMod_inject_172 (by decide) rfl ?_
                                refine g_aload_n 174 dMod_inject_174 rfl ?_
                                refine g_getr 175 10 7 dMod_inject_175 fs_Mod_32 rfl hR1.1.mod hR1.1.R_settings ?_
                                refine g_iload 178 dMod_inject_178 rfl ?_
                                refine g_iload_n 180 dMod_inject_180 rfl ?_
                                refine g_iconst 181 4 dMod_inject_181 rfl ?_
                                refine g_icmp_ne 182 194 dMod_inject_182 rfl (fun h182 => ?_) (fun h182 => ?_)
                                · refine g_iconst 194 0 dMod_inject_194 rfl ?_
                                  refine g_iastN 195 dMod_inject_195 hR1.1.T_settings (by omega) (by decide) ?_
                                  refine g_memM (rr_det hR1 he hla (by decide)) (kM hC1 (by decide)) (fun M2 hR2 hC2 => ?_)
                                  refine g_iload_n 196 dMod_inject_196 rfl ?_
                                  refine g_iconst 197 1 dMod_inject_197 rfl ?_
                                  refine g_icmp_ne 198 212 dMod_inject_198 rfl (fun h198 => ?_) (fun h198 => ?_)
                                  · refine g_iconst 212 1 dMod_inject_212 rfl ?_
                                    exact g_zret 213 dMod_inject_213 rfl (by decide) ⟨rfl, hR2, hC2⟩
                                  · exact absurd h198 (by decide)
                                · exact absurd h182 (by decide)
                              · exact absurd h156 (by decide)
                          · exact absurd rfl h140
                      · exact absurd rfl h125
                    · exact absurd h105 (by decide)
                  · exact absurd h93 (by decide)
              · exact absurd h30 h80
        · exact absurd rfl h51
  · exact absurd rfl h1

set_option maxRecDepth 100000 in
set_option maxHeartbeats 4000000 in
theorem cm_inj_1b {X : mX} {l : Launch} {M : mM} {A : zA} {e : Nat} (hR : RR M A) (he : e < 2) {s x : Int32} (h30 : (zP A e).length < 30) : Ct X l uMod_inject (rk 1 26) [.ref 169, .int (nI e), .int 1, .int s, .int x, .int 1] M (fun r M' => r = some (.int 1) ∧ RR M' (push A e (hfr s 1 [(1, x, 0, 0)])) ∧ Chg M M' mP no2) := by
  refine Ct.of (by decide) (Nat.le_of_ble_eq_true rfl) ?_
  show G X l uMod_inject (rk 1 26) 0 0 M 0 [some (.ref 169), some (.int (nI e)), some (.int 1), some (.int s), some (.int x), some (.int 1), none, none, none, none] [] _
  have hC : Chg M M mP no2 := Chg.rf
  refine g_iload_n 0 dMod_inject_0 rfl ?_
  refine g_if_eq 1 31 dMod_inject_1 rfl (fun h1 => ?_) (fun h1 => ?_)
  · exact absurd h1 (by decide)
  · refine g_iload_n 4 dMod_inject_4 rfl ?_
    refine g_iconst 5 1 dMod_inject_5 rfl ?_
    refine g_icmp_eq 6 31 dMod_inject_6 rfl (fun h6 => ?_) (fun h6 => ?_)
    · refine g_iconst 31 1 dMod_inject_31 rfl ?_
      refine g_goto 32 36 dMod_inject_32 rfl ?_
      refine g_istore 36 dMod_inject_36 (by decide) rfl ?_
      refine g_iload_n 38 dMod_inject_38 rfl ?_
      refine g_callS 39 [_] dMod_inject_39 cs_Mod_171 rfl rfl ⟨(Nat.le_of_ble_eq_true rfl), (Nat.le_of_ble_eq_true rfl)⟩ (Nat.le_of_ble_eq_true rfl) (ct_isEnd_y he) (Nat.le_of_ble_eq_true rfl) (Nat.le_of_ble_eq_true rfl) ?_
      rintro _ M2 ⟨rfl, hM2⟩
      rw [hM2]
      clear hM2 M2
      refine g_if_eq 42 83 dMod_inject_42 rfl (fun h42 => ?_) (fun h42 => ?_)
      · exact absurd h42 (by decide)
      · refine g_iload 45 dMod_inject_45 rfl ?_
        refine g_if_eq 47 83 dMod_inject_47 rfl (fun h47 => ?_) (fun h47 => ?_)
        · exact absurd h47 (by decide)
        · refine g_iload_n 50 dMod_inject_50 rfl ?_
          refine g_if_eq 51 60 dMod_inject_51 rfl (fun h51 => ?_) (fun h51 => ?_)
          · exact absurd h51 (by decide)
          · refine g_iload_n 54 dMod_inject_54 rfl ?_
            refine g_bipush 55 7 dMod_inject_55 rfl ?_
            refine g_icmp_ne 57 72 dMod_inject_57 rfl (fun h57 => ?_) (fun h57 => ?_)
            · refine g_aload_n 72 dMod_inject_72 rfl ?_
              refine g_getr 73 10 2 dMod_inject_73 fs_Mod_16 rfl hR.1.mod hR.1.R_count ?_
              refine g_iload_n 76 dMod_inject_76 rfl ?_
              refine g_ialdN 77 dMod_inject_77 hR.1.T_count (by omega) (by decide) ?_
              refine g_top (nI ((zP A e).length)) (hR.pc he) ?_
              refine g_bipush 78 (nI 30) dMod_inject_78 rfl ?_
              refine g_icmp_ltN 80 85 dMod_inject_80 rfl (by omega) (by omega) (fun h80 => ?_) (fun h80 => ?_)
              · refine g_iload_n 85 dMod_inject_85 rfl ?_
                refine g_iconst 86 4 dMod_inject_86 rfl ?_
                refine g_icmp_eq 87 96 dMod_inject_87 rfl (fun h87 => ?_) (fun h87 => ?_)
                · exact absurd h87 (by decide)
                · refine g_iload_n 90 dMod_inject_90 rfl ?_
                  refine g_bipush 91 7 dMod_inject_91 rfl ?_
                  refine g_icmp_ne 93 100 dMod_inject_93 rfl (fun h93 => ?_) (fun h93 => ?_)
                  · refine g_iconst 100 0 dMod_inject_100 rfl ?_
                    refine g_istore 101 dMod_inject_101 (by decide) rfl ?_
                    refine g_iload_n 103 dMod_inject_103 rfl ?_
                    refine g_iconst 104 4 dMod_inject_104 rfl ?_
                    refine g_icmp_ne 105 117 dMod_inject_105 rfl (fun h105 => ?_) (fun h105 => ?_)
                    · refine g_iconst 117 0 dMod_inject_117 rfl ?_
                      refine g_istore 118 dMod_inject_118 (by decide) rfl ?_
                      refine g_aload_n 120 dMod_inject_120 rfl ?_
                      refine g_iload_n 121 dMod_inject_121 rfl ?_
                      refine g_iload_n 122 dMod_inject_122 rfl ?_
                      refine g_iload 123 dMod_inject_123 rfl ?_
                      refine g_if_eq 125 132 dMod_inject_125 rfl (fun h125 => ?_) (fun h125 => ?_)
                      · refine g_iload_n 132 dMod_inject_132 rfl ?_
                        refine g_iload_n 133 dMod_inject_133 rfl ?_
                        refine g_iconst 134 1 dMod_inject_134 rfl ?_
                        refine g_icmp_eq 135 143 dMod_inject_135 rfl (fun h135 => ?_) (fun h135 => ?_)
                        · refine g_iconst 143 0 dMod_inject_143 rfl ?_
                          refine g_goto 144 149 dMod_inject_144 rfl ?_
                          refine g_iload_n 149 dMod_inject_149 rfl ?_
                          refine g_iconst 150 2 dMod_inject_150 rfl ?_
                          refine g_icmp_ge 151 159 dMod_inject_151 rfl (fun h151 => ?_) (fun h151 => ?_)
                          · exact absurd h151 (by decide)
                          · refine g_iload 154 dMod_inject_154 rfl ?_
                            refine g_if_ne 156 164 dMod_inject_156 rfl (fun h156 => ?_) (fun h156 => ?_)
                            · refine g_iconst 164 1 dMod_inject_164 rfl ?_
                              refine g_goto 165 169 dMod_inject_165 rfl ?_
                              refine g_callV 169 [_, _, _, _, _] dMod_inject_169 cs_Mod_182 rfl (ci := 10) rfl (by decide) hR.1.mod rfl ⟨(Nat.le_of_ble_eq_true rfl), (Nat.le_of_ble_eq_true rfl)⟩ (Nat.le_of_ble_eq_true rfl) (ct_pushR hR he (show (zP A e).length < 47 by omega) (Or.inr rfl) [] (fun q => absurd q (by decide)) (fun _ => rfl)) (Nat.le_of_ble_eq_true rfl) (Nat.le_of_ble_eq_true rfl) ?_
                              rintro _ M1 ⟨sl, hsl, rfl, hla, hR1, hc⟩
                              have hC1 := hC.tr hc
                              refine g_istore 172 dMod_inject_172 (by decide) rfl ?_
                              refine g_aload_n 174 dMod_inject_174 rfl ?_
                              refine g_getr 175 10 7 dMod_inject_175 fs_Mod_32 rfl hR1.1.mod hR1.1.R_settings ?_
                              refine g_iload 178 dMod_inject_178 rfl ?_
                              refine g_iload_n 180 dMod_inject_180 rfl ?_
                              refine g_iconst 181 4 dMod_inject_181 rfl ?_
                              refine g_icmp_ne 182 194 dMod_inject_182 rfl (fun h182 => ?_) (fun h182 => ?_)
                              · refine g_iconst 194 0 dMod_inject_194 rfl ?_
                                refine g_iastN 195 dMod_inject_195 hR1.1.T_settings (by omega) (by decide) ?_
                                refine g_memL (A := push A e (hfr s 1 [])) (rr_det1 hR1 he hla) (kM hC1 (by decide)) (hla.mv (Chg.rf.setI (PI := fun a j => a = 177) (PR := no2) (Or.inl rfl)) hR1.1.1 fun a j q => by omega) (fun M2 hR2 hC2 hla2 => ?_)
                                refine g_iload_n 196 dMod_inject_196 rfl ?_
                                refine g_iconst 197 1 dMod_inject_197 rfl ?_
                                refine g_icmp_ne 198 212 dMod_inject_198 rfl (fun h198 => ?_) (fun h198 => ?_)
                                · exact absurd (by decide) h198
                                · refine g_aload_n 201 dMod_inject_201 rfl ?_
                                  refine g_iload 202 dMod_inject_202 rfl ?_
                                  refine g_iconst 204 1 dMod_inject_204 rfl ?_
                                  refine g_iload 205 dMod_inject_205 rfl ?_
                                  refine g_iconst 207 0 dMod_inject_207 rfl ?_
                                  refine g_iconst 208 0 dMod_inject_208 rfl ?_
                                  refine g_callV 209 [_, _, _, _, _] dMod_inject_209 cs_Mod_219 rfl (ci := 10) rfl (by decide) hR2.1.mod rfl ⟨(Nat.le_of_ble_eq_true rfl), (Nat.le_of_ble_eq_true rfl)⟩ (Nat.le_of_ble_eq_true rfl) (ct_stepP (S := []) hR2 he hla2 (by decide)) (Nat.le_of_ble_eq_true rfl) (Nat.le_of_ble_eq_true rfl) ?_
                                  rintro _ M3 ⟨rfl, hR3, hc, _⟩
                                  have hC3 := hC2.tr hc
                                  refine g_iconst 212 1 dMod_inject_212 rfl ?_
                                  exact g_zret 213 dMod_inject_213 rfl (by decide) ⟨rfl, hR3, hC3⟩
                              · exact absurd h182 (by decide)
                            · exact absurd h156 (by decide)
                        · exact absurd (by decide) h135
                      · exact absurd rfl h125
                    · exact absurd h105 (by decide)
                  · exact absurd h93 (by decide)
              · exact absurd h30 h80
            · exact absurd h57 (by decide)
    · exact absurd (by decide) h6

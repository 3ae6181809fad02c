theorem dEnd_sendSetting_0 : decode uEnd_sendSetting.2.1 0 = .ok (.aload_n 0, 1) := by decide +kernel
theorem dEnd_sendSetting_1 : decode uEnd_sendSetting.2.1 1 = .ok (.getfield 65, 3) := by decide +kernel
theorem dEnd_sendSetting_4 : decode uEnd_sendSetting.2.1 4 = .ok (.bipush 8, 2) := by decide +kernel
theorem dEnd_sendSetting_6 : decode uEnd_sendSetting.2.1 6 = .ok (.if_icmp .ge 45, 3) := by decide +kernel
theorem dEnd_sendSetting_9 : decode uEnd_sendSetting.2.1 9 = .ok (.aload_n 0, 1) := by decide +kernel
theorem dEnd_sendSetting_10 : decode uEnd_sendSetting.2.1 10 = .ok (.getfield 58, 3) := by decide +kernel
theorem dEnd_sendSetting_13 : decode uEnd_sendSetting.2.1 13 = .ok (.aload_n 0, 1) := by decide +kernel
theorem dEnd_sendSetting_14 : decode uEnd_sendSetting.2.1 14 = .ok (.getfield 65, 3) := by decide +kernel
theorem dEnd_sendSetting_17 : decode uEnd_sendSetting.2.1 17 = .ok (.iload_n 1, 1) := by decide +kernel
theorem dEnd_sendSetting_18 : decode uEnd_sendSetting.2.1 18 = .ok (.iastore, 1) := by decide +kernel
theorem dEnd_sendSetting_19 : decode uEnd_sendSetting.2.1 19 = .ok (.aload_n 0, 1) := by decide +kernel
theorem dEnd_sendSetting_20 : decode uEnd_sendSetting.2.1 20 = .ok (.getfield 62, 3) := by decide +kernel
theorem dEnd_sendSetting_23 : decode uEnd_sendSetting.2.1 23 = .ok (.aload_n 0, 1) := by decide +kernel
theorem dEnd_sendSetting_24 : decode uEnd_sendSetting.2.1 24 = .ok (.getfield 65, 3) := by decide +kernel
theorem dEnd_sendSetting_27 : decode uEnd_sendSetting.2.1 27 = .ok (.iload_n 2, 1) := by decide +kernel
theorem dEnd_sendSetting_28 : decode uEnd_sendSetting.2.1 28 = .ok (.iastore, 1) := by decide +kernel
theorem dEnd_sendSetting_29 : decode uEnd_sendSetting.2.1 29 = .ok (.aload_n 0, 1) := by decide +kernel
theorem dEnd_sendSetting_30 : decode uEnd_sendSetting.2.1 30 = .ok (.dup, 1) := by decide +kernel
theorem dEnd_sendSetting_31 : decode uEnd_sendSetting.2.1 31 = .ok (.getfield 65, 3) := by decide +kernel
theorem dEnd_sendSetting_34 : decode uEnd_sendSetting.2.1 34 = .ok (.iconst 1, 1) := by decide +kernel
theorem dEnd_sendSetting_35 : decode uEnd_sendSetting.2.1 35 = .ok (.iadd, 1) := by decide +kernel
theorem dEnd_sendSetting_36 : decode uEnd_sendSetting.2.1 36 = .ok (.putfield 65, 3) := by decide +kernel
theorem dEnd_sendSetting_39 : decode uEnd_sendSetting.2.1 39 = .ok (.aload_n 0, 1) := by decide +kernel
theorem dEnd_sendSetting_40 : decode uEnd_sendSetting.2.1 40 = .ok (.getfield 82, 3) := by decide +kernel
theorem dEnd_sendSetting_43 : decode uEnd_sendSetting.2.1 43 = .ok (.iload_n 1, 1) := by decide +kernel
theorem dEnd_sendSetting_44 : decode uEnd_sendSetting.2.1 44 = .ok (.iload_n 2, 1) := by decide +kernel
theorem dEnd_sendSetting_45 : decode uEnd_sendSetting.2.1 45 = .ok (.invokestatic 202, 3) := by decide +kernel
theorem dEnd_sendSetting_48 : decode uEnd_sendSetting.2.1 48 = .ok (.invokevirtual 134, 3) := by decide +kernel
theorem dEnd_sendSetting_51 : decode uEnd_sendSetting.2.1 51 = .ok (.return_, 1) := by decide +kernel
theorem fs_End_65 : fS "InterleavedLink$End" 65 2 14 := ⟨"InterleavedLink$End", T_End, 17, cf_End, by decide, Or.inl (gW_in 322 (by decide +kernel) rfl)⟩
theorem fs_End_58 : fS "InterleavedLink$End" 58 2 12 := ⟨"InterleavedLink$End", T_End, 17, cf_End, by decide, Or.inl (gW_in 320 (by decide +kernel) rfl)⟩
theorem fs_End_62 : fS "InterleavedLink$End" 62 2 13 := ⟨"InterleavedLink$End", T_End, 17, cf_End, by decide, Or.inl (gW_in 321 (by decide +kernel) rfl)⟩
theorem cs_End_202 : cSt "InterleavedLink$End" 202 uFrame_ofSetting 2 := ⟨⟨Or.inl (gW_in 684 (by decide +kernel) rfl), (gW_in 76 (by decide +kernel) rfl), (gW_in 686 (by decide +kernel) rfl), ⟨by decide, by decide⟩, by decide +kernel⟩, (gW_in 685 (by decide +kernel) rfl)⟩
theorem cs_End_134 : cV "InterleavedLink$End" 134 uPipe_add 1 := ⟨⟨Or.inl (gW_in 548 (by decide +kernel) rfl), (gW_in 65 (by decide +kernel) rfl), (gW_in 551 (by decide +kernel) rfl), ⟨by decide, by decide⟩, by decide +kernel⟩, (gW_in 549 (by decide +kernel) rfl), (gW_in 550 (by decide +kernel) rfl)⟩
theorem fs_Link_121 : fS "InterleavedLink" 121 2 14 := ⟨"InterleavedLink$End", T_End, 17, cf_End, by decide, Or.inl (gW_in 323 (by decide +kernel) rfl)⟩
theorem fs_Link_47 : fS "InterleavedLink" 47 2 2 := ⟨"InterleavedLink$End", T_End, 17, cf_End, by decide, Or.inl (gW_in 304 (by decide +kernel) rfl)⟩
theorem cs_Link_51 : cV "InterleavedLink" 51 uPipe_isFull 0 := ⟨⟨Or.inl (gW_in 400 (by decide +kernel) rfl), (gW_in 65 (by decide +kernel) rfl), (gW_in 403 (by decide +kernel) rfl), ⟨by decide, by decide⟩, by decide +kernel⟩, (gW_in 401 (by decide +kernel) rfl), (gW_in 402 (by decide +kernel) rfl)⟩
theorem cs_Link_124 : cV "InterleavedLink" 124 uEnd_sendSetting 2 := ⟨⟨Or.inl (gW_in 680 (by decide +kernel) rfl), (gW_in 66 (by decide +kernel) rfl), (gW_in 683 (by decide +kernel) rfl), ⟨by decide, by decide⟩, by decide +kernel⟩, (gW_in 681 (by decide +kernel) rfl), (gW_in 682 (by decide +kernel) rfl)⟩
theorem cs_Link_153 : cV "InterleavedLink" 153 uPipe_get 1 := ⟨⟨Or.inl (gW_in 826 (by decide +kernel) rfl), (gW_in 65 (by decide +kernel) rfl), (gW_in 698 (by decide +kernel) rfl), ⟨by decide, by decide⟩, by decide +kernel⟩, (gW_in 696 (by decide +kernel) rfl), (gW_in 697 (by decide +kernel) rfl)⟩
/-! ===== a new frame, put into a pipe ===== -/
section FRN
variable {M : mM} {kd s am fl d : Int32} {pl bl : Option Nat} {a k : Nat}
theorem fr_I {f : Nat} (h : a ≠ f) : mI (frM M f kd s am fl d pl bl) a k = mI M a k := by
  unfold frM
  simp [mI_setR, mI_setI, up2, h]
theorem fr_R {f : Nat} (h : a ≠ f) : mR (frM M f kd s am fl d pl bl) a k = mR M a k := by
  unfold frM
  simp [mR_setR, mR_setI, up2, h]
theorem fr_T {f : Nat} : mT (frM M f kd s am fl d pl bl) = mT M := rfl
theorem fr_N {f : Nat} : mN (frM M f kd s am fl d pl bl) = mN M := rfl
theorem frN_I (h : a ≠ mN M) : mI (frM (newM M 12 7) (mN M) kd s am fl d pl bl) a k = mI M a k := (fr_I h).trans (mI_new_ne h)
theorem frN_R (h : a ≠ mN M) : mR (frM (newM M 12 7) (mN M) kd s am fl d pl bl) a k = mR M a k := (fr_R h).trans (mR_new_ne h)
theorem frN_T (h : a ≠ mN M) : mT (frM (newM M 12 7) (mN M) kd s am fl d pl bl) a = mT M a := mT_new_ne h
theorem frN_t : (mT (frM (newM M 12 7) (mN M) kd s am fl d pl bl) (mN M)).1 = 12 := nT
theorem frN_S (h : Shp M) : Shp (frM (newM M 12 7) (mN M) kd s am fl d pl bl) := Shp.setR (Shp.setR (M := setI (setI (setI (setI (setI (newM M 12 7) (mN M) 0 kd) (mN M) 1 s) (mN M) 2 am) (mN M) 3 fl) (mN M) 4 d) h.new (Or.inr h.1)) (Or.inr h.1)
end FRN
/-- a frame at f goes into the pipe towards end p -/
def qPut (M : mM) (p i n f : Nat) : mM := setI (setR M (5 + 2 * p) ((i + n) % 48) (some f)) (4 + 2 * p) 2 (nI (n + 1))
theorem qPut_S {M : mM} {p i n f : Nat} (h : Shp M) (hp : p < 2) : Shp (qPut M p i n f) := Shp.setR h (Or.inl (by unfold mvR; omega))
theorem ct_addO {X : mX} {l : Launch} {M : mM} {e f i n : Nat} (hS : Shp M) (he : e < 2) (hf : (mT M f).1 = 12) (h1 : mI M (6 - 2 * e) 1 = nI i) (h2 : mI M (6 - 2 * e) 2 = nI n) (hi : i < 48) (hn : n < 48) : Ct X l uPipe_add (rk 0 0) [.ref (6 - 2 * e), .ref f] M (fun r M' => r = none ∧ M' = qPut M (1 - e) i n f) := (ct_Pipe_add (hS.tPipeO he) (hS.rPipeO0 he) (hS.TRowO he) hf h1 h2 hi hn).post fun r M2 h => ⟨h.1, by rw [h.2]; unfold qPut; rw [show 5 + 2 * (1 - e) = 7 - 2 * e by omega, show 4 + 2 * (1 - e) = 6 - 2 * e by omega]⟩
theorem ct_addI {X : mX} {l : Launch} {M : mM} {e f i n : Nat} (hS : Shp M) (he : e < 2) (hf : (mT M f).1 = 12) (h1 : mI M (4 + 2 * e) 1 = nI i) (h2 : mI M (4 + 2 * e) 2 = nI n) (hi : i < 48) (hn : n < 48) : Ct X l uPipe_add (rk 0 0) [.ref (4 + 2 * e), .ref f] M (fun r M' => r = none ∧ M' = qPut M e i n f) := (ct_Pipe_add (hS.tPipe he) (hS.rPipe0 he) (hS.TRow he) hf h1 h2 hi hn).post fun r M2 h => ⟨h.1, h.2⟩
def setC (M : mM) (e c : Nat) (s v : Int32) : mM := setI (setI (setI M (27 + 80 * e) c s) (28 + 80 * e) c v) (9 + 80 * e) 14 (nI (c + 1))
theorem setC_I {M : mM} {e c a k : Nat} {s v : Int32} (h : a ≠ 27 + 80 * e) (h2 : a ≠ 28 + 80 * e) (h3 : a ≠ 9 + 80 * e) : mI (setC M e c s v) a k = mI M a k := by
  unfold setC
  simp [mI_setI, up2, h, h2, h3]
set_option maxRecDepth 100000 in
set_option maxHeartbeats 4000000 in
theorem ct_sendSetting {X : mX} {l : Launch} {M : mM} {e c : Nat} {s v : Int32} (hS : Shp M) (he : e < 2) (hc : mI M (9 + 80 * e) 14 = nI c) (hc8 : c < 8) {i n : Nat} (p1 : mI M (6 - 2 * e) 1 = nI i) (p2 : mI M (6 - 2 * e) 2 = nI n) (hi : i < 48) (hn : n < 48) : Ct X l uEnd_sendSetting (rn 3 60 1 7) [.ref (9 + 80 * e), .int s, .int v] M (fun r M' => r = none ∧ M' = qPut (frM (newM (setC M e c s v) 12 7) (mN M) 4 0 v 0 s none none) (1 - e) i n (mN M)) := by
  refine Ct.of (by decide) (Nat.le_of_ble_eq_true rfl) ?_
  show G X l uEnd_sendSetting (rn 3 60 1 7) 1 7 M 0 [some (.ref (9 + 80 * e)), some (.int s), some (.int v)] [] _
  refine g_aload_n 0 dEnd_sendSetting_0 rfl ?_
  refine g_geti 1 2 14 dEnd_sendSetting_1 fs_End_65 rfl (hS.tEnd he) ?_
  refine g_top (nI (c)) (hc) ?_
  refine g_bipush 4 (nI 8) dEnd_sendSetting_4 rfl ?_
  refine g_icmp_geN 6 51 dEnd_sendSetting_6 rfl (by omega) (by omega) (fun h6 => ?_) (fun h6 => ?_)
  · exact absurd h6 (by omega)
  · refine g_aload_n 9 dEnd_sendSetting_9 rfl ?_
    refine g_getr 10 2 12 dEnd_sendSetting_10 fs_End_58 rfl (hS.tEnd he) (hS.rEnd12 he) ?_
    refine g_aload_n 13 dEnd_sendSetting_13 rfl ?_
    refine g_geti 14 2 14 dEnd_sendSetting_14 fs_End_65 rfl (hS.tEnd he) ?_
    refine g_top (nI (c)) (hc) ?_
    refine g_iload_n 17 dEnd_sendSetting_17 rfl ?_
    refine g_iastN 18 dEnd_sendSetting_18 (hS.TPS he) (by omega) (by decide) ?_
    refine g_aload_n 19 dEnd_sendSetting_19 rfl ?_
    refine g_getr 20 2 13 dEnd_sendSetting_20 fs_End_62 rfl (hS.tEnd he) (hS.rEnd13 he) ?_
    refine g_aload_n 23 dEnd_sendSetting_23 rfl ?_
    refine g_geti 24 2 14 dEnd_sendSetting_24 fs_End_65 rfl (hS.tEnd he) ?_
    refine g_top (nI (c)) (by rw [mI_setI, up2_a (by omega)]; exact hc) ?_
    refine g_iload_n 27 dEnd_sendSetting_27 rfl ?_
    refine g_iastN 28 dEnd_sendSetting_28 (hS.TPV he) (by omega) (by decide) ?_
    refine g_aload_n 29 dEnd_sendSetting_29 rfl ?_
    refine g_dup 30 dEnd_sendSetting_30 rfl ?_
    refine g_geti 31 2 14 dEnd_sendSetting_31 fs_End_65 rfl (hS.tEnd he) ?_
    refine g_top (nI (c)) (by rw [mI_setI, up2_a (by omega), mI_setI, up2_a (by omega)]; exact hc) ?_
    refine g_iconst 34 (nI 1) dEnd_sendSetting_34 rfl ?_
    refine g_iaddN 35 dEnd_sendSetting_35 ?_
    refine g_puti 36 2 14 dEnd_sendSetting_36 ps_End_65 rfl (hS.tEnd he) ?_
    refine g_aload_n 39 dEnd_sendSetting_39 rfl ?_
    refine g_getr 40 2 2 dEnd_sendSetting_40 fs_End_82 rfl (hS.tEnd he) (hS.rEnd2 he) ?_
    refine g_iload_n 43 dEnd_sendSetting_43 rfl ?_
    refine g_iload_n 44 dEnd_sendSetting_44 rfl ?_
    refine g_callS 45 [_, _] dEnd_sendSetting_45 cs_End_202 rfl rfl ⟨(Nat.le_of_ble_eq_true rfl), (Nat.le_of_ble_eq_true rfl)⟩ (Nat.le_of_ble_eq_true rfl) (ct_ofSetting) (Nat.le_of_ble_eq_true rfl) (Nat.le_of_ble_eq_true rfl) ?_
    rintro _ _ ⟨rfl, rfl⟩
    have hS2 : Shp (frM (newM (setC M e c s v) 12 7) (mN M) 4 0 v 0 s none none) := frN_S (M := setC M e c s v) hS
    have hne : 6 - 2 * e ≠ mN (setC M e c s v) := by have : 223 ≤ mN (setC M e c s v) := hS.1; omega
    have q1 : mI (frM (newM (setC M e c s v) 12 7) (mN M) 4 0 v 0 s none none) (6 - 2 * e) 1 = nI i := (frN_I (M := setC M e c s v) hne).trans ((setC_I (by omega) (by omega) (by omega)).trans p1)
    have q2 : mI (frM (newM (setC M e c s v) 12 7) (mN M) 4 0 v 0 s none none) (6 - 2 * e) 2 = nI n := (frN_I (M := setC M e c s v) hne).trans ((setC_I (by omega) (by omega) (by omega)).trans p2)
    refine g_callV 48 [_] dEnd_sendSetting_48 cs_End_134 rfl (ci := 1) rfl (by decide) (hS2.tPipeO he) rfl ⟨(Nat.le_of_ble_eq_true rfl), (Nat.le_of_ble_eq_true rfl)⟩ (Nat.le_of_ble_eq_true rfl) (ct_addO hS2 he (frN_t (M := setC M e c s v)) q1 q2 hi hn) (Nat.le_of_ble_eq_true rfl) (Nat.le_of_ble_eq_true rfl) ?_
    rintro _ _ ⟨rfl, rfl⟩
    exact g_vret 51 dEnd_sendSetting_51 rfl ⟨rfl, rfl⟩

set_option maxRecDepth 100000 in
set_option maxHeartbeats 4000000 in
theorem ct_Link_setting_full {X : mX} {l : Launch} {M : mM} {e : Nat} (hS : Shp M) (he : e < 2) (hu : Kdown M e = 0) {s v : Int32} (hc : 8 ≤ mI M (9 + 80 * e) 14 ∨ ¬ mI M (6 - 2 * e) 2 < 30) : Ct X l uLink_setting (rn 4 82 1 7) [.ref 3, .int (nI e), .int s, .int v] M (fun r M' => r = some (.int 0) ∧ M' = M) := by
  refine Ct.of (by decide) (Nat.le_of_ble_eq_true rfl) ?_
  show G X l uLink_setting (rn 4 82 1 7) 1 7 M 0 [some (.ref 3), some (.int (nI e)), some (.int s), some (.int v), none] [] _
  refine g_aload_n 0 dLink_setting_0 rfl ?_
  refine g_iload_n 1 dLink_setting_1 rfl ?_
  refine g_callV 2 [_] dLink_setting_2 cs_Link_21 rfl (ci := 0) rfl (by decide) hS.link rfl ⟨(Nat.le_of_ble_eq_true rfl), (Nat.le_of_ble_eq_true rfl)⟩ (Nat.le_of_ble_eq_true rfl) (ct_upEndOf hS he hu) (Nat.le_of_ble_eq_true rfl) (Nat.le_of_ble_eq_true rfl) ?_
  rintro _ M2 ⟨rfl, hM2⟩
  rw [hM2]
  clear hM2 M2
  refine g_astore 5 dLink_setting_5 (by decide) rfl ?_
  refine g_aload 7 dLink_setting_7 rfl ?_
  refine g_ifnull 9 dLink_setting_9 ?_
  refine g_iload_n 12 dLink_setting_12 rfl ?_
  refine g_callS 13 [_] dLink_setting_13 cs_Link_111 rfl rfl ⟨(Nat.le_of_ble_eq_true rfl), (Nat.le_of_ble_eq_true rfl)⟩ (Nat.le_of_ble_eq_true rfl) (ct_Sett_isKnown) (Nat.le_of_ble_eq_true rfl) (Nat.le_of_ble_eq_true rfl) ?_
  rintro _ M2 ⟨rfl, hM2⟩
  rw [hM2]
  clear hM2 M2
  refine g_if_eq 16 27 dLink_setting_16 rfl (fun h16 => ?_) (fun h16 => ?_)
  · refine g_iconst 27 0 dLink_setting_27 rfl ?_
    exact g_zret 28 dLink_setting_28 rfl (by decide) ⟨rfl, rfl⟩
  · refine g_iload_n 19 dLink_setting_19 rfl ?_
    refine g_iload_n 20 dLink_setting_20 rfl ?_
    refine g_callS 21 [_, _] dLink_setting_21 cs_Link_117 rfl rfl ⟨(Nat.le_of_ble_eq_true rfl), (Nat.le_of_ble_eq_true rfl)⟩ (Nat.le_of_ble_eq_true rfl) (ct_Sett_isInRange) (Nat.le_of_ble_eq_true rfl) (Nat.le_of_ble_eq_true rfl) ?_
    rintro _ M2 ⟨rfl, hM2⟩
    rw [hM2]
    clear hM2 M2
    refine g_if_ne 24 29 dLink_setting_24 rfl (fun h24 => ?_) (fun h24 => ?_)
    · refine g_aload 29 dLink_setting_29 rfl ?_
      refine g_geti 31 2 14 dLink_setting_31 fs_Link_121 rfl (hS.tEnd he) ?_
      refine g_bipush 34 8 dLink_setting_34 rfl ?_
      refine g_icmp_ge 36 50 dLink_setting_36 rfl (fun h36 => ?_) (fun h36 => ?_)
      · refine g_iconst 50 0 dLink_setting_50 rfl ?_
        exact g_zret 51 dLink_setting_51 rfl (by decide) ⟨rfl, rfl⟩
      · refine g_aload 39 dLink_setting_39 rfl ?_
        refine g_getr 41 2 2 dLink_setting_41 fs_Link_47 rfl (hS.tEnd he) (hS.rEnd2 he) ?_
        refine g_callV 44 [] dLink_setting_44 cs_Link_51 rfl (ci := 1) rfl (by decide) (hS.tPipeO he) rfl ⟨(Nat.le_of_ble_eq_true rfl), (Nat.le_of_ble_eq_true rfl)⟩ (Nat.le_of_ble_eq_true rfl) (ct_Pipe_isFull (hS.tPipeO he)) (Nat.le_of_ble_eq_true rfl) (Nat.le_of_ble_eq_true rfl) ?_
        rintro _ M2 ⟨rfl, hM2⟩
        rw [hM2]
        clear hM2 M2
        refine g_if_eq 47 52 dLink_setting_47 rfl (fun h47 => ?_) (fun h47 => ?_)
        · exact absurd (by rw [if_neg (hc.resolve_left h36)] at h47; exact h47) (by decide)
        · refine g_iconst 50 0 dLink_setting_50 rfl ?_
          exact g_zret 51 dLink_setting_51 rfl (by decide) ⟨rfl, rfl⟩
    · refine g_iconst 27 0 dLink_setting_27 rfl ?_
      exact g_zret 28 dLink_setting_28 rfl (by decide) ⟨rfl, rfl⟩

set_option maxRecDepth 100000 in
set_option maxHeartbeats 4000000 in
theorem ct_Link_setting {X : mX} {l : Launch} {M : mM} {e : Nat} (hS : Shp M) (he : e < 2) (hu : Kdown M e = 0) {s v : Int32} (hk : ¬ knC s = 0) (hr : ¬ rgC s v = 0) {c : Nat} (hc : mI M (9 + 80 * e) 14 = nI c) (hc8 : c < 8) {i n : Nat} (p1 : mI M (6 - 2 * e) 1 = nI i) (p2 : mI M (6 - 2 * e) 2 = nI n) (hi : i < 48) (hn : n < 30) : Ct X l uLink_setting (rn 4 82 1 7) [.ref 3, .int (nI e), .int s, .int v] M (fun r M' => r = some (.int 1) ∧ M' = qPut (frM (newM (setC M e c s v) 12 7) (mN M) 4 0 v 0 s none none) (1 - e) i n (mN M)) := by
  refine Ct.of (by decide) (Nat.le_of_ble_eq_true rfl) ?_
  show G X l uLink_setting (rn 4 82 1 7) 1 7 M 0 [some (.ref 3), some (.int (nI e)), some (.int s), some (.int v), none] [] _
  refine g_aload_n 0 dLink_setting_0 rfl ?_
  refine g_iload_n 1 dLink_setting_1 rfl ?_
  refine g_callV 2 [_] dLink_setting_2 cs_Link_21 rfl (ci := 0) rfl (by decide) hS.link rfl ⟨(Nat.le_of_ble_eq_true rfl), (Nat.le_of_ble_eq_true rfl)⟩ (Nat.le_of_ble_eq_true rfl) (ct_upEndOf hS he hu) (Nat.le_of_ble_eq_true rfl) (Nat.le_of_ble_eq_true rfl) ?_
  rintro _ M2 ⟨rfl, hM2⟩
  rw [hM2]
  clear hM2 M2
  refine g_astore 5 dLink_setting_5 (by decide) rfl ?_
  refine g_aload 7 dLink_setting_7 rfl ?_
  refine g_ifnull 9 dLink_setting_9 ?_
  refine g_iload_n 12 dLink_setting_12 rfl ?_
  refine g_callS 13 [_] dLink_setting_13 cs_Link_111 rfl rfl ⟨(Nat.le_of_ble_eq_true rfl), (Nat.le_of_ble_eq_true rfl)⟩ (Nat.le_of_ble_eq_true rfl) (ct_Sett_isKnown) (Nat.le_of_ble_eq_true rfl) (Nat.le_of_ble_eq_true rfl) ?_
  rintro _ M2 ⟨rfl, hM2⟩
  rw [hM2]
  clear hM2 M2
  refine g_if_eq 16 27 dLink_setting_16 rfl (fun h16 => ?_) (fun h16 => ?_)
  · exact absurd h16 hk
  · refine g_iload_n 19 dLink_setting_19 rfl ?_
    refine g_iload_n 20 dLink_setting_20 rfl ?_
    refine g_callS 21 [_, _] dLink_setting_21 cs_Link_117 rfl rfl ⟨(Nat.le_of_ble_eq_true rfl), (Nat.le_of_ble_eq_true rfl)⟩ (Nat.le_of_ble_eq_true rfl) (ct_Sett_isInRange) (Nat.le_of_ble_eq_true rfl) (Nat.le_of_ble_eq_true rfl) ?_
    rintro _ M2 ⟨rfl, hM2⟩
    rw [hM2]
    clear hM2 M2
    refine g_if_ne 24 29 dLink_setting_24 rfl (fun h24 => ?_) (fun h24 => ?_)
    · refine g_aload 29 dLink_setting_29 rfl ?_
      refine g_geti 31 2 14 dLink_setting_31 fs_Link_121 rfl (hS.tEnd he) ?_
      refine g_bipush 34 8 dLink_setting_34 rfl ?_
      refine g_icmp_ge 36 50 dLink_setting_36 rfl (fun h36 => ?_) (fun h36 => ?_)
      · exact absurd h36 (by rw [hc]; exact nI_ge hc8 (by decide))
      · refine g_aload 39 dLink_setting_39 rfl ?_
        refine g_getr 41 2 2 dLink_setting_41 fs_Link_47 rfl (hS.tEnd he) (hS.rEnd2 he) ?_
        refine g_callV 44 [] dLink_setting_44 cs_Link_51 rfl (ci := 1) rfl (by decide) (hS.tPipeO he) rfl ⟨(Nat.le_of_ble_eq_true rfl), (Nat.le_of_ble_eq_true rfl)⟩ (Nat.le_of_ble_eq_true rfl) (ct_Pipe_isFull (hS.tPipeO he)) (Nat.le_of_ble_eq_true rfl) (Nat.le_of_ble_eq_true rfl) ?_
        rintro _ M2 ⟨rfl, hM2⟩
        rw [hM2]
        clear hM2 M2
        refine g_if_eq 47 52 dLink_setting_47 rfl (fun h47 => ?_) (fun h47 => ?_)
        · refine g_aload 52 dLink_setting_52 rfl ?_
          refine g_iload_n 54 dLink_setting_54 rfl ?_
          refine g_iload_n 55 dLink_setting_55 rfl ?_
          refine g_callV 56 [_, _] dLink_setting_56 cs_Link_124 rfl (ci := 2) rfl (by decide) (hS.tEnd he) rfl ⟨(Nat.le_of_ble_eq_true rfl), (Nat.le_of_ble_eq_true rfl)⟩ (Nat.le_of_ble_eq_true rfl) (ct_sendSetting hS he hc hc8 p1 p2 hi (by omega)) (Nat.le_of_ble_eq_true rfl) (Nat.le_of_ble_eq_true rfl) ?_
          rintro _ _ ⟨rfl, rfl⟩
          refine g_iconst 59 1 dLink_setting_59 rfl ?_
          exact g_zret 60 dLink_setting_60 rfl (by decide) ⟨rfl, rfl⟩
        · exact absurd (by rw [p2]; exact if_pos (nI_lt hn (by decide))) h47
    · exact absurd h24 hr

set_option maxRecDepth 100000 in
set_option maxHeartbeats 4000000 in
theorem ct_Pipe_get_no {X : mX} {l : Launch} {M : mM} {p : Nat} {j : Int32} (hp : (mT M p).1 = 1) (hj : j < 0 ∨ mI M p 2 ≤ j) : Ct X l uPipe_get (rk 0 0) [.ref p, .int j] M (fun r M' => r = some (.null) ∧ M' = M) := by
  refine Ct.of (by decide) (Nat.le_of_ble_eq_true rfl) ?_
  show G X l uPipe_get (rk 0 0) 0 0 M 0 [some (.ref p), some (.int j)] [] _
  refine g_iload_n 0 dPipe_get_0 rfl ?_
  refine g_if_lt 1 29 dPipe_get_1 rfl (fun h1 => ?_) (fun h1 => ?_)
  · refine g_null 29 dPipe_get_29 ?_
    exact g_aretN 30 dPipe_get_30 rfl (Or.inl ⟨_, rfl⟩) ⟨rfl, rfl⟩
  · refine g_iload_n 4 dPipe_get_4 rfl ?_
    refine g_aload_n 5 dPipe_get_5 rfl ?_
    refine g_geti 6 1 2 dPipe_get_6 fs_Pipe_21 rfl hp ?_
    refine g_icmp_ge 9 29 dPipe_get_9 rfl (fun h9 => ?_) (fun h9 => ?_)
    · refine g_null 29 dPipe_get_29 ?_
      exact g_aretN 30 dPipe_get_30 rfl (Or.inl ⟨_, rfl⟩) ⟨rfl, rfl⟩
    · exact absurd (hj.resolve_left h1) h9

set_option maxRecDepth 100000 in
set_option maxHeartbeats 4000000 in
theorem ct_Link_frame_0 {X : mX} {l : Launch} {M : mM} {e : Nat} (hS : Shp M) (he : e < 2) {j w : Int32} (hj : j < 0 ∨ mI M (4 + 2 * e) 2 ≤ j) : Ct X l uLink_frame (rk 1 21) [.ref 3, .int (nI e), .int j, .int w] M (fun r M' => r = some (.int (-1)) ∧ M' = M) := by
  refine Ct.of (by decide) (Nat.le_of_ble_eq_true rfl) ?_
  show G X l uLink_frame (rk 1 21) 0 0 M 0 [some (.ref 3), some (.int (nI e)), some (.int j), some (.int w), none, none] [] _
  refine g_aload_n 0 dLink_frame_0 rfl ?_
  refine g_iload_n 1 dLink_frame_1 rfl ?_
  refine g_callV 2 [_] dLink_frame_2 cs_Link_128 rfl (ci := 0) rfl (by decide) hS.link rfl ⟨(Nat.le_of_ble_eq_true rfl), (Nat.le_of_ble_eq_true rfl)⟩ (Nat.le_of_ble_eq_true rfl) (ct_endOf hS he) (Nat.le_of_ble_eq_true rfl) (Nat.le_of_ble_eq_true rfl) ?_
  rintro _ M2 ⟨rfl, hM2⟩
  rw [hM2]
  clear hM2 M2
  refine g_astore 5 dLink_frame_5 (by decide) rfl ?_
  refine g_aload 7 dLink_frame_7 rfl ?_
  refine g_ifnonnull 9 16 dLink_frame_9 rfl ?_
  refine g_aload 16 dLink_frame_16 rfl ?_
  refine g_getr 18 2 1 dLink_frame_18 fs_Link_131 rfl (hS.tEnd he) (hS.rEnd1 he) ?_
  refine g_iload_n 21 dLink_frame_21 rfl ?_
  refine g_callV 22 [_] dLink_frame_22 cs_Link_153 rfl (ci := 1) rfl (by decide) (hS.tPipe he) rfl ⟨(Nat.le_of_ble_eq_true rfl), (Nat.le_of_ble_eq_true rfl)⟩ (Nat.le_of_ble_eq_true rfl) (ct_Pipe_get_no (hS.tPipe he) hj) (Nat.le_of_ble_eq_true rfl) (Nat.le_of_ble_eq_true rfl) ?_
  rintro _ M2 ⟨rfl, hM2⟩
  rw [hM2]
  clear hM2 M2
  refine g_astoreN 25 dLink_frame_25 (by decide) rfl ?_
  refine g_aloadN 27 dLink_frame_27 rfl ?_
  refine g_ifnonnullN 29 dLink_frame_29 ?_
  refine g_iconst 32 (-1) dLink_frame_32 rfl ?_
  refine g_goto 33 42 dLink_frame_33 rfl ?_
  exact g_iret 42 dLink_frame_42 rfl ⟨rfl, rfl⟩

set_option maxRecDepth 100000 in
set_option maxHeartbeats 4000000 in
theorem cm_frame_0 {X : mX} {l : Launch} {M : mM} {e : Nat} (hS : Shp M) (he : e < 2) {j w : Int32} (hj : j < 0 ∨ Rcount M e ≤ j) : Ct X l uMod_frame (rk 1 20) [.ref 169, .int (nI e), .int j, .int w] M (fun r M' => r = some (.int (-1)) ∧ M' = M) := by
  refine Ct.of (by decide) (Nat.le_of_ble_eq_true rfl) ?_
  show G X l uMod_frame (rk 1 20) 0 0 M 0 [some (.ref 169), some (.int (nI e)), some (.int j), some (.int w), none, none, none] [] _
  refine g_iload_n 0 dMod_frame_0 rfl ?_
  refine g_callS 1 [_] dMod_frame_1 cs_Mod_171 rfl rfl ⟨(Nat.le_of_ble_eq_true rfl), (Nat.le_of_ble_eq_true rfl)⟩ (Nat.le_of_ble_eq_true rfl) (ct_isEnd_y he) (Nat.le_of_ble_eq_true rfl) (Nat.le_of_ble_eq_true rfl) ?_
  rintro _ M2 ⟨rfl, hM2⟩
  rw [hM2]
  clear hM2 M2
  refine g_if_eq 4 30 dMod_frame_4 rfl (fun h4 => ?_) (fun h4 => ?_)
  · exact absurd h4 (by decide)
  · refine g_iload_n 7 dMod_frame_7 rfl ?_
    refine g_if_lt 8 30 dMod_frame_8 rfl (fun h8 => ?_) (fun h8 => ?_)
    · refine g_iconst 30 (-1) dMod_frame_30 rfl ?_
      exact g_iret 31 dMod_frame_31 rfl ⟨rfl, rfl⟩
    · refine g_iload_n 11 dMod_frame_11 rfl ?_
      refine g_aload_n 12 dMod_frame_12 rfl ?_
      refine g_getr 13 10 2 dMod_frame_13 fs_Mod_16 rfl hS.mod hS.R_count ?_
      refine g_iload_n 16 dMod_frame_16 rfl ?_
      refine g_ialdN 17 dMod_frame_17 hS.T_count (by omega) (by decide) ?_
      refine g_icmp_ge 18 30 dMod_frame_18 rfl (fun h18 => ?_) (fun h18 => ?_)
      · refine g_iconst 30 (-1) dMod_frame_30 rfl ?_
        exact g_iret 31 dMod_frame_31 rfl ⟨rfl, rfl⟩
      · exact absurd (hj.resolve_left h8) h18

set_option maxRecDepth 100000 in
set_option maxHeartbeats 4000000 in
theorem cm_frame_w {X : mX} {l : Launch} {M : mM} {e : Nat} (hS : Shp M) (he : e < 2) {j w : Int32} (hw : w < 0 ∨ 4 < w) : Ct X l uMod_frame (rk 1 20) [.ref 169, .int (nI e), .int j, .int w] M (fun r M' => r = some (.int (-1)) ∧ M' = M) := by
  refine Ct.of (by decide) (Nat.le_of_ble_eq_true rfl) ?_
  show G X l uMod_frame (rk 1 20) 0 0 M 0 [some (.ref 169), some (.int (nI e)), some (.int j), some (.int w), none, none, none] [] _
  refine g_iload_n 0 dMod_frame_0 rfl ?_
  refine g_callS 1 [_] dMod_frame_1 cs_Mod_171 rfl rfl ⟨(Nat.le_of_ble_eq_true rfl), (Nat.le_of_ble_eq_true rfl)⟩ (Nat.le_of_ble_eq_true rfl) (ct_isEnd_y he) (Nat.le_of_ble_eq_true rfl) (Nat.le_of_ble_eq_true rfl) ?_
  rintro _ M2 ⟨rfl, hM2⟩
  rw [hM2]
  clear hM2 M2
  refine g_if_eq 4 30 dMod_frame_4 rfl (fun h4 => ?_) (fun h4 => ?_)
  · exact absurd h4 (by decide)
  · refine g_iload_n 7 dMod_frame_7 rfl ?_
    refine g_if_lt 8 30 dMod_frame_8 rfl (fun h8 => ?_) (fun h8 => ?_)
    · refine g_iconst 30 (-1) dMod_frame_30 rfl ?_
      exact g_iret 31 dMod_frame_31 rfl ⟨rfl, rfl⟩
    · refine g_iload_n 11 dMod_frame_11 rfl ?_
      refine g_aload_n 12 dMod_frame_12 rfl ?_
      refine g_getr 13 10 2 dMod_frame_13 fs_Mod_16 rfl hS.mod hS.R_count ?_
      refine g_iload_n 16 dMod_frame_16 rfl ?_
      refine g_ialdN 17 dMod_frame_17 hS.T_count (by omega) (by decide) ?_
      refine g_icmp_ge 18 30 dMod_frame_18 rfl (fun h18 => ?_) (fun h18 => ?_)
      · refine g_iconst 30 (-1) dMod_frame_30 rfl ?_
        exact g_iret 31 dMod_frame_31 rfl ⟨rfl, rfl⟩
      · refine g_iload_n 21 dMod_frame_21 rfl ?_
        refine g_if_lt 22 30 dMod_frame_22 rfl (fun h22 => ?_) (fun h22 => ?_)
        · refine g_iconst 30 (-1) dMod_frame_30 rfl ?_
          exact g_iret 31 dMod_frame_31 rfl ⟨rfl, rfl⟩
        · refine g_iload_n 25 dMod_frame_25 rfl ?_
          refine g_iconst 26 4 dMod_frame_26 rfl ?_
          refine g_icmp_le 27 32 dMod_frame_27 rfl (fun h27 => ?_) (fun h27 => ?_)
          · exact absurd (hw.resolve_left h22) (Int32.not_lt.mpr h27)
          · refine g_iconst 30 (-1) dMod_frame_30 rfl ?_
            exact g_iret 31 dMod_frame_31 rfl ⟨rfl, rfl⟩

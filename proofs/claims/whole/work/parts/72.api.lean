theorem dEnd_getFrame_0 : decode uEnd_getFrame.2.1 0 = .ok (.aload_n 1, 1) := by decide +kernel
theorem dEnd_getFrame_1 : decode uEnd_getFrame.2.1 1 = .ok (.getfield 215, 3) := by decide +kernel
theorem dEnd_getFrame_4 : decode uEnd_getFrame.2.1 4 = .ok (.tableswitch 107 0 7 #[48, 54, 107, 60, 66, 107, 107, 93], 48) := by decide +kernel
theorem dEnd_getFrame_52 : decode uEnd_getFrame.2.1 52 = .ok (.aload_n 0, 1) := by decide +kernel
theorem dEnd_getFrame_53 : decode uEnd_getFrame.2.1 53 = .ok (.aload_n 1, 1) := by decide +kernel
theorem dEnd_getFrame_54 : decode uEnd_getFrame.2.1 54 = .ok (.invokevirtual 218, 3) := by decide +kernel
theorem dEnd_getFrame_57 : decode uEnd_getFrame.2.1 57 = .ok (.ireturn, 1) := by decide +kernel
theorem dEnd_getFrame_58 : decode uEnd_getFrame.2.1 58 = .ok (.aload_n 0, 1) := by decide +kernel
theorem dEnd_getFrame_59 : decode uEnd_getFrame.2.1 59 = .ok (.aload_n 1, 1) := by decide +kernel
theorem dEnd_getFrame_60 : decode uEnd_getFrame.2.1 60 = .ok (.invokevirtual 222, 3) := by decide +kernel
theorem dEnd_getFrame_63 : decode uEnd_getFrame.2.1 63 = .ok (.ireturn, 1) := by decide +kernel
theorem dEnd_getFrame_64 : decode uEnd_getFrame.2.1 64 = .ok (.aload_n 0, 1) := by decide +kernel
theorem dEnd_getFrame_65 : decode uEnd_getFrame.2.1 65 = .ok (.aload_n 1, 1) := by decide +kernel
theorem dEnd_getFrame_66 : decode uEnd_getFrame.2.1 66 = .ok (.invokevirtual 225, 3) := by decide +kernel
theorem dEnd_getFrame_69 : decode uEnd_getFrame.2.1 69 = .ok (.ireturn, 1) := by decide +kernel
theorem dEnd_getFrame_70 : decode uEnd_getFrame.2.1 70 = .ok (.aload_n 1, 1) := by decide +kernel
theorem dEnd_getFrame_71 : decode uEnd_getFrame.2.1 71 = .ok (.getfield 228, 3) := by decide +kernel
theorem dEnd_getFrame_74 : decode uEnd_getFrame.2.1 74 = .ok (.ifCond .eq 10, 3) := by decide +kernel
theorem dEnd_getFrame_77 : decode uEnd_getFrame.2.1 77 = .ok (.aload_n 0, 1) := by decide +kernel
theorem dEnd_getFrame_78 : decode uEnd_getFrame.2.1 78 = .ok (.invokevirtual 231, 3) := by decide +kernel
theorem dEnd_getFrame_81 : decode uEnd_getFrame.2.1 81 = .ok (.goto 15, 3) := by decide +kernel
theorem dEnd_getFrame_84 : decode uEnd_getFrame.2.1 84 = .ok (.aload_n 0, 1) := by decide +kernel
theorem dEnd_getFrame_85 : decode uEnd_getFrame.2.1 85 = .ok (.aload_n 1, 1) := by decide +kernel
theorem dEnd_getFrame_86 : decode uEnd_getFrame.2.1 86 = .ok (.getfield 234, 3) := by decide +kernel
theorem dEnd_getFrame_89 : decode uEnd_getFrame.2.1 89 = .ok (.aload_n 1, 1) := by decide +kernel
theorem dEnd_getFrame_90 : decode uEnd_getFrame.2.1 90 = .ok (.getfield 237, 3) := by decide +kernel
theorem dEnd_getFrame_93 : decode uEnd_getFrame.2.1 93 = .ok (.invokevirtual 240, 3) := by decide +kernel
theorem dEnd_getFrame_96 : decode uEnd_getFrame.2.1 96 = .ok (.ireturn, 1) := by decide +kernel
theorem dEnd_getFrame_97 : decode uEnd_getFrame.2.1 97 = .ok (.aload_n 0, 1) := by decide +kernel
theorem dEnd_getFrame_98 : decode uEnd_getFrame.2.1 98 = .ok (.sipush 200, 3) := by decide +kernel
theorem dEnd_getFrame_101 : decode uEnd_getFrame.2.1 101 = .ok (.aload_n 1, 1) := by decide +kernel
theorem dEnd_getFrame_102 : decode uEnd_getFrame.2.1 102 = .ok (.getfield 237, 3) := by decide +kernel
theorem dEnd_getFrame_105 : decode uEnd_getFrame.2.1 105 = .ok (.iadd, 1) := by decide +kernel
theorem dEnd_getFrame_106 : decode uEnd_getFrame.2.1 106 = .ok (.putfield 9, 3) := by decide +kernel
theorem dEnd_getFrame_109 : decode uEnd_getFrame.2.1 109 = .ok (.iconst 0, 1) := by decide +kernel
theorem dEnd_getFrame_110 : decode uEnd_getFrame.2.1 110 = .ok (.ireturn, 1) := by decide +kernel
theorem dEnd_getFrame_111 : decode uEnd_getFrame.2.1 111 = .ok (.aload_n 1, 1) := by decide +kernel
theorem dEnd_getFrame_112 : decode uEnd_getFrame.2.1 112 = .ok (.getfield 243, 3) := by decide +kernel
theorem dEnd_getFrame_115 : decode uEnd_getFrame.2.1 115 = .ok (.ifCond .ne 14, 3) := by decide +kernel
theorem dEnd_getFrame_118 : decode uEnd_getFrame.2.1 118 = .ok (.aload_n 0, 1) := by decide +kernel
theorem dEnd_getFrame_119 : decode uEnd_getFrame.2.1 119 = .ok (.aload_n 1, 1) := by decide +kernel
theorem dEnd_getFrame_120 : decode uEnd_getFrame.2.1 120 = .ok (.getfield 237, 3) := by decide +kernel
theorem dEnd_getFrame_123 : decode uEnd_getFrame.2.1 123 = .ok (.invokevirtual 246, 3) := by decide +kernel
theorem dEnd_getFrame_126 : decode uEnd_getFrame.2.1 126 = .ok (.goto 8, 3) := by decide +kernel
theorem dEnd_getFrame_129 : decode uEnd_getFrame.2.1 129 = .ok (.aload_n 0, 1) := by decide +kernel
theorem dEnd_getFrame_130 : decode uEnd_getFrame.2.1 130 = .ok (.aload_n 1, 1) := by decide +kernel
theorem dEnd_getFrame_131 : decode uEnd_getFrame.2.1 131 = .ok (.invokevirtual 250, 3) := by decide +kernel
theorem dEnd_getFrame_134 : decode uEnd_getFrame.2.1 134 = .ok (.ireturn, 1) := by decide +kernel
theorem cs_Link_54 : cV "InterleavedLink" 54 uEnd_openStream 1 := ⟨⟨Or.inl (gW_in 404 (by decide +kernel) rfl), (gW_in 66 (by decide +kernel) rfl), (gW_in 407 (by decide +kernel) rfl), ⟨by decide, by decide⟩, by decide +kernel⟩, (gW_in 405 (by decide +kernel) rfl), (gW_in 406 (by decide +kernel) rfl)⟩
theorem fs_Link_67 : fS "InterleavedLink" 67 8 5 := ⟨"InterleavedLink$Stream", T_Stream, 10, cf_Stream, by decide, Or.inl (gW_in 265 (by decide +kernel) rfl)⟩
theorem cs_Link_71 : cV "InterleavedLink" 71 uEnd_sendHeaders 2 := ⟨⟨Or.inl (gW_in 568 (by decide +kernel) rfl), (gW_in 66 (by decide +kernel) rfl), (gW_in 420 (by decide +kernel) rfl), ⟨by decide, by decide⟩, by decide +kernel⟩, (gW_in 418 (by decide +kernel) rfl), (gW_in 419 (by decide +kernel) rfl)⟩
theorem fs_Link_75 : fS "InterleavedLink" 75 8 6 := ⟨"InterleavedLink$Stream", T_Stream, 10, cf_Stream, by decide, Or.inl (gW_in 268 (by decide +kernel) rfl)⟩
theorem cs_Link_85 : cV "InterleavedLink" 85 uBQ_addLowest 2 := ⟨⟨Or.inl (gW_in 573 (by decide +kernel) rfl), (gW_in 73 (by decide +kernel) rfl), (gW_in 576 (by decide +kernel) rfl), ⟨by decide, by decide⟩, by decide +kernel⟩, (gW_in 574 (by decide +kernel) rfl), (gW_in 575 (by decide +kernel) rfl)⟩
theorem ps_Link_75 {nm : String} : pS "InterleavedLink" nm 75 8 6 .boolean := ⟨"InterleavedLink$Stream", T_Stream, 10, cf_Stream, by decide, by decide +kernel, Or.inl ⟨rfl, Or.inl (gW_in 268 (by decide +kernel) rfl)⟩⟩
theorem lc_Link_98 : Cond.constantLong "InterleavedLink" 98 (-2) ∈ gW := gW_in 633 (by decide +kernel) rfl
theorem cs_Link_100 : cV "InterleavedLink" 100 uEnd_takeUnread 2 := ⟨⟨Or.inl (gW_in 634 (by decide +kernel) rfl), (gW_in 66 (by decide +kernel) rfl), (gW_in 637 (by decide +kernel) rfl), ⟨by decide, by decide⟩, by decide +kernel⟩, (gW_in 635 (by decide +kernel) rfl), (gW_in 636 (by decide +kernel) rfl)⟩
theorem cs_Link_107 : cV "InterleavedLink" 107 uEnd_endWithReset 3 := ⟨⟨Or.inl (gW_in 654 (by decide +kernel) rfl), (gW_in 66 (by decide +kernel) rfl), (gW_in 657 (by decide +kernel) rfl), ⟨by decide, by decide⟩, by decide +kernel⟩, (gW_in 655 (by decide +kernel) rfl), (gW_in 656 (by decide +kernel) rfl)⟩
theorem cs_Link_138 : cV "InterleavedLink" 138 uPipe_takeOldest 0 := ⟨⟨Or.inl (gW_in 691 (by decide +kernel) rfl), (gW_in 65 (by decide +kernel) rfl), (gW_in 694 (by decide +kernel) rfl), ⟨by decide, by decide⟩, by decide +kernel⟩, (gW_in 692 (by decide +kernel) rfl), (gW_in 693 (by decide +kernel) rfl)⟩
theorem cs_Link_142 : cV "InterleavedLink" 142 uEnd_getFrame 1 := ⟨⟨Or.inl (gW_in 699 (by decide +kernel) rfl), (gW_in 66 (by decide +kernel) rfl), (gW_in 702 (by decide +kernel) rfl), ⟨by decide, by decide⟩, by decide +kernel⟩, (gW_in 700 (by decide +kernel) rfl), (gW_in 701 (by decide +kernel) rfl)⟩
theorem fs_End_215 : fS "InterleavedLink$End" 215 12 0 := ⟨"InterleavedLink$Frame", T_Frame, 7, cf_Frame, by decide, Or.inl (gW_in 520 (by decide +kernel) rfl)⟩
theorem cs_End_218 : cV "InterleavedLink$End" 218 uEnd_getData 1 := ⟨⟨Or.inl (gW_in 703 (by decide +kernel) rfl), (gW_in 66 (by decide +kernel) rfl), (gW_in 706 (by decide +kernel) rfl), ⟨by decide, by decide⟩, by decide +kernel⟩, (gW_in 705 (by decide +kernel) rfl), (gW_in 10 (by decide +kernel) rfl)⟩
theorem cs_End_222 : cV "InterleavedLink$End" 222 uEnd_getHeaders 1 := ⟨⟨Or.inl (gW_in 723 (by decide +kernel) rfl), (gW_in 66 (by decide +kernel) rfl), (gW_in 726 (by decide +kernel) rfl), ⟨by decide, by decide⟩, by decide +kernel⟩, (gW_in 725 (by decide +kernel) rfl), (gW_in 12 (by decide +kernel) rfl)⟩
theorem cs_End_225 : cV "InterleavedLink$End" 225 uEnd_getReset 1 := ⟨⟨Or.inl (gW_in 755 (by decide +kernel) rfl), (gW_in 66 (by decide +kernel) rfl), (gW_in 758 (by decide +kernel) rfl), ⟨by decide, by decide⟩, by decide +kernel⟩, (gW_in 757 (by decide +kernel) rfl), (gW_in 17 (by decide +kernel) rfl)⟩
theorem cs_End_231 : cV "InterleavedLink$End" 231 uEnd_getAck 0 := ⟨⟨Or.inl (gW_in 759 (by decide +kernel) rfl), (gW_in 66 (by decide +kernel) rfl), (gW_in 762 (by decide +kernel) rfl), ⟨by decide, by decide⟩, by decide +kernel⟩, (gW_in 761 (by decide +kernel) rfl), (gW_in 18 (by decide +kernel) rfl)⟩
theorem fs_End_234 : fS "InterleavedLink$End" 234 12 4 := ⟨"InterleavedLink$Frame", T_Frame, 7, cf_Frame, by decide, Or.inl (gW_in 528 (by decide +kernel) rfl)⟩
theorem cs_End_240 : cV "InterleavedLink$End" 240 uEnd_getSetting 2 := ⟨⟨Or.inl (gW_in 775 (by decide +kernel) rfl), (gW_in 66 (by decide +kernel) rfl), (gW_in 778 (by decide +kernel) rfl), ⟨by decide, by decide⟩, by decide +kernel⟩, (gW_in 777 (by decide +kernel) rfl), (gW_in 21 (by decide +kernel) rfl)⟩
theorem cs_End_246 : cV "InterleavedLink$End" 246 uEnd_getLinkWindow 1 := ⟨⟨Or.inl (gW_in 796 (by decide +kernel) rfl), (gW_in 66 (by decide +kernel) rfl), (gW_in 799 (by decide +kernel) rfl), ⟨by decide, by decide⟩, by decide +kernel⟩, (gW_in 798 (by decide +kernel) rfl), (gW_in 24 (by decide +kernel) rfl)⟩
theorem cs_End_250 : cV "InterleavedLink$End" 250 uEnd_getStreamWindow 1 := ⟨⟨Or.inl (gW_in 800 (by decide +kernel) rfl), (gW_in 66 (by decide +kernel) rfl), (gW_in 803 (by decide +kernel) rfl), ⟨by decide, by decide⟩, by decide +kernel⟩, (gW_in 802 (by decide +kernel) rfl), (gW_in 25 (by decide +kernel) rfl)⟩
/-! ===== the calls, the class over the state ===== -/
theorem ct_headerR {X : mX} {l : Launch} {M : mM} {A : zA} {e : Nat} {a b z : Int32} (hR : RC M A) (he : e < 2) (hz0 : zI A (9 + 80 * e) 3 = 0) (ha : ¬ wi a 0 15 = 0) (hc6 : (zK A e).length < 6) (hz : z = 0 ∨ z = 1) : Ct X l uLink_header (rk 2 43) [.ref 3, .int (nI e), .int a, .int b, .int z] M (fun r M' => r = some (.int (nI ((zK A e).length + 1))) ∧ RC M' (yK A e (zK A e ++ [(a, b, z)])) ∧ Chg M M' cP cP) := by
  have hu : Kdown M e = 0 := (hR.sI (sc_E he (by omega))).trans hz0
  refine (ct_Link_header hR.1 he hu ha (hR.mkc he) hc6 hz).post ?_
  rintro r M' ⟨rfl, rfl⟩
  have c : Chg M (setI (setI (setI (setI M (11 + 80 * e) (zK A e).length a) (12 + 80 * e) (zK A e).length b) (13 + 80 * e) (zK A e).length z) (10 + 80 * e) 3 (nI ((zK A e).length + 1))) (fun a _ => 10 + 80 * e ≤ a ∧ a ≤ 13 + 80 * e) no2 := (((Chg.rf.setI (Or.inl (by omega))).setI (Or.inl (by omega))).setI (Or.inl (by omega))).setI (Or.inl (by omega))
  exact ⟨rfl, hR.yK he c ((hR.2.2.2.2.2.2.2.2.1 e he).app hc6), c.mono (fun a j q => show a < 169 by omega) fun _ _ q => q.elim⟩
def moZ (A : zA) (e : Nat) : Int32 := if 23 < zI A (9 + 80 * e) 15 then 0 else if nI (zK A e).length ≤ 0 then 0 else if zI A (25 + 80 * e) 1 ≤ nI (cntZ A e 12) then 0 else 1
theorem RC.mo {M : mM} {A : zA} {e : Nat} (h : RC M A) (he : e < 2) : moC M e = moZ A e := by
  unfold moC moZ
  rw [h.sI (sc_E (j := 15) he (by omega)), h.mkc he, h.sI (sc_T (j := 1) he (by omega)), h.cnt he 12 (Nat.le_refl _)]
theorem ct_moR {X : mX} {l : Launch} {M : mM} {A : zA} {e : Nat} (h : RC M A) (he : e < 2) : Ct X l uEnd_mayOpen (rk 2 42) [.ref (9 + 80 * e)] M (fun r M' => r = some (.int (moZ A e)) ∧ M' = M) := by rw [← h.mo he]; exact ct_mayOpen h.1 he
set_option maxRecDepth 100000 in
set_option maxHeartbeats 4000000 in
theorem ct_requestR {X : mX} {l : Launch} {M : mM} {A : zA} {e : Nat} (hR : RC M A) (he : e < 2) (e0 : e = 0) {k : Nat} {z : Int32} (hk : k < 12) (hX : FX X) (hz : z = 0 ∨ z = 1) (hno : zI A (9 + 80 * e) 15 = nI (2 * k + 1)) (hm : ¬ moZ A e = 0) (hz0 : zI A (9 + 80 * e) 3 = 0) (hnf : (zP A (1 - e)).length < 30) : Ct X l uLink_request (rn 7 157 6 45) [.ref 3, .int z] M (fun r M' => r = some (.int (nI (2 * k + 1))) ∧ RC M' (opS A e k z) ∧ Chg M M' cP cP) := by
  refine Ct.of (by decide) (Nat.le_of_ble_eq_true rfl) ?_
  show G X l uLink_request (rn 7 157 6 45) 6 45 M 0 [some (.ref 3), some (.int z), none] [] _
  have hC : Chg M M cP cP := Chg.rf
  have hu : Kdown M e = 0 := (hR.sI (sc_E he (by omega))).trans hz0
  subst e0
  refine g_aload_n 0 dLink_request_0 rfl ?_
  refine g_iconst 1 (nI 0) dLink_request_1 rfl ?_
  
  refine g_callV 2 [_] dLink_request_2 cs_Link_21 rfl (ci := 0) rfl (by decide) hR.1.link rfl ⟨(Nat.le_of_ble_eq_true rfl), (Nat.le_of_ble_eq_true rfl)⟩ (Nat.le_of_ble_eq_true rfl) (ct_upEndOf hR.1 he hu) (Nat.le_of_ble_eq_true rfl) (Nat.le_of_ble_eq_true rfl) ?_
  rintro _ M2 ⟨rfl, hM2⟩
  rw [hM2]
  clear hM2 M2
  refine g_astore_n 5 dLink_request_5 (by decide) rfl ?_
  refine g_aload_n 6 dLink_request_6 rfl ?_
  refine g_ifnull 7 dLink_request_7 ?_
  refine g_aload_n 10 dLink_request_10 rfl ?_
  refine g_callV 11 [] dLink_request_11 cs_Link_43 rfl (ci := 2) rfl (by decide) (hR.1.tEnd he) rfl ⟨(Nat.le_of_ble_eq_true rfl), (Nat.le_of_ble_eq_true rfl)⟩ (Nat.le_of_ble_eq_true rfl) (ct_moR hR he) (Nat.le_of_ble_eq_true rfl) (Nat.le_of_ble_eq_true rfl) ?_
  rintro _ M2 ⟨rfl, hM2⟩
  rw [hM2]
  clear hM2 M2
  refine g_if_ne 14 19 dLink_request_14 rfl (fun h14 => ?_) (fun h14 => ?_)
  · refine g_aload_n 19 dLink_request_19 rfl ?_
    refine g_getr 20 2 2 dLink_request_20 fs_Link_47 rfl (hR.1.tEnd he) (hR.1.rEnd2 he) ?_
    refine g_callV 23 [] dLink_request_23 cs_Link_51 rfl (ci := 1) rfl (by decide) (hR.1.tPipeO he) rfl ⟨(Nat.le_of_ble_eq_true rfl), (Nat.le_of_ble_eq_true rfl)⟩ (Nat.le_of_ble_eq_true rfl) (ct_fullR hR he) (Nat.le_of_ble_eq_true rfl) (Nat.le_of_ble_eq_true rfl) ?_
    rintro _ M2 ⟨rfl, hM2⟩
    rw [hM2]
    clear hM2 M2
    refine g_if_eq 26 32 dLink_request_26 rfl (fun h26 => ?_) (fun h26 => ?_)
    · refine g_aload_n 32 dLink_request_32 rfl ?_
      refine g_iload_n 33 dLink_request_33 rfl ?_
      refine g_callV 34 [_] dLink_request_34 cs_Link_54 rfl (ci := 2) rfl (by decide) (hR.1.tEnd he) rfl ⟨(Nat.le_of_ble_eq_true rfl), (Nat.le_of_ble_eq_true rfl)⟩ (Nat.le_of_ble_eq_true rfl) (ct_opSR hR he hk hX hz hno (by omega)) (Nat.le_of_ble_eq_true rfl) (Nat.le_of_ble_eq_true rfl) ?_
      rintro _ M1 ⟨rfl, hR1, hc⟩
      have hC1 := hC.tr hc
      exact g_iret 37 dLink_request_37 rfl ⟨rfl, hR1, hC1⟩
    · exact absurd (if_neg (by omega)) h26
  · exact absurd h14 hm

set_option maxRecDepth 100000 in
set_option maxHeartbeats 4000000 in
theorem ct_request_full {X : mX} {l : Launch} {M : mM} {A : zA} {e : Nat} (hR : RC M A) (he : e < 2) (e0 : e = 0) {z : Int32} (hm : ¬ moZ A e = 0) (hz0 : zI A (9 + 80 * e) 3 = 0) (hfl : 30 ≤ (zP A (1 - e)).length) : Ct X l uLink_request (rk 7 157) [.ref 3, .int z] M (fun r M' => r = some (.int (-2)) ∧ M' = M) := by
  refine Ct.of (by decide) (Nat.le_of_ble_eq_true rfl) ?_
  show G X l uLink_request (rk 7 157) 0 0 M 0 [some (.ref 3), some (.int z), none] [] _
  have hC : Chg M M cP cP := Chg.rf
  have hu : Kdown M e = 0 := (hR.sI (sc_E he (by omega))).trans hz0
  subst e0
  refine g_aload_n 0 dLink_request_0 rfl ?_
  refine g_iconst 1 (nI 0) dLink_request_1 rfl ?_
  refine g_callV 2 [_] dLink_request_2 cs_Link_21 rfl (ci := 0) rfl (by decide) hR.1.link rfl ⟨(Nat.le_of_ble_eq_true rfl), (Nat.le_of_ble_eq_true rfl)⟩ (Nat.le_of_ble_eq_true rfl) (ct_upEndOf hR.1 he hu) (Nat.le_of_ble_eq_true rfl) (Nat.le_of_ble_eq_true rfl) ?_
  rintro _ M2 ⟨rfl, hM2⟩
  rw [hM2]
  clear hM2 M2
  refine g_astore_n 5 dLink_request_5 (by decide) rfl ?_
  refine g_aload_n 6 dLink_request_6 rfl ?_
  refine g_ifnull 7 dLink_request_7 ?_
  refine g_aload_n 10 dLink_request_10 rfl ?_
  refine g_callV 11 [] dLink_request_11 cs_Link_43 rfl (ci := 2) rfl (by decide) (hR.1.tEnd he) rfl ⟨(Nat.le_of_ble_eq_true rfl), (Nat.le_of_ble_eq_true rfl)⟩ (Nat.le_of_ble_eq_true rfl) (ct_moR hR he) (Nat.le_of_ble_eq_true rfl) (Nat.le_of_ble_eq_true rfl) ?_
  rintro _ M2 ⟨rfl, hM2⟩
  rw [hM2]
  clear hM2 M2
  refine g_if_ne 14 19 dLink_request_14 rfl (fun h14 => ?_) (fun h14 => ?_)
  · refine g_aload_n 19 dLink_request_19 rfl ?_
    refine g_getr 20 2 2 dLink_request_20 fs_Link_47 rfl (hR.1.tEnd he) (hR.1.rEnd2 he) ?_
    refine g_callV 23 [] dLink_request_23 cs_Link_51 rfl (ci := 1) rfl (by decide) (hR.1.tPipeO he) rfl ⟨(Nat.le_of_ble_eq_true rfl), (Nat.le_of_ble_eq_true rfl)⟩ (Nat.le_of_ble_eq_true rfl) (ct_fullR hR he) (Nat.le_of_ble_eq_true rfl) (Nat.le_of_ble_eq_true rfl) ?_
    rintro _ M2 ⟨rfl, hM2⟩
    rw [hM2]
    clear hM2 M2
    refine g_if_eq 26 32 dLink_request_26 rfl (fun h26 => ?_) (fun h26 => ?_)
    · exact absurd (h26.symm.trans (if_pos hfl)) (by decide)
    · refine g_bipush 29 (-2) dLink_request_29 rfl ?_
      exact g_iret 31 dLink_request_31 rfl ⟨rfl, rfl⟩
  · exact absurd h14 hm

set_option maxRecDepth 100000 in
set_option maxHeartbeats 4000000 in
theorem ct_respondR {X : mX} {l : Launch} {M : mM} {A : zA} {e k : Nat} (hR : RC M A) (he : e < 2) (hk : k < 12) (e1 : e = 1) {z : Int32} (hX : FX X) (hz : z = 0 ∨ z = 1) (hm : ¬ msZ A e k = 0) (hh : zI A (29 + 80 * e + 5 * k) 5 = 0) (hmk : ¬ (zK A e).length = 0) (hz0 : zI A (9 + 80 * e) 3 = 0) (hnf : (zP A (1 - e)).length < 30) : Ct X l uLink_respond (rn 6 135 6 45) [.ref 3, .int (nI (2 * k + 1)), .int z] M (fun r M' => r = some (.int (nI (zK A e).length)) ∧ RC M' (sHd A e k z) ∧ Chg M M' cP cP) := by
  refine Ct.of (by decide) (Nat.le_of_ble_eq_true rfl) ?_
  show G X l uLink_respond (rn 6 135 6 45) 6 45 M 0 [some (.ref 3), some (.int (nI (2 * k + 1))), some (.int z), none, none, none] [] _
  have hC : Chg M M cP cP := Chg.rf
  have hu : Kdown M e = 0 := (hR.sI (sc_E he (by omega))).trans hz0
  subst e1
  have hk6 := hR.mk6 he
  refine g_aload_n 0 dLink_respond_0 rfl ?_
  refine g_iconst 1 (nI 1) dLink_respond_1 rfl ?_
  refine g_callV 2 [_] dLink_respond_2 cs_Link_21 rfl (ci := 0) rfl (by decide) hR.1.link rfl ⟨(Nat.le_of_ble_eq_true rfl), (Nat.le_of_ble_eq_true rfl)⟩ (Nat.le_of_ble_eq_true rfl) (ct_upEndOf hR.1 he hu) (Nat.le_of_ble_eq_true rfl) (Nat.le_of_ble_eq_true rfl) ?_
  rintro _ M2 ⟨rfl, hM2⟩
  rw [hM2]
  clear hM2 M2
  refine g_astore_n 5 dLink_respond_5 (by decide) rfl ?_
  refine g_aload_n 6 dLink_respond_6 rfl ?_
  refine g_iload_n 7 dLink_respond_7 rfl ?_
  refine g_callS 8 [_, _] dLink_respond_8 cs_Link_58 rfl rfl ⟨(Nat.le_of_ble_eq_true rfl), (Nat.le_of_ble_eq_true rfl)⟩ (Nat.le_of_ble_eq_true rfl) (ct_streamOf hR.1 he hk) (Nat.le_of_ble_eq_true rfl) (Nat.le_of_ble_eq_true rfl) ?_
  rintro _ M2 ⟨rfl, hM2⟩
  rw [hM2]
  clear hM2 M2
  refine g_astore 11 dLink_respond_11 (by decide) rfl ?_
  refine g_aload_n 13 dLink_respond_13 rfl ?_
  refine g_ifnull 14 dLink_respond_14 ?_
  refine g_aload 17 dLink_respond_17 rfl ?_
  refine g_ifnull 19 dLink_respond_19 ?_
  refine g_aload 22 dLink_respond_22 rfl ?_
  refine g_callV 24 [] dLink_respond_24 cs_Link_62 rfl (ci := 8) rfl (by decide) (hR.1.tStr he hk) rfl ⟨(Nat.le_of_ble_eq_true rfl), (Nat.le_of_ble_eq_true rfl)⟩ (Nat.le_of_ble_eq_true rfl) (ct_msR hR he hk) (Nat.le_of_ble_eq_true rfl) (Nat.le_of_ble_eq_true rfl) ?_
  rintro _ M2 ⟨rfl, hM2⟩
  rw [hM2]
  clear hM2 M2
  refine g_if_eq 27 48 dLink_respond_27 rfl (fun h27 => ?_) (fun h27 => ?_)
  · exact absurd h27 hm
  · refine g_aload 30 dLink_respond_30 rfl ?_
    refine g_geti 32 8 5 dLink_respond_32 fs_Link_67 rfl (hR.1.tStr he hk) ?_
    refine g_top _ (hR.sI (sc_S he hk (by omega) (by omega))) ?_
    refine g_if_ne 35 48 dLink_respond_35 rfl (fun h35 => ?_) (fun h35 => ?_)
    · exact absurd hh h35
    · refine g_aload_n 38 dLink_respond_38 rfl ?_
      refine g_getr 39 2 6 dLink_respond_39 fs_Link_29 rfl (hR.1.tEnd he) (hR.1.rEnd6 he) ?_
      refine g_geti 42 3 3 dLink_respond_42 fs_Link_33 rfl (hR.1.tFL he) ?_
      refine g_top _ (hR.mkc he) ?_
      refine g_if_neN 45 50 dLink_respond_45 rfl (by omega) (fun h45 => ?_) (fun h45 => ?_)
      · refine g_aload_n 50 dLink_respond_50 rfl ?_
        refine g_getr 51 2 2 dLink_respond_51 fs_Link_47 rfl (hR.1.tEnd he) (hR.1.rEnd2 he) ?_
        refine g_callV 54 [] dLink_respond_54 cs_Link_51 rfl (ci := 1) rfl (by decide) (hR.1.tPipeO he) rfl ⟨(Nat.le_of_ble_eq_true rfl), (Nat.le_of_ble_eq_true rfl)⟩ (Nat.le_of_ble_eq_true rfl) (ct_fullR hR he) (Nat.le_of_ble_eq_true rfl) (Nat.le_of_ble_eq_true rfl) ?_
        rintro _ M2 ⟨rfl, hM2⟩
        rw [hM2]
        clear hM2 M2
        refine g_if_eq 57 63 dLink_respond_57 rfl (fun h57 => ?_) (fun h57 => ?_)
        · refine g_aload_n 63 dLink_respond_63 rfl ?_
          refine g_getr 64 2 6 dLink_respond_64 fs_Link_29 rfl (hR.1.tEnd he) (hR.1.rEnd6 he) ?_
          refine g_geti 67 3 3 dLink_respond_67 fs_Link_33 rfl (hR.1.tFL he) ?_
          refine g_top _ (hR.mkc he) ?_
          refine g_istore 70 dLink_respond_70 (by decide) rfl ?_
          refine g_aload_n 72 dLink_respond_72 rfl ?_
          refine g_aload 73 dLink_respond_73 rfl ?_
          refine g_iload_n 75 dLink_respond_75 rfl ?_
          refine g_callV 76 [_, _] dLink_respond_76 cs_Link_71 rfl (ci := 2) rfl (by decide) (hR.1.tEnd he) rfl ⟨(Nat.le_of_ble_eq_true rfl), (Nat.le_of_ble_eq_true rfl)⟩ (Nat.le_of_ble_eq_true rfl) (ct_sHdR hR he hk hX hz (by omega)) (Nat.le_of_ble_eq_true rfl) (Nat.le_of_ble_eq_true rfl) ?_
          rintro _ M1 ⟨rfl, hR1, hc⟩
          have hC1 := hC.tr hc
          refine g_iload 79 dLink_respond_79 rfl ?_
          exact g_iret 81 dLink_respond_81 rfl ⟨rfl, hR1, hC1⟩
        · exact absurd (if_neg (by omega)) h57
      · exact absurd h45 hmk

set_option maxRecDepth 100000 in
set_option maxHeartbeats 4000000 in
theorem ct_respond_full {X : mX} {l : Launch} {M : mM} {A : zA} {e k : Nat} (hR : RC M A) (he : e < 2) (hk : k < 12) (e1 : e = 1) {z : Int32} (hm : ¬ msZ A e k = 0) (hh : zI A (29 + 80 * e + 5 * k) 5 = 0) (hmk : ¬ (zK A e).length = 0) (hz0 : zI A (9 + 80 * e) 3 = 0) (hfl : 30 ≤ (zP A (1 - e)).length) : Ct X l uLink_respond (rk 6 135) [.ref 3, .int (nI (2 * k + 1)), .int z] M (fun r M' => r = some (.int (-2)) ∧ M' = M) := by
  refine Ct.of (by decide) (Nat.le_of_ble_eq_true rfl) ?_
  show G X l uLink_respond (rk 6 135) 0 0 M 0 [some (.ref 3), some (.int (nI (2 * k + 1))), some (.int z), none, none, none] [] _
  have hC : Chg M M cP cP := Chg.rf
  have hu : Kdown M e = 0 := (hR.sI (sc_E he (by omega))).trans hz0
  subst e1
  have hk6 := hR.mk6 he
  refine g_aload_n 0 dLink_respond_0 rfl ?_
  refine g_iconst 1 (nI 1) dLink_respond_1 rfl ?_
  refine g_callV 2 [_] dLink_respond_2 cs_Link_21 rfl (ci := 0) rfl (by decide) hR.1.link rfl ⟨(Nat.le_of_ble_eq_true rfl), (Nat.le_of_ble_eq_true rfl)⟩ (Nat.le_of_ble_eq_true rfl) (ct_upEndOf hR.1 he hu) (Nat.le_of_ble_eq_true rfl) (Nat.le_of_ble_eq_true rfl) ?_
  rintro _ M2 ⟨rfl, hM2⟩
  rw [hM2]
  clear hM2 M2
  refine g_astore_n 5 dLink_respond_5 (by decide) rfl ?_
  refine g_aload_n 6 dLink_respond_6 rfl ?_
  refine g_iload_n 7 dLink_respond_7 rfl ?_
  refine g_callS 8 [_, _] dLink_respond_8 cs_Link_58 rfl rfl ⟨(Nat.le_of_ble_eq_true rfl), (Nat.le_of_ble_eq_true rfl)⟩ (Nat.le_of_ble_eq_true rfl) (ct_streamOf hR.1 he hk) (Nat.le_of_ble_eq_true rfl) (Nat.le_of_ble_eq_true rfl) ?_
  rintro _ M2 ⟨rfl, hM2⟩
  rw [hM2]
  clear hM2 M2
  refine g_astore 11 dLink_respond_11 (by decide) rfl ?_
  refine g_aload_n 13 dLink_respond_13 rfl ?_
  refine g_ifnull 14 dLink_respond_14 ?_
  refine g_aload 17 dLink_respond_17 rfl ?_
  refine g_ifnull 19 dLink_respond_19 ?_
  refine g_aload 22 dLink_respond_22 rfl ?_
  refine g_callV 24 [] dLink_respond_24 cs_Link_62 rfl (ci := 8) rfl (by decide) (hR.1.tStr he hk) rfl ⟨(Nat.le_of_ble_eq_true rfl), (Nat.le_of_ble_eq_true rfl)⟩ (Nat.le_of_ble_eq_true rfl) (ct_msR hR he hk) (Nat.le_of_ble_eq_true rfl) (Nat.le_of_ble_eq_true rfl) ?_
  rintro _ M2 ⟨rfl, hM2⟩
  rw [hM2]
  clear hM2 M2
  refine g_if_eq 27 48 dLink_respond_27 rfl (fun h27 => ?_) (fun h27 => ?_)
  · exact absurd h27 hm
  · refine g_aload 30 dLink_respond_30 rfl ?_
    refine g_geti 32 8 5 dLink_respond_32 fs_Link_67 rfl (hR.1.tStr he hk) ?_
    refine g_top _ (hR.sI (sc_S he hk (by omega) (by omega))) ?_
    refine g_if_ne 35 48 dLink_respond_35 rfl (fun h35 => ?_) (fun h35 => ?_)
    · exact absurd hh h35
    · refine g_aload_n 38 dLink_respond_38 rfl ?_
      refine g_getr 39 2 6 dLink_respond_39 fs_Link_29 rfl (hR.1.tEnd he) (hR.1.rEnd6 he) ?_
      refine g_geti 42 3 3 dLink_respond_42 fs_Link_33 rfl (hR.1.tFL he) ?_
      refine g_top _ (hR.mkc he) ?_
      refine g_if_neN 45 50 dLink_respond_45 rfl (by omega) (fun h45 => ?_) (fun h45 => ?_)
      · refine g_aload_n 50 dLink_respond_50 rfl ?_
        refine g_getr 51 2 2 dLink_respond_51 fs_Link_47 rfl (hR.1.tEnd he) (hR.1.rEnd2 he) ?_
        refine g_callV 54 [] dLink_respond_54 cs_Link_51 rfl (ci := 1) rfl (by decide) (hR.1.tPipeO he) rfl ⟨(Nat.le_of_ble_eq_true rfl), (Nat.le_of_ble_eq_true rfl)⟩ (Nat.le_of_ble_eq_true rfl) (ct_fullR hR he) (Nat.le_of_ble_eq_true rfl) (Nat.le_of_ble_eq_true rfl) ?_
        rintro _ M2 ⟨rfl, hM2⟩
        rw [hM2]
        clear hM2 M2
        refine g_if_eq 57 63 dLink_respond_57 rfl (fun h57 => ?_) (fun h57 => ?_)
        · exact absurd (h57.symm.trans (if_pos hfl)) (by decide)
        · refine g_bipush 60 (-2) dLink_respond_60 rfl ?_
          exact g_iret 62 dLink_respond_62 rfl ⟨rfl, rfl⟩
      · exact absurd h45 hmk

set_option maxRecDepth 100000 in
set_option maxHeartbeats 4000000 in
theorem ct_respond_hs {X : mX} {l : Launch} {M : mM} {A : zA} {e k : Nat} (hR : RC M A) (he : e < 2) (hk : k < 12) (e1 : e = 1) {z : Int32} (hh : ¬ zI A (29 + 80 * e + 5 * k) 5 = 0) (hz0 : zI A (9 + 80 * e) 3 = 0) : Ct X l uLink_respond (rk 6 135) [.ref 3, .int (nI (2 * k + 1)), .int z] M (fun r M' => r = some (.int (-1)) ∧ M' = M) := by
  refine Ct.of (by decide) (Nat.le_of_ble_eq_true rfl) ?_
  show G X l uLink_respond (rk 6 135) 0 0 M 0 [some (.ref 3), some (.int (nI (2 * k + 1))), some (.int z), none, none, none] [] _
  have hC : Chg M M cP cP := Chg.rf
  have hu : Kdown M e = 0 := (hR.sI (sc_E he (by omega))).trans hz0
  subst e1
  refine g_aload_n 0 dLink_respond_0 rfl ?_
  refine g_iconst 1 (nI 1) dLink_respond_1 rfl ?_
  refine g_callV 2 [_] dLink_respond_2 cs_Link_21 rfl (ci := 0) rfl (by decide) hR.1.link rfl ⟨(Nat.le_of_ble_eq_true rfl), (Nat.le_of_ble_eq_true rfl)⟩ (Nat.le_of_ble_eq_true rfl) (ct_upEndOf hR.1 he hu) (Nat.le_of_ble_eq_true rfl) (Nat.le_of_ble_eq_true rfl) ?_
  rintro _ M2 ⟨rfl, hM2⟩
  rw [hM2]
  clear hM2 M2
  refine g_astore_n 5 dLink_respond_5 (by decide) rfl ?_
  refine g_aload_n 6 dLink_respond_6 rfl ?_
  refine g_iload_n 7 dLink_respond_7 rfl ?_
  refine g_callS 8 [_, _] dLink_respond_8 cs_Link_58 rfl rfl ⟨(Nat.le_of_ble_eq_true rfl), (Nat.le_of_ble_eq_true rfl)⟩ (Nat.le_of_ble_eq_true rfl) (ct_streamOf hR.1 he hk) (Nat.le_of_ble_eq_true rfl) (Nat.le_of_ble_eq_true rfl) ?_
  rintro _ M2 ⟨rfl, hM2⟩
  rw [hM2]
  clear hM2 M2
  refine g_astore 11 dLink_respond_11 (by decide) rfl ?_
  refine g_aload_n 13 dLink_respond_13 rfl ?_
  refine g_ifnull 14 dLink_respond_14 ?_
  refine g_aload 17 dLink_respond_17 rfl ?_
  refine g_ifnull 19 dLink_respond_19 ?_
  refine g_aload 22 dLink_respond_22 rfl ?_
  refine g_callV 24 [] dLink_respond_24 cs_Link_62 rfl (ci := 8) rfl (by decide) (hR.1.tStr he hk) rfl ⟨(Nat.le_of_ble_eq_true rfl), (Nat.le_of_ble_eq_true rfl)⟩ (Nat.le_of_ble_eq_true rfl) (ct_msR hR he hk) (Nat.le_of_ble_eq_true rfl) (Nat.le_of_ble_eq_true rfl) ?_
  rintro _ M2 ⟨rfl, hM2⟩
  rw [hM2]
  clear hM2 M2
  refine g_if_eq 27 48 dLink_respond_27 rfl (fun h27 => ?_) (fun h27 => ?_)
  · refine g_iconst 48 (-1) dLink_respond_48 rfl ?_
    exact g_iret 49 dLink_respond_49 rfl (by (try rw [if_pos h27]); exact ⟨rfl, rfl⟩)
  · refine g_aload 30 dLink_respond_30 rfl ?_
    refine g_geti 32 8 5 dLink_respond_32 fs_Link_67 rfl (hR.1.tStr he hk) ?_
    refine g_top _ (hR.sI (sc_S he hk (by omega) (by omega))) ?_
    refine g_if_ne 35 48 dLink_respond_35 rfl (fun h35 => ?_) (fun h35 => ?_)
    · refine g_iconst 48 (-1) dLink_respond_48 rfl ?_
      exact g_iret 49 dLink_respond_49 rfl (by (try rw [if_neg h27]); exact ⟨rfl, rfl⟩)
    · exact absurd h35 hh

set_option maxRecDepth 100000 in
set_option maxHeartbeats 4000000 in
theorem ct_respond_mk {X : mX} {l : Launch} {M : mM} {A : zA} {e k : Nat} (hR : RC M A) (he : e < 2) (hk : k < 12) (e1 : e = 1) {z : Int32} (hmk : (zK A e).length = 0) (hz0 : zI A (9 + 80 * e) 3 = 0) : Ct X l uLink_respond (rk 6 135) [.ref 3, .int (nI (2 * k + 1)), .int z] M (fun r M' => r = some (.int (-1)) ∧ M' = M) := by
  refine Ct.of (by decide) (Nat.le_of_ble_eq_true rfl) ?_
  show G X l uLink_respond (rk 6 135) 0 0 M 0 [some (.ref 3), some (.int (nI (2 * k + 1))), some (.int z), none, none, none] [] _
  have hC : Chg M M cP cP := Chg.rf
  have hu : Kdown M e = 0 := (hR.sI (sc_E he (by omega))).trans hz0
  subst e1
  have hk6 := hR.mk6 he
  refine g_aload_n 0 dLink_respond_0 rfl ?_
  refine g_iconst 1 (nI 1) dLink_respond_1 rfl ?_
  refine g_callV 2 [_] dLink_respond_2 cs_Link_21 rfl (ci := 0) rfl (by decide) hR.1.link rfl ⟨(Nat.le_of_ble_eq_true rfl), (Nat.le_of_ble_eq_true rfl)⟩ (Nat.le_of_ble_eq_true rfl) (ct_upEndOf hR.1 he hu) (Nat.le_of_ble_eq_true rfl) (Nat.le_of_ble_eq_true rfl) ?_
  rintro _ M2 ⟨rfl, hM2⟩
  rw [hM2]
  clear hM2 M2
  refine g_astore_n 5 dLink_respond_5 (by decide) rfl ?_
  refine g_aload_n 6 dLink_respond_6 rfl ?_
  refine g_iload_n 7 dLink_respond_7 rfl ?_
  refine g_callS 8 [_, _] dLink_respond_8 cs_Link_58 rfl rfl ⟨(Nat.le_of_ble_eq_true rfl), (Nat.le_of_ble_eq_true rfl)⟩ (Nat.le_of_ble_eq_true rfl) (ct_streamOf hR.1 he hk) (Nat.le_of_ble_eq_true rfl) (Nat.le_of_ble_eq_true rfl) ?_
  rintro _ M2 ⟨rfl, hM2⟩
  rw [hM2]
  clear hM2 M2
  refine g_astore 11 dLink_respond_11 (by decide) rfl ?_
  refine g_aload_n 13 dLink_respond_13 rfl ?_
  refine g_ifnull 14 dLink_respond_14 ?_
  refine g_aload 17 dLink_respond_17 rfl ?_
  refine g_ifnull 19 dLink_respond_19 ?_
  refine g_aload 22 dLink_respond_22 rfl ?_
  refine g_callV 24 [] dLink_respond_24 cs_Link_62 rfl (ci := 8) rfl (by decide) (hR.1.tStr he hk) rfl ⟨(Nat.le_of_ble_eq_true rfl), (Nat.le_of_ble_eq_true rfl)⟩ (Nat.le_of_ble_eq_true rfl) (ct_msR hR he hk) (Nat.le_of_ble_eq_true rfl) (Nat.le_of_ble_eq_true rfl) ?_
  rintro _ M2 ⟨rfl, hM2⟩
  rw [hM2]
  clear hM2 M2
  refine g_if_eq 27 48 dLink_respond_27 rfl (fun h27 => ?_) (fun h27 => ?_)
  · refine g_iconst 48 (-1) dLink_respond_48 rfl ?_
    exact g_iret 49 dLink_respond_49 rfl (by (try rw [if_pos h27]); exact ⟨rfl, rfl⟩)
  · refine g_aload 30 dLink_respond_30 rfl ?_
    refine g_geti 32 8 5 dLink_respond_32 fs_Link_67 rfl (hR.1.tStr he hk) ?_
    refine g_top _ (hR.sI (sc_S he hk (by omega) (by omega))) ?_
    refine g_if_ne 35 48 dLink_respond_35 rfl (fun h35 => ?_) (fun h35 => ?_)
    · refine g_iconst 48 (-1) dLink_respond_48 rfl ?_
      exact g_iret 49 dLink_respond_49 rfl (by (try rw [if_neg h27]); (try rw [if_neg h35]); exact ⟨rfl, rfl⟩)
    · refine g_aload_n 38 dLink_respond_38 rfl ?_
      refine g_getr 39 2 6 dLink_respond_39 fs_Link_29 rfl (hR.1.tEnd he) (hR.1.rEnd6 he) ?_
      refine g_geti 42 3 3 dLink_respond_42 fs_Link_33 rfl (hR.1.tFL he) ?_
      refine g_top _ (hR.mkc he) ?_
      refine g_if_neN 45 50 dLink_respond_45 rfl (by omega) (fun h45 => ?_) (fun h45 => ?_)
      · exact absurd hmk h45
      · refine g_iconst 48 (-1) dLink_respond_48 rfl ?_
        exact g_iret 49 dLink_respond_49 rfl (by (try rw [if_neg h27]); (try rw [if_pos h35]); exact ⟨rfl, rfl⟩)

set_option maxRecDepth 100000 in
set_option maxHeartbeats 4000000 in
theorem ct_write_hs {X : mX} {l : Launch} {M : mM} {A : zA} {e k : Nat} (hR : RC M A) (he : e < 2) (hk : k < 12) {z : Int32} {b : Int64} {n : Int32} (hh : zI A (29 + 80 * e + 5 * k) 5 = 0) (hz0 : zI A (9 + 80 * e) 3 = 0) : Ct X l uLink_write (rk 3 64) [.ref 3, .int (nI e), .int (nI (2 * k + 1)), .long b, .int n, .int z] M (fun r M' => r = some (.int (-1)) ∧ M' = M) := by
  refine Ct.of (by decide) (Nat.le_of_ble_eq_true rfl) ?_
  show G X l uLink_write (rk 3 64) 0 0 M 0 [some (.ref 3), some (.int (nI e)), some (.int (nI (2 * k + 1))), some (.long b), none, some (.int n), some (.int z), none] [] _
  have hC : Chg M M cP cP := Chg.rf
  have hu : Kdown M e = 0 := (hR.sI (sc_E he (by omega))).trans hz0
  refine g_aload_n 0 dLink_write_0 rfl ?_
  refine g_iload_n 1 dLink_write_1 rfl ?_
  refine g_callV 2 [_] dLink_write_2 cs_Link_21 rfl (ci := 0) rfl (by decide) hR.1.link rfl ⟨(Nat.le_of_ble_eq_true rfl), (Nat.le_of_ble_eq_true rfl)⟩ (Nat.le_of_ble_eq_true rfl) (ct_upEndOf hR.1 he hu) (Nat.le_of_ble_eq_true rfl) (Nat.le_of_ble_eq_true rfl) ?_
  rintro _ M2 ⟨rfl, hM2⟩
  rw [hM2]
  clear hM2 M2
  refine g_iload_n 5 dLink_write_5 rfl ?_
  refine g_callS 6 [_, _] dLink_write_6 cs_Link_58 rfl rfl ⟨(Nat.le_of_ble_eq_true rfl), (Nat.le_of_ble_eq_true rfl)⟩ (Nat.le_of_ble_eq_true rfl) (ct_streamOf hR.1 he hk) (Nat.le_of_ble_eq_true rfl) (Nat.le_of_ble_eq_true rfl) ?_
  rintro _ M2 ⟨rfl, hM2⟩
  rw [hM2]
  clear hM2 M2
  refine g_astore 9 dLink_write_9 (by decide) rfl ?_
  refine g_aload 11 dLink_write_11 rfl ?_
  refine g_ifnull 13 dLink_write_13 ?_
  refine g_aload 16 dLink_write_16 rfl ?_
  refine g_callV 18 [] dLink_write_18 cs_Link_62 rfl (ci := 8) rfl (by decide) (hR.1.tStr he hk) rfl ⟨(Nat.le_of_ble_eq_true rfl), (Nat.le_of_ble_eq_true rfl)⟩ (Nat.le_of_ble_eq_true rfl) (ct_msR hR he hk) (Nat.le_of_ble_eq_true rfl) (Nat.le_of_ble_eq_true rfl) ?_
  rintro _ M2 ⟨rfl, hM2⟩
  rw [hM2]
  clear hM2 M2
  refine g_if_eq 21 40 dLink_write_21 rfl (fun h21 => ?_) (fun h21 => ?_)
  · refine g_iconst 40 (-1) dLink_write_40 rfl ?_
    exact g_iret 41 dLink_write_41 rfl (by (try rw [if_pos h21]); exact ⟨rfl, rfl⟩)
  · refine g_aload 24 dLink_write_24 rfl ?_
    refine g_geti 26 8 5 dLink_write_26 fs_Link_67 rfl (hR.1.tStr he hk) ?_
    refine g_top _ (hR.sI (sc_S he hk (by omega) (by omega))) ?_
    refine g_if_eq 29 40 dLink_write_29 rfl (fun h29 => ?_) (fun h29 => ?_)
    · refine g_iconst 40 (-1) dLink_write_40 rfl ?_
      exact g_iret 41 dLink_write_41 rfl (by (try rw [if_neg h21]); exact ⟨rfl, rfl⟩)
    · exact absurd hh h29

set_option maxRecDepth 100000 in
set_option maxHeartbeats 4000000 in
theorem ct_write_ls {X : mX} {l : Launch} {M : mM} {A : zA} {e k : Nat} (hR : RC M A) (he : e < 2) (hk : k < 12) {z : Int32} {b : Int64} {n : Int32} (hh : ¬ zI A (29 + 80 * e + 5 * k) 6 = 0) (hz0 : zI A (9 + 80 * e) 3 = 0) : Ct X l uLink_write (rk 3 64) [.ref 3, .int (nI e), .int (nI (2 * k + 1)), .long b, .int n, .int z] M (fun r M' => r = some (.int (-1)) ∧ M' = M) := by
  refine Ct.of (by decide) (Nat.le_of_ble_eq_true rfl) ?_
  show G X l uLink_write (rk 3 64) 0 0 M 0 [some (.ref 3), some (.int (nI e)), some (.int (nI (2 * k + 1))), some (.long b), none, some (.int n), some (.int z), none] [] _
  have hC : Chg M M cP cP := Chg.rf
  have hu : Kdown M e = 0 := (hR.sI (sc_E he (by omega))).trans hz0
  refine g_aload_n 0 dLink_write_0 rfl ?_
  refine g_iload_n 1 dLink_write_1 rfl ?_
  refine g_callV 2 [_] dLink_write_2 cs_Link_21 rfl (ci := 0) rfl (by decide) hR.1.link rfl ⟨(Nat.le_of_ble_eq_true rfl), (Nat.le_of_ble_eq_true rfl)⟩ (Nat.le_of_ble_eq_true rfl) (ct_upEndOf hR.1 he hu) (Nat.le_of_ble_eq_true rfl) (Nat.le_of_ble_eq_true rfl) ?_
  rintro _ M2 ⟨rfl, hM2⟩
  rw [hM2]
  clear hM2 M2
  refine g_iload_n 5 dLink_write_5 rfl ?_
  refine g_callS 6 [_, _] dLink_write_6 cs_Link_58 rfl rfl ⟨(Nat.le_of_ble_eq_true rfl), (Nat.le_of_ble_eq_true rfl)⟩ (Nat.le_of_ble_eq_true rfl) (ct_streamOf hR.1 he hk) (Nat.le_of_ble_eq_true rfl) (Nat.le_of_ble_eq_true rfl) ?_
  rintro _ M2 ⟨rfl, hM2⟩
  rw [hM2]
  clear hM2 M2
  refine g_astore 9 dLink_write_9 (by decide) rfl ?_
  refine g_aload 11 dLink_write_11 rfl ?_
  refine g_ifnull 13 dLink_write_13 ?_
  refine g_aload 16 dLink_write_16 rfl ?_
  refine g_callV 18 [] dLink_write_18 cs_Link_62 rfl (ci := 8) rfl (by decide) (hR.1.tStr he hk) rfl ⟨(Nat.le_of_ble_eq_true rfl), (Nat.le_of_ble_eq_true rfl)⟩ (Nat.le_of_ble_eq_true rfl) (ct_msR hR he hk) (Nat.le_of_ble_eq_true rfl) (Nat.le_of_ble_eq_true rfl) ?_
  rintro _ M2 ⟨rfl, hM2⟩
  rw [hM2]
  clear hM2 M2
  refine g_if_eq 21 40 dLink_write_21 rfl (fun h21 => ?_) (fun h21 => ?_)
  · refine g_iconst 40 (-1) dLink_write_40 rfl ?_
    exact g_iret 41 dLink_write_41 rfl (by (try rw [if_pos h21]); exact ⟨rfl, rfl⟩)
  · refine g_aload 24 dLink_write_24 rfl ?_
    refine g_geti 26 8 5 dLink_write_26 fs_Link_67 rfl (hR.1.tStr he hk) ?_
    refine g_top _ (hR.sI (sc_S he hk (by omega) (by omega))) ?_
    refine g_if_eq 29 40 dLink_write_29 rfl (fun h29 => ?_) (fun h29 => ?_)
    · refine g_iconst 40 (-1) dLink_write_40 rfl ?_
      exact g_iret 41 dLink_write_41 rfl (by (try rw [if_neg h21]); (try rw [if_pos h29]); exact ⟨rfl, rfl⟩)
    · refine g_aload 32 dLink_write_32 rfl ?_
      refine g_geti 34 8 6 dLink_write_34 fs_Link_75 rfl (hR.1.tStr he hk) ?_
      refine g_top _ (hR.sI (sc_S he hk (by omega) (by omega))) ?_
      refine g_if_eq 37 42 dLink_write_37 rfl (fun h37 => ?_) (fun h37 => ?_)
      · exact absurd h37 hh
      · refine g_iconst 40 (-1) dLink_write_40 rfl ?_
        exact g_iret 41 dLink_write_41 rfl (by (try rw [if_neg h21]); (try rw [if_neg h29]); exact ⟨rfl, rfl⟩)

set_option maxRecDepth 100000 in
set_option maxHeartbeats 4000000 in
theorem ct_write_bad {X : mX} {l : Launch} {M : mM} {A : zA} {e k : Nat} (hR : RC M A) (he : e < 2) (hk : k < 12) {z : Int32} {b : Int64} {n : Int32} (hh : wi n 0 8 = 0) (hz0 : zI A (9 + 80 * e) 3 = 0) : Ct X l uLink_write (rk 3 64) [.ref 3, .int (nI e), .int (nI (2 * k + 1)), .long b, .int n, .int z] M (fun r M' => r = some (.int (-1)) ∧ M' = M) := by
  refine Ct.of (by decide) (Nat.le_of_ble_eq_true rfl) ?_
  show G X l uLink_write (rk 3 64) 0 0 M 0 [some (.ref 3), some (.int (nI e)), some (.int (nI (2 * k + 1))), some (.long b), none, some (.int n), some (.int z), none] [] _
  have hC : Chg M M cP cP := Chg.rf
  have hu : Kdown M e = 0 := (hR.sI (sc_E he (by omega))).trans hz0
  refine g_aload_n 0 dLink_write_0 rfl ?_
  refine g_iload_n 1 dLink_write_1 rfl ?_
  refine g_callV 2 [_] dLink_write_2 cs_Link_21 rfl (ci := 0) rfl (by decide) hR.1.link rfl ⟨(Nat.le_of_ble_eq_true rfl), (Nat.le_of_ble_eq_true rfl)⟩ (Nat.le_of_ble_eq_true rfl) (ct_upEndOf hR.1 he hu) (Nat.le_of_ble_eq_true rfl) (Nat.le_of_ble_eq_true rfl) ?_
  rintro _ M2 ⟨rfl, hM2⟩
  rw [hM2]
  clear hM2 M2
  refine g_iload_n 5 dLink_write_5 rfl ?_
  refine g_callS 6 [_, _] dLink_write_6 cs_Link_58 rfl rfl ⟨(Nat.le_of_ble_eq_true rfl), (Nat.le_of_ble_eq_true rfl)⟩ (Nat.le_of_ble_eq_true rfl) (ct_streamOf hR.1 he hk) (Nat.le_of_ble_eq_true rfl) (Nat.le_of_ble_eq_true rfl) ?_
  rintro _ M2 ⟨rfl, hM2⟩
  rw [hM2]
  clear hM2 M2
  refine g_astore 9 dLink_write_9 (by decide) rfl ?_
  refine g_aload 11 dLink_write_11 rfl ?_
  refine g_ifnull 13 dLink_write_13 ?_
  refine g_aload 16 dLink_write_16 rfl ?_
  refine g_callV 18 [] dLink_write_18 cs_Link_62 rfl (ci := 8) rfl (by decide) (hR.1.tStr he hk) rfl ⟨(Nat.le_of_ble_eq_true rfl), (Nat.le_of_ble_eq_true rfl)⟩ (Nat.le_of_ble_eq_true rfl) (ct_msR hR he hk) (Nat.le_of_ble_eq_true rfl) (Nat.le_of_ble_eq_true rfl) ?_
  rintro _ M2 ⟨rfl, hM2⟩
  rw [hM2]
  clear hM2 M2
  refine g_if_eq 21 40 dLink_write_21 rfl (fun h21 => ?_) (fun h21 => ?_)
  · refine g_iconst 40 (-1) dLink_write_40 rfl ?_
    exact g_iret 41 dLink_write_41 rfl (by (try rw [if_pos h21]); exact ⟨rfl, rfl⟩)
  · refine g_aload 24 dLink_write_24 rfl ?_
    refine g_geti 26 8 5 dLink_write_26 fs_Link_67 rfl (hR.1.tStr he hk) ?_
    refine g_top _ (hR.sI (sc_S he hk (by omega) (by omega))) ?_
    refine g_if_eq 29 40 dLink_write_29 rfl (fun h29 => ?_) (fun h29 => ?_)
    · refine g_iconst 40 (-1) dLink_write_40 rfl ?_
      exact g_iret 41 dLink_write_41 rfl (by (try rw [if_neg h21]); (try rw [if_pos h29]); exact ⟨rfl, rfl⟩)
    · refine g_aload 32 dLink_write_32 rfl ?_
      refine g_geti 34 8 6 dLink_write_34 fs_Link_75 rfl (hR.1.tStr he hk) ?_
      refine g_top _ (hR.sI (sc_S he hk (by omega) (by omega))) ?_
      refine g_if_eq 37 42 dLink_write_37 rfl (fun h37 => ?_) (fun h37 => ?_)
      · refine g_iload 42 dLink_write_42 rfl ?_
        refine g_iconst 44 0 dLink_write_44 rfl ?_
        refine g_bipush 45 8 dLink_write_45 rfl ?_
        refine g_callS 47 [_, _, _] dLink_write_47 cs_Link_25 rfl rfl ⟨(Nat.le_of_ble_eq_true rfl), (Nat.le_of_ble_eq_true rfl)⟩ (Nat.le_of_ble_eq_true rfl) (ct_isWithin) (Nat.le_of_ble_eq_true rfl) (Nat.le_of_ble_eq_true rfl) ?_
        rintro _ M2 ⟨rfl, hM2⟩
        rw [hM2]
        clear hM2 M2
        refine g_if_eq 50 69 dLink_write_50 rfl (fun h50 => ?_) (fun h50 => ?_)
        · refine g_iconst 69 (-1) dLink_write_69 rfl ?_
          exact g_iret 70 dLink_write_70 rfl (by (try rw [if_neg h21]); (try rw [if_neg h29]); (try rw [if_pos h37]); exact ⟨rfl, rfl⟩)
        · exact absurd hh h50
      · refine g_iconst 40 (-1) dLink_write_40 rfl ?_
        exact g_iret 41 dLink_write_41 rfl (by (try rw [if_neg h21]); (try rw [if_neg h29]); (try rw [if_neg h37]); exact ⟨rfl, rfl⟩)

set_option maxRecDepth 100000 in
set_option maxHeartbeats 4000000 in
theorem ct_write_big {X : mX} {l : Launch} {M : mM} {A : zA} {e k : Nat} (hR : RC M A) (he : e < 2) (hk : k < 12) {z : Int32} {b : Int64} {n : Nat} (h8 : n ≤ 8) (hh : ¬ (zW A e k).length + n ≤ 32) (hz0 : zI A (9 + 80 * e) 3 = 0) : Ct X l uLink_write (rk 3 64) [.ref 3, .int (nI e), .int (nI (2 * k + 1)), .long b, .int (nI n), .int z] M (fun r M' => r = some (.int (-1)) ∧ M' = M) := by
  refine Ct.of (by decide) (Nat.le_of_ble_eq_true rfl) ?_
  show G X l uLink_write (rk 3 64) 0 0 M 0 [some (.ref 3), some (.int (nI e)), some (.int (nI (2 * k + 1))), some (.long b), none, some (.int (nI n)), some (.int z), none] [] _
  have hC : Chg M M cP cP := Chg.rf
  have hu : Kdown M e = 0 := (hR.sI (sc_E he (by omega))).trans hz0
  have hw := hR.w32 he hk
  refine g_aload_n 0 dLink_write_0 rfl ?_
  refine g_iload_n 1 dLink_write_1 rfl ?_
  refine g_callV 2 [_] dLink_write_2 cs_Link_21 rfl (ci := 0) rfl (by decide) hR.1.link rfl ⟨(Nat.le_of_ble_eq_true rfl), (Nat.le_of_ble_eq_true rfl)⟩ (Nat.le_of_ble_eq_true rfl) (ct_upEndOf hR.1 he hu) (Nat.le_of_ble_eq_true rfl) (Nat.le_of_ble_eq_true rfl) ?_
  rintro _ M2 ⟨rfl, hM2⟩
  rw [hM2]
  clear hM2 M2
  refine g_iload_n 5 dLink_write_5 rfl ?_
  refine g_callS 6 [_, _] dLink_write_6 cs_Link_58 rfl rfl ⟨(Nat.le_of_ble_eq_true rfl), (Nat.le_of_ble_eq_true rfl)⟩ (Nat.le_of_ble_eq_true rfl) (ct_streamOf hR.1 he hk) (Nat.le_of_ble_eq_true rfl) (Nat.le_of_ble_eq_true rfl) ?_
  rintro _ M2 ⟨rfl, hM2⟩
  rw [hM2]
  clear hM2 M2
  refine g_astore 9 dLink_write_9 (by decide) rfl ?_
  refine g_aload 11 dLink_write_11 rfl ?_
  refine g_ifnull 13 dLink_write_13 ?_
  refine g_aload 16 dLink_write_16 rfl ?_
  refine g_callV 18 [] dLink_write_18 cs_Link_62 rfl (ci := 8) rfl (by decide) (hR.1.tStr he hk) rfl ⟨(Nat.le_of_ble_eq_true rfl), (Nat.le_of_ble_eq_true rfl)⟩ (Nat.le_of_ble_eq_true rfl) (ct_msR hR he hk) (Nat.le_of_ble_eq_true rfl) (Nat.le_of_ble_eq_true rfl) ?_
  rintro _ M2 ⟨rfl, hM2⟩
  rw [hM2]
  clear hM2 M2
  refine g_if_eq 21 40 dLink_write_21 rfl (fun h21 => ?_) (fun h21 => ?_)
  · refine g_iconst 40 (-1) dLink_write_40 rfl ?_
    exact g_iret 41 dLink_write_41 rfl (by (try rw [if_pos h21]); exact ⟨rfl, rfl⟩)
  · refine g_aload 24 dLink_write_24 rfl ?_
    refine g_geti 26 8 5 dLink_write_26 fs_Link_67 rfl (hR.1.tStr he hk) ?_
    refine g_top _ (hR.sI (sc_S he hk (by omega) (by omega))) ?_
    refine g_if_eq 29 40 dLink_write_29 rfl (fun h29 => ?_) (fun h29 => ?_)
    · refine g_iconst 40 (-1) dLink_write_40 rfl ?_
      exact g_iret 41 dLink_write_41 rfl (by (try rw [if_neg h21]); (try rw [if_pos h29]); exact ⟨rfl, rfl⟩)
    · refine g_aload 32 dLink_write_32 rfl ?_
      refine g_geti 34 8 6 dLink_write_34 fs_Link_75 rfl (hR.1.tStr he hk) ?_
      refine g_top _ (hR.sI (sc_S he hk (by omega) (by omega))) ?_
      refine g_if_eq 37 42 dLink_write_37 rfl (fun h37 => ?_) (fun h37 => ?_)
      · refine g_iload 42 dLink_write_42 rfl ?_
        refine g_iconst 44 0 dLink_write_44 rfl ?_
        refine g_bipush 45 8 dLink_write_45 rfl ?_
        refine g_callS 47 [_, _, _] dLink_write_47 cs_Link_25 rfl rfl ⟨(Nat.le_of_ble_eq_true rfl), (Nat.le_of_ble_eq_true rfl)⟩ (Nat.le_of_ble_eq_true rfl) (ct_isWithin) (Nat.le_of_ble_eq_true rfl) (Nat.le_of_ble_eq_true rfl) ?_
        rintro _ M2 ⟨rfl, hM2⟩
        rw [hM2]
        clear hM2 M2
        refine g_if_eq 50 69 dLink_write_50 rfl (fun h50 => ?_) (fun h50 => ?_)
        · refine g_iconst 69 (-1) dLink_write_69 rfl ?_
          exact g_iret 70 dLink_write_70 rfl (by (try rw [if_neg h21]); (try rw [if_neg h29]); (try rw [if_pos h37]); (try rw [if_pos h50]); exact ⟨rfl, rfl⟩)
        · refine g_aload 53 dLink_write_53 rfl ?_
          refine g_getr 55 8 8 dLink_write_55 fs_Link_78 rfl (hR.1.tStr he hk) (hR.1.rStr8 he hk) ?_
          refine g_geti 58 9 1 dLink_write_58 fs_Link_82 rfl (hR.1.tWt he hk) ?_
          refine g_top _ (hR.wc he hk) ?_
          refine g_iload 61 dLink_write_61 rfl ?_
          refine g_iaddN 63 dLink_write_63 ?_
          refine g_bipush 64 (nI 32) dLink_write_64 rfl ?_
          refine g_icmp_leN 66 71 dLink_write_66 rfl (by omega) (by omega) (fun h66 => ?_) (fun h66 => ?_)
          · exact absurd h66 hh
          · refine g_iconst 69 (-1) dLink_write_69 rfl ?_
            exact g_iret 70 dLink_write_70 rfl (by (try rw [if_neg h21]); (try rw [if_neg h29]); (try rw [if_pos h37]); (try rw [if_neg h50]); exact ⟨rfl, rfl⟩)
      · refine g_iconst 40 (-1) dLink_write_40 rfl ?_
        exact g_iret 41 dLink_write_41 rfl (by (try rw [if_neg h21]); (try rw [if_neg h29]); (try rw [if_neg h37]); exact ⟨rfl, rfl⟩)

/-- the n lowest bytes of a number, the lowest first -/
def lowB (b : Int64) : Nat → List Int32
  | 0 => []
  | n + 1 => lowB b n ++ [(shB b n).toInt32 &&& 255]
theorem lowB_len (b : Int64) : ∀ n, (lowB b n).length = n
  | 0 => rfl
  | n + 1 => by unfold lowB; rw [List.length_append, lowB_len b n]; rfl
theorem sb_and (x : Int32) : sb (x &&& 255) = sb x := by
  unfold sb
  rw [Int32.toInt8_and, show (255 : Int32).toInt8 = -1 from by decide, Int8.and_neg_one]
theorem sb_sb (x : Int32) : sb (sb x) = sb x := by
  unfold sb
  rw [Int8.toInt8_toInt32]
theorem QC.low {M : mM} {q r N : Nat} {L : List Int32} {b : Int64} (hqr : q ≠ r) (h : QC M q r N L) : ∀ n, L.length + n ≤ N → QC (adl M q r L.length b n) q r N (L ++ lowB b n) ∧ Chg M (adl M q r L.length b n) (fun a k => (a = q ∧ k = 1) ∨ a = r) no2
  | 0, _ => ⟨by show QC M q r N (L ++ []); rw [List.append_nil]; exact h, Chg.rf⟩
  | n + 1, hn => by
    obtain ⟨⟨h1, h2, h3⟩, hc⟩ := QC.low hqr h n (by omega)
    refine ⟨⟨?_, by rw [List.length_append, lowB_len]; exact hn, fun j x hx => ?_⟩, (hc.setI (Or.inl (Or.inr rfl))).setI (Or.inl (Or.inl ⟨rfl, rfl⟩))⟩
    · show up2 _ q 1 _ q 1 = _
      rw [up2_same, List.length_append, lowB_len]
      rfl
    · show up2 (up2 (mI (adl M q r L.length b n)) r (L.length + n) (sb (sb (shB b n).toInt32))) q 1 _ r j = sb x
      rw [up2_a (Ne.symm hqr)]
      unfold lowB at hx
      rw [← List.append_assoc] at hx
      have hl : (L ++ lowB b n).length = L.length + n := by rw [List.length_append, lowB_len]
      by_cases hj : j < L.length + n
      · rw [up2_k (by omega)]
        rw [List.getElem?_append_left (by omega)] at hx
        exact h3 j x hx
      · rw [List.getElem?_append_right (by omega)] at hx
        have h6 := (List.getElem?_eq_some_iff.mp hx).1
        have hj2 : j = L.length + n := by rw [hl] at h6; simp at h6; omega
        subst hj2
        rw [up2_same, sb_sb]
        rw [hl, Nat.sub_self] at hx
        simp at hx
        rw [← hx, sb_and]
theorem ct_addLR {X : mX} {l : Launch} {M : mM} {A : zA} {e k n : Nat} {b : Int64} (h : RC M A) (he : e < 2) (hk : k < 12) (hn : (zW A e k).length + n ≤ 32) : Ct X l uBQ_addLowest (rk 0 0) [.ref (30 + 80 * e + 5 * k), .long b, .int (nI n)] M (fun r M' => r = none ∧ RC M' (yW A e k (zW A e k ++ lowB b n)) ∧ Chg M M' cP cP) := by
  have hN := h.1.1
  have hq := h.2.2.2.2.1 e k he hk
  refine (ct_BQ_addLowest (h.1.tWt he hk) (h.1.rWt0 he hk) (h.1.TWtR he hk) (by omega) (by omega) hq.1 hq.2.1 (by decide) hn).post ?_
  rintro r M' ⟨rfl, rfl⟩
  obtain ⟨h1, h2⟩ := hq.low (b := b) (by omega) n hn
  exact ⟨rfl, h.yW he hk h2 h1, h2.mono (fun a j q => show a < 169 by omega) fun _ _ q => q.elim⟩
def wrA (A : zA) (e k : Nat) (b : Int64) (n : Nat) (z : Int32) : zA := yI (yW A e k (zW A e k ++ lowB b n)) (29 + 80 * e + 5 * k) 6 z
theorem wi8 {n : Nat} (h : n ≤ 8) : wi (nI n) 0 8 = 1 := by
  unfold wi
  rw [if_neg (nI_pos (by omega)), if_neg (fun q => by have := (nI_ltI (a := 8) (b := n) (by decide) (by omega)).mp q; omega)]
set_option maxRecDepth 100000 in
set_option maxHeartbeats 4000000 in
theorem ct_writeR {X : mX} {l : Launch} {M : mM} {A : zA} {e k : Nat} (hR : RC M A) (he : e < 2) (hk : k < 12) {z : Int32} {b : Int64} {n : Nat} (hz : z = 0 ∨ z = 1) (h8 : n ≤ 8) (hm : ¬ msZ A e k = 0) (h5 : ¬ zI A (29 + 80 * e + 5 * k) 5 = 0) (h6 : zI A (29 + 80 * e + 5 * k) 6 = 0) (hh : (zW A e k).length + n ≤ 32) (hz0 : zI A (9 + 80 * e) 3 = 0) : Ct X l uLink_write (rk 3 64) [.ref 3, .int (nI e), .int (nI (2 * k + 1)), .long b, .int (nI n), .int z] M (fun r M' => r = some (.int (nI ((zW A e k).length + n))) ∧ RC M' (wrA A e k b n z) ∧ Chg M M' cP cP) := by
  refine Ct.of (by decide) (Nat.le_of_ble_eq_true rfl) ?_
  show G X l uLink_write (rk 3 64) 0 0 M 0 [some (.ref 3), some (.int (nI e)), some (.int (nI (2 * k + 1))), some (.long b), none, some (.int (nI n)), some (.int z), none] [] _
  have hC : Chg M M cP cP := Chg.rf
  have hu : Kdown M e = 0 := (hR.sI (sc_E he (by omega))).trans hz0
  have hw := hR.w32 he hk
  refine g_aload_n 0 dLink_write_0 rfl ?_
  refine g_iload_n 1 dLink_write_1 rfl ?_
  refine g_callV 2 [_] dLink_write_2 cs_Link_21 rfl (ci := 0) rfl (by decide) hR.1.link rfl ⟨(Nat.le_of_ble_eq_true rfl), (Nat.le_of_ble_eq_true rfl)⟩ (Nat.le_of_ble_eq_true rfl) (ct_upEndOf hR.1 he hu) (Nat.le_of_ble_eq_true rfl) (Nat.le_of_ble_eq_true rfl) ?_
  rintro _ M2 ⟨rfl, hM2⟩
  rw [hM2]
  clear hM2 M2
  refine g_iload_n 5 dLink_write_5 rfl ?_
  refine g_callS 6 [_, _] dLink_write_6 cs_Link_58 rfl rfl ⟨(Nat.le_of_ble_eq_true rfl), (Nat.le_of_ble_eq_true rfl)⟩ (Nat.le_of_ble_eq_true rfl) (ct_streamOf hR.1 he hk) (Nat.le_of_ble_eq_true rfl) (Nat.le_of_ble_eq_true rfl) ?_
  rintro _ M2 ⟨rfl, hM2⟩
  rw [hM2]
  clear hM2 M2
  refine g_astore 9 dLink_write_9 (by decide) rfl ?_
  refine g_aload 11 dLink_write_11 rfl ?_
  refine g_ifnull 13 dLink_write_13 ?_
  refine g_aload 16 dLink_write_16 rfl ?_
  refine g_callV 18 [] dLink_write_18 cs_Link_62 rfl (ci := 8) rfl (by decide) (hR.1.tStr he hk) rfl ⟨(Nat.le_of_ble_eq_true rfl), (Nat.le_of_ble_eq_true rfl)⟩ (Nat.le_of_ble_eq_true rfl) (ct_msR hR he hk) (Nat.le_of_ble_eq_true rfl) (Nat.le_of_ble_eq_true rfl) ?_
  rintro _ M2 ⟨rfl, hM2⟩
  rw [hM2]
  clear hM2 M2
  refine g_if_eq 21 40 dLink_write_21 rfl (fun h21 => ?_) (fun h21 => ?_)
  · exact absurd h21 hm
  · refine g_aload 24 dLink_write_24 rfl ?_
    refine g_geti 26 8 5 dLink_write_26 fs_Link_67 rfl (hR.1.tStr he hk) ?_
    refine g_top _ (hR.sI (sc_S he hk (by omega) (by omega))) ?_
    refine g_if_eq 29 40 dLink_write_29 rfl (fun h29 => ?_) (fun h29 => ?_)
    · exact absurd h29 h5
    · refine g_aload 32 dLink_write_32 rfl ?_
      refine g_geti 34 8 6 dLink_write_34 fs_Link_75 rfl (hR.1.tStr he hk) ?_
      refine g_top _ (hR.sI (sc_S he hk (by omega) (by omega))) ?_
      refine g_if_eq 37 42 dLink_write_37 rfl (fun h37 => ?_) (fun h37 => ?_)
      · refine g_iload 42 dLink_write_42 rfl ?_
        refine g_iconst 44 0 dLink_write_44 rfl ?_
        refine g_bipush 45 8 dLink_write_45 rfl ?_
        refine g_callS 47 [_, _, _] dLink_write_47 cs_Link_25 rfl rfl ⟨(Nat.le_of_ble_eq_true rfl), (Nat.le_of_ble_eq_true rfl)⟩ (Nat.le_of_ble_eq_true rfl) (ct_isWithin) (Nat.le_of_ble_eq_true rfl) (Nat.le_of_ble_eq_true rfl) ?_
        rintro _ M2 ⟨rfl, hM2⟩
        rw [hM2]
        clear hM2 M2
        refine g_if_eq 50 69 dLink_write_50 rfl (fun h50 => ?_) (fun h50 => ?_)
        · exact absurd (h50.symm.trans (wi8 h8)) (by decide)
        · refine g_aload 53 dLink_write_53 rfl ?_
          refine g_getr 55 8 8 dLink_write_55 fs_Link_78 rfl (hR.1.tStr he hk) (hR.1.rStr8 he hk) ?_
          refine g_geti 58 9 1 dLink_write_58 fs_Link_82 rfl (hR.1.tWt he hk) ?_
          refine g_top _ (hR.wc he hk) ?_
          refine g_iload 61 dLink_write_61 rfl ?_
          refine g_iaddN 63 dLink_write_63 ?_
          refine g_bipush 64 (nI 32) dLink_write_64 rfl ?_
          refine g_icmp_leN 66 71 dLink_write_66 rfl (by omega) (by omega) (fun h66 => ?_) (fun h66 => ?_)
          · refine g_aload 71 dLink_write_71 rfl ?_
            refine g_getr 73 8 8 dLink_write_73 fs_Link_78 rfl (hR.1.tStr he hk) (hR.1.rStr8 he hk) ?_
            refine g_lload_n 76 dLink_write_76 rfl ?_
            refine g_iload 77 dLink_write_77 rfl ?_
            refine g_callV 79 [_, _] dLink_write_79 cs_Link_85 rfl (ci := 9) rfl (by decide) (hR.1.tWt he hk) rfl ⟨(Nat.le_of_ble_eq_true rfl), (Nat.le_of_ble_eq_true rfl)⟩ (Nat.le_of_ble_eq_true rfl) (ct_addLR hR he hk hh) (Nat.le_of_ble_eq_true rfl) (Nat.le_of_ble_eq_true rfl) ?_
            rintro _ M1 ⟨rfl, hR1, hc⟩
            have hC1 := hC.tr hc
            refine g_aload 82 dLink_write_82 rfl ?_
            refine g_iload 84 dLink_write_84 rfl ?_
            refine g_putz 86 8 6 dLink_write_86 ps_Link_75 rfl hz (hR1.1.tStr he hk) ?_
            refine g_yI hR1 hC1 (sc_S he hk (by omega) (by omega)) (fun M2 hR2 hC2 => ?_)
            refine g_aload 89 dLink_write_89 rfl ?_
            refine g_getr 91 8 8 dLink_write_91 fs_Link_78 rfl (hR2.1.tStr he hk) (hR2.1.rStr8 he hk) ?_
            
            refine g_geti 94 9 1 dLink_write_94 fs_Link_82 rfl (hR2.1.tWt he hk) ?_
            refine g_top _ (hR2.wc he hk) ?_
            exact g_iret 97 dLink_write_97 rfl ⟨by rw [show zW (yI (yW A e k (zW A e k ++ lowB b n)) (29 + 80 * e + 5 * k) 6 z) e k = zW A e k ++ lowB b n from up2_same, List.length_append, lowB_len], hR2, hC2⟩
          · exact absurd hh h66
      · exact absurd h6 h37

theorem wi18 {n : Nat} (h1 : 1 ≤ n) (h : n ≤ 8) : wi (nI n) 1 8 = 1 := by
  unfold wi
  rw [if_neg (fun q => by have := (nI_ltI (a := n) (b := 1) (by omega) (by decide)).mp q; omega), if_neg (fun q => by have := (nI_ltI (a := 8) (b := n) (by decide) (by omega)).mp q; omega)]
set_option maxRecDepth 100000 in
set_option maxHeartbeats 4000000 in
theorem ct_pumpR {X : mX} {l : Launch} {M : mM} {A : zA} {e : Nat} (hR : RC M A) (he : e < 2) {N q : Nat} (h1 : 1 ≤ N) (hN : N ≤ 8) (hw : pmW A e q) (hz0 : zI A (9 + 80 * e) 3 = 0) : Ct X l uLink_pump (rn 5 132 16 120) [.ref 3, .int (nI e), .int (nI N)] M (fun r M' => r = some (.int (nI (pmp e N q A).1)) ∧ RC M' (pmp e N q A).2 ∧ Chg M M' cP cP) := by
  refine Ct.of (by decide) (Nat.le_of_ble_eq_true rfl) ?_
  show G X l uLink_pump (rn 5 132 16 120) 16 120 M 0 [some (.ref 3), some (.int (nI e)), some (.int (nI N)), none] [] _
  have hC : Chg M M cP cP := Chg.rf
  have hu : Kdown M e = 0 := (hR.sI (sc_E he (by omega))).trans hz0
  refine g_aload_n 0 dLink_pump_0 rfl ?_
  refine g_iload_n 1 dLink_pump_1 rfl ?_
  refine g_callV 2 [_] dLink_pump_2 cs_Link_21 rfl (ci := 0) rfl (by decide) hR.1.link rfl ⟨(Nat.le_of_ble_eq_true rfl), (Nat.le_of_ble_eq_true rfl)⟩ (Nat.le_of_ble_eq_true rfl) (ct_upEndOf hR.1 he hu) (Nat.le_of_ble_eq_true rfl) (Nat.le_of_ble_eq_true rfl) ?_
  rintro _ M2 ⟨rfl, hM2⟩
  rw [hM2]
  clear hM2 M2
  refine g_astore_n 5 dLink_pump_5 (by decide) rfl ?_
  refine g_aload_n 6 dLink_pump_6 rfl ?_
  refine g_ifnull 7 dLink_pump_7 ?_
  refine g_iload_n 10 dLink_pump_10 rfl ?_
  refine g_iconst 11 1 dLink_pump_11 rfl ?_
  refine g_bipush 12 8 dLink_pump_12 rfl ?_
  refine g_callS 14 [_, _, _] dLink_pump_14 cs_Link_25 rfl rfl ⟨(Nat.le_of_ble_eq_true rfl), (Nat.le_of_ble_eq_true rfl)⟩ (Nat.le_of_ble_eq_true rfl) (ct_isWithin) (Nat.le_of_ble_eq_true rfl) (Nat.le_of_ble_eq_true rfl) ?_
  rintro _ M2 ⟨rfl, hM2⟩
  rw [hM2]
  clear hM2 M2
  refine g_if_ne 17 22 dLink_pump_17 rfl (fun h17 => ?_) (fun h17 => ?_)
  · refine g_aload_n 22 dLink_pump_22 rfl ?_
    refine g_iload_n 23 dLink_pump_23 rfl ?_
    refine g_callV 24 [_] dLink_pump_24 cs_Link_89 rfl (ci := 2) rfl (by decide) (hR.1.tEnd he) rfl ⟨(Nat.le_of_ble_eq_true rfl), (Nat.le_of_ble_eq_true rfl)⟩ (Nat.le_of_ble_eq_true rfl) (ct_pmpR hR he hN hw) (Nat.le_of_ble_eq_true rfl) (Nat.le_of_ble_eq_true rfl) ?_
    rintro _ M1 ⟨rfl, hR1, hc⟩
    have hC1 := hC.tr hc
    exact g_iret 27 dLink_pump_27 rfl ⟨rfl, hR1, hC1⟩
  · exact absurd (h17.symm.trans (wi18 h1 hN)) (by decide)

set_option maxRecDepth 100000 in
set_option maxHeartbeats 4000000 in
theorem ct_read_bad {X : mX} {l : Launch} {M : mM} {A : zA} {e k : Nat} (hR : RC M A) (he : e < 2) (hk : k < 12) {n : Int32} (hh : wi n 1 7 = 0) (hz0 : zI A (9 + 80 * e) 3 = 0) : Ct X l uLink_read (rk 5 111) [.ref 3, .int (nI e), .int (nI (2 * k + 1)), .int n] M (fun r M' => r = some (.long (-1)) ∧ M' = M) := by
  refine Ct.of (by decide) (Nat.le_of_ble_eq_true rfl) ?_
  show G X l uLink_read (rk 5 111) 0 0 M 0 [some (.ref 3), some (.int (nI e)), some (.int (nI (2 * k + 1))), some (.int n), none, none] [] _
  have hC : Chg M M cP cP := Chg.rf
  have hu : Kdown M e = 0 := (hR.sI (sc_E he (by omega))).trans hz0
  refine g_aload_n 0 dLink_read_0 rfl ?_
  refine g_iload_n 1 dLink_read_1 rfl ?_
  refine g_callV 2 [_] dLink_read_2 cs_Link_21 rfl (ci := 0) rfl (by decide) hR.1.link rfl ⟨(Nat.le_of_ble_eq_true rfl), (Nat.le_of_ble_eq_true rfl)⟩ (Nat.le_of_ble_eq_true rfl) (ct_upEndOf hR.1 he hu) (Nat.le_of_ble_eq_true rfl) (Nat.le_of_ble_eq_true rfl) ?_
  rintro _ M2 ⟨rfl, hM2⟩
  rw [hM2]
  clear hM2 M2
  refine g_astore 5 dLink_read_5 (by decide) rfl ?_
  refine g_aload 7 dLink_read_7 rfl ?_
  refine g_iload_n 9 dLink_read_9 rfl ?_
  refine g_callS 10 [_, _] dLink_read_10 cs_Link_58 rfl rfl ⟨(Nat.le_of_ble_eq_true rfl), (Nat.le_of_ble_eq_true rfl)⟩ (Nat.le_of_ble_eq_true rfl) (ct_streamOf hR.1 he hk) (Nat.le_of_ble_eq_true rfl) (Nat.le_of_ble_eq_true rfl) ?_
  rintro _ M2 ⟨rfl, hM2⟩
  rw [hM2]
  clear hM2 M2
  refine g_astore 13 dLink_read_13 (by decide) rfl ?_
  refine g_aload 15 dLink_read_15 rfl ?_
  refine g_ifnull 17 dLink_read_17 ?_
  refine g_aload 20 dLink_read_20 rfl ?_
  refine g_ifnull 22 dLink_read_22 ?_
  refine g_aload 25 dLink_read_25 rfl ?_
  refine g_geti 27 8 1 dLink_read_27 fs_Link_93 rfl (hR.1.tStr he hk) ?_
  refine g_top _ (hR.sI (sc_S he hk (by omega) (by omega))) ?_
  refine g_if_eq 30 43 dLink_read_30 rfl (fun h30 => ?_) (fun h30 => ?_)
  · refine g_ldc2 43 (-1) dLink_read_43 lc_Link_96 ?_
    exact g_lret 46 dLink_read_46 rfl (by (try rw [if_pos h30]); exact ⟨rfl, rfl⟩)
  · refine g_iload_n 33 dLink_read_33 rfl ?_
    refine g_iconst 34 1 dLink_read_34 rfl ?_
    refine g_bipush 35 7 dLink_read_35 rfl ?_
    refine g_callS 37 [_, _, _] dLink_read_37 cs_Link_25 rfl rfl ⟨(Nat.le_of_ble_eq_true rfl), (Nat.le_of_ble_eq_true rfl)⟩ (Nat.le_of_ble_eq_true rfl) (ct_isWithin) (Nat.le_of_ble_eq_true rfl) (Nat.le_of_ble_eq_true rfl) ?_
    rintro _ M2 ⟨rfl, hM2⟩
    rw [hM2]
    clear hM2 M2
    refine g_if_ne 40 47 dLink_read_40 rfl (fun h40 => ?_) (fun h40 => ?_)
    · exact absurd hh h40
    · refine g_ldc2 43 (-1) dLink_read_43 lc_Link_96 ?_
      exact g_lret 46 dLink_read_46 rfl (by (try rw [if_neg h30]); exact ⟨rfl, rfl⟩)

set_option maxRecDepth 100000 in
set_option maxHeartbeats 4000000 in
theorem ct_read_full {X : mX} {l : Launch} {M : mM} {A : zA} {e k : Nat} (hR : RC M A) (he : e < 2) (hk : k < 12) {n : Int32} (hs : ¬ zI A (29 + 80 * e + 5 * k) 1 = 0) (hh : ¬ wi n 1 7 = 0) (hz0 : zI A (9 + 80 * e) 3 = 0) (hfl : 30 ≤ (zP A (1 - e)).length) : Ct X l uLink_read (rk 5 111) [.ref 3, .int (nI e), .int (nI (2 * k + 1)), .int n] M (fun r M' => r = some (.long (-2)) ∧ M' = M) := by
  refine Ct.of (by decide) (Nat.le_of_ble_eq_true rfl) ?_
  show G X l uLink_read (rk 5 111) 0 0 M 0 [some (.ref 3), some (.int (nI e)), some (.int (nI (2 * k + 1))), some (.int n), none, none] [] _
  have hC : Chg M M cP cP := Chg.rf
  have hu : Kdown M e = 0 := (hR.sI (sc_E he (by omega))).trans hz0
  refine g_aload_n 0 dLink_read_0 rfl ?_
  refine g_iload_n 1 dLink_read_1 rfl ?_
  refine g_callV 2 [_] dLink_read_2 cs_Link_21 rfl (ci := 0) rfl (by decide) hR.1.link rfl ⟨(Nat.le_of_ble_eq_true rfl), (Nat.le_of_ble_eq_true rfl)⟩ (Nat.le_of_ble_eq_true rfl) (ct_upEndOf hR.1 he hu) (Nat.le_of_ble_eq_true rfl) (Nat.le_of_ble_eq_true rfl) ?_
  rintro _ M2 ⟨rfl, hM2⟩
  rw [hM2]
  clear hM2 M2
  refine g_astore 5 dLink_read_5 (by decide) rfl ?_
  refine g_aload 7 dLink_read_7 rfl ?_
  refine g_iload_n 9 dLink_read_9 rfl ?_
  refine g_callS 10 [_, _] dLink_read_10 cs_Link_58 rfl rfl ⟨(Nat.le_of_ble_eq_true rfl), (Nat.le_of_ble_eq_true rfl)⟩ (Nat.le_of_ble_eq_true rfl) (ct_streamOf hR.1 he hk) (Nat.le_of_ble_eq_true rfl) (Nat.le_of_ble_eq_true rfl) ?_
  rintro _ M2 ⟨rfl, hM2⟩
  rw [hM2]
  clear hM2 M2
  refine g_astore 13 dLink_read_13 (by decide) rfl ?_
  refine g_aload 15 dLink_read_15 rfl ?_
  refine g_ifnull 17 dLink_read_17 ?_
  refine g_aload 20 dLink_read_20 rfl ?_
  refine g_ifnull 22 dLink_read_22 ?_
  refine g_aload 25 dLink_read_25 rfl ?_
  refine g_geti 27 8 1 dLink_read_27 fs_Link_93 rfl (hR.1.tStr he hk) ?_
  refine g_top _ (hR.sI (sc_S he hk (by omega) (by omega))) ?_
  refine g_if_eq 30 43 dLink_read_30 rfl (fun h30 => ?_) (fun h30 => ?_)
  · exact absurd h30 hs
  · refine g_iload_n 33 dLink_read_33 rfl ?_
    refine g_iconst 34 1 dLink_read_34 rfl ?_
    refine g_bipush 35 7 dLink_read_35 rfl ?_
    refine g_callS 37 [_, _, _] dLink_read_37 cs_Link_25 rfl rfl ⟨(Nat.le_of_ble_eq_true rfl), (Nat.le_of_ble_eq_true rfl)⟩ (Nat.le_of_ble_eq_true rfl) (ct_isWithin) (Nat.le_of_ble_eq_true rfl) (Nat.le_of_ble_eq_true rfl) ?_
    rintro _ M2 ⟨rfl, hM2⟩
    rw [hM2]
    clear hM2 M2
    refine g_if_ne 40 47 dLink_read_40 rfl (fun h40 => ?_) (fun h40 => ?_)
    · refine g_aload 47 dLink_read_47 rfl ?_
      refine g_getr 49 2 2 dLink_read_49 fs_Link_47 rfl (hR.1.tEnd he) (hR.1.rEnd2 he) ?_
      refine g_callV 52 [] dLink_read_52 cs_Link_51 rfl (ci := 1) rfl (by decide) (hR.1.tPipeO he) rfl ⟨(Nat.le_of_ble_eq_true rfl), (Nat.le_of_ble_eq_true rfl)⟩ (Nat.le_of_ble_eq_true rfl) (ct_fullR hR he) (Nat.le_of_ble_eq_true rfl) (Nat.le_of_ble_eq_true rfl) ?_
      rintro _ M2 ⟨rfl, hM2⟩
      rw [hM2]
      clear hM2 M2
      refine g_if_eq 55 62 dLink_read_55 rfl (fun h55 => ?_) (fun h55 => ?_)
      · exact absurd (h55.symm.trans (if_pos hfl)) (by decide)
      · refine g_ldc2 58 (-2) dLink_read_58 lc_Link_98 ?_
        exact g_lret 61 dLink_read_61 rfl ⟨rfl, rfl⟩
    · exact absurd h40 hh

set_option maxRecDepth 100000 in
set_option maxHeartbeats 4000000 in
theorem ct_readR {X : mX} {l : Launch} {M : mM} {A : zA} {e k : Nat} (hR : RC M A) (he : e < 2) (hk : k < 12) {n : Int32} (hs : ¬ zI A (29 + 80 * e + 5 * k) 1 = 0) (hh : ¬ wi n 1 7 = 0) (h8 : n ≤ 8) (hz0 : zI A (9 + 80 * e) 3 = 0) (hnf : (zP A (1 - e)).length < 30) : Ct X l uLink_read (rn 5 111 3 22) [.ref 3, .int (nI e), .int (nI (2 * k + 1)), .int n] M (fun r M' => r = some (.long (pkB (rdP A e k n))) ∧ RC M' (rdA A e k n) ∧ Chg M M' cP cP) := by
  refine Ct.of (by decide) (Nat.le_of_ble_eq_true rfl) ?_
  show G X l uLink_read (rn 5 111 3 22) 3 22 M 0 [some (.ref 3), some (.int (nI e)), some (.int (nI (2 * k + 1))), some (.int n), none, none] [] _
  have hC : Chg M M cP cP := Chg.rf
  have hu : Kdown M e = 0 := (hR.sI (sc_E he (by omega))).trans hz0
  refine g_aload_n 0 dLink_read_0 rfl ?_
  refine g_iload_n 1 dLink_read_1 rfl ?_
  refine g_callV 2 [_] dLink_read_2 cs_Link_21 rfl (ci := 0) rfl (by decide) hR.1.link rfl ⟨(Nat.le_of_ble_eq_true rfl), (Nat.le_of_ble_eq_true rfl)⟩ (Nat.le_of_ble_eq_true rfl) (ct_upEndOf hR.1 he hu) (Nat.le_of_ble_eq_true rfl) (Nat.le_of_ble_eq_true rfl) ?_
  rintro _ M2 ⟨rfl, hM2⟩
  rw [hM2]
  clear hM2 M2
  refine g_astore 5 dLink_read_5 (by decide) rfl ?_
  refine g_aload 7 dLink_read_7 rfl ?_
  refine g_iload_n 9 dLink_read_9 rfl ?_
  refine g_callS 10 [_, _] dLink_read_10 cs_Link_58 rfl rfl ⟨(Nat.le_of_ble_eq_true rfl), (Nat.le_of_ble_eq_true rfl)⟩ (Nat.le_of_ble_eq_true rfl) (ct_streamOf hR.1 he hk) (Nat.le_of_ble_eq_true rfl) (Nat.le_of_ble_eq_true rfl) ?_
  rintro _ M2 ⟨rfl, hM2⟩
  rw [hM2]
  clear hM2 M2
  refine g_astore 13 dLink_read_13 (by decide) rfl ?_
  refine g_aload 15 dLink_read_15 rfl ?_
  refine g_ifnull 17 dLink_read_17 ?_
  refine g_aload 20 dLink_read_20 rfl ?_
  refine g_ifnull 22 dLink_read_22 ?_
  refine g_aload 25 dLink_read_25 rfl ?_
  refine g_geti 27 8 1 dLink_read_27 fs_Link_93 rfl (hR.1.tStr he hk) ?_
  refine g_top _ (hR.sI (sc_S he hk (by omega) (by omega))) ?_
  refine g_if_eq 30 43 dLink_read_30 rfl (fun h30 => ?_) (fun h30 => ?_)
  · exact absurd h30 hs
  · refine g_iload_n 33 dLink_read_33 rfl ?_
    refine g_iconst 34 1 dLink_read_34 rfl ?_
    refine g_bipush 35 7 dLink_read_35 rfl ?_
    refine g_callS 37 [_, _, _] dLink_read_37 cs_Link_25 rfl rfl ⟨(Nat.le_of_ble_eq_true rfl), (Nat.le_of_ble_eq_true rfl)⟩ (Nat.le_of_ble_eq_true rfl) (ct_isWithin) (Nat.le_of_ble_eq_true rfl) (Nat.le_of_ble_eq_true rfl) ?_
    rintro _ M2 ⟨rfl, hM2⟩
    rw [hM2]
    clear hM2 M2
    refine g_if_ne 40 47 dLink_read_40 rfl (fun h40 => ?_) (fun h40 => ?_)
    · refine g_aload 47 dLink_read_47 rfl ?_
      refine g_getr 49 2 2 dLink_read_49 fs_Link_47 rfl (hR.1.tEnd he) (hR.1.rEnd2 he) ?_
      refine g_callV 52 [] dLink_read_52 cs_Link_51 rfl (ci := 1) rfl (by decide) (hR.1.tPipeO he) rfl ⟨(Nat.le_of_ble_eq_true rfl), (Nat.le_of_ble_eq_true rfl)⟩ (Nat.le_of_ble_eq_true rfl) (ct_fullR hR he) (Nat.le_of_ble_eq_true rfl) (Nat.le_of_ble_eq_true rfl) ?_
      rintro _ M2 ⟨rfl, hM2⟩
      rw [hM2]
      clear hM2 M2
      refine g_if_eq 55 62 dLink_read_55 rfl (fun h55 => ?_) (fun h55 => ?_)
      · refine g_aload 62 dLink_read_62 rfl ?_
        refine g_aload 64 dLink_read_64 rfl ?_
        refine g_iload_n 66 dLink_read_66 rfl ?_
        refine g_callV 67 [_, _] dLink_read_67 cs_Link_100 rfl (ci := 2) rfl (by decide) (hR.1.tEnd he) rfl ⟨(Nat.le_of_ble_eq_true rfl), (Nat.le_of_ble_eq_true rfl)⟩ (Nat.le_of_ble_eq_true rfl) (ct_rdR hR he hk h8 (by omega)) (Nat.le_of_ble_eq_true rfl) (Nat.le_of_ble_eq_true rfl) ?_
        rintro _ M1 ⟨rfl, hR1, hc⟩
        have hC1 := hC.tr hc
        exact g_lret 70 dLink_read_70 rfl ⟨rfl, hR1, hC1⟩
      · exact absurd (if_neg (by omega)) h55
    · exact absurd h40 hh

set_option maxRecDepth 100000 in
set_option maxHeartbeats 4000000 in
theorem ct_reset_bad {X : mX} {l : Launch} {M : mM} {A : zA} {e k : Nat} (hR : RC M A) (he : e < 2) (hk : k < 12) {n : Int32} (hh : wi n 0 15 = 0) (hz0 : zI A (9 + 80 * e) 3 = 0) : Ct X l uLink_reset (rk 5 104) [.ref 3, .int (nI e), .int (nI (2 * k + 1)), .int n] M (fun r M' => r = some (.int 0) ∧ M' = M) := by
  refine Ct.of (by decide) (Nat.le_of_ble_eq_true rfl) ?_
  show G X l uLink_reset (rk 5 104) 0 0 M 0 [some (.ref 3), some (.int (nI e)), some (.int (nI (2 * k + 1))), some (.int n), none, none] [] _
  have hC : Chg M M cP cP := Chg.rf
  have hu : Kdown M e = 0 := (hR.sI (sc_E he (by omega))).trans hz0
  refine g_aload_n 0 dLink_reset_0 rfl ?_
  refine g_iload_n 1 dLink_reset_1 rfl ?_
  refine g_callV 2 [_] dLink_reset_2 cs_Link_21 rfl (ci := 0) rfl (by decide) hR.1.link rfl ⟨(Nat.le_of_ble_eq_true rfl), (Nat.le_of_ble_eq_true rfl)⟩ (Nat.le_of_ble_eq_true rfl) (ct_upEndOf hR.1 he hu) (Nat.le_of_ble_eq_true rfl) (Nat.le_of_ble_eq_true rfl) ?_
  rintro _ M2 ⟨rfl, hM2⟩
  rw [hM2]
  clear hM2 M2
  refine g_astore 5 dLink_reset_5 (by decide) rfl ?_
  refine g_aload 7 dLink_reset_7 rfl ?_
  refine g_iload_n 9 dLink_reset_9 rfl ?_
  refine g_callS 10 [_, _] dLink_reset_10 cs_Link_58 rfl rfl ⟨(Nat.le_of_ble_eq_true rfl), (Nat.le_of_ble_eq_true rfl)⟩ (Nat.le_of_ble_eq_true rfl) (ct_streamOf hR.1 he hk) (Nat.le_of_ble_eq_true rfl) (Nat.le_of_ble_eq_true rfl) ?_
  rintro _ M2 ⟨rfl, hM2⟩
  rw [hM2]
  clear hM2 M2
  refine g_astore 13 dLink_reset_13 (by decide) rfl ?_
  refine g_aload 15 dLink_reset_15 rfl ?_
  refine g_ifnull 17 dLink_reset_17 ?_
  refine g_aload 20 dLink_reset_20 rfl ?_
  refine g_ifnull 22 dLink_reset_22 ?_
  refine g_aload 25 dLink_reset_25 rfl ?_
  refine g_callV 27 [] dLink_reset_27 cs_Link_104 rfl (ci := 8) rfl (by decide) (hR.1.tStr he hk) rfl ⟨(Nat.le_of_ble_eq_true rfl), (Nat.le_of_ble_eq_true rfl)⟩ (Nat.le_of_ble_eq_true rfl) (ct_acR hR he hk) (Nat.le_of_ble_eq_true rfl) (Nat.le_of_ble_eq_true rfl) ?_
  rintro _ M2 ⟨rfl, hM2⟩
  rw [hM2]
  clear hM2 M2
  refine g_if_eq 30 43 dLink_reset_30 rfl (fun h30 => ?_) (fun h30 => ?_)
  · refine g_iconst 43 0 dLink_reset_43 rfl ?_
    exact g_zret 44 dLink_reset_44 rfl (by decide) (by (try rw [if_pos h30]); exact ⟨rfl, rfl⟩)
  · refine g_iload_n 33 dLink_reset_33 rfl ?_
    refine g_iconst 34 0 dLink_reset_34 rfl ?_
    refine g_bipush 35 15 dLink_reset_35 rfl ?_
    refine g_callS 37 [_, _, _] dLink_reset_37 cs_Link_25 rfl rfl ⟨(Nat.le_of_ble_eq_true rfl), (Nat.le_of_ble_eq_true rfl)⟩ (Nat.le_of_ble_eq_true rfl) (ct_isWithin) (Nat.le_of_ble_eq_true rfl) (Nat.le_of_ble_eq_true rfl) ?_
    rintro _ M2 ⟨rfl, hM2⟩
    rw [hM2]
    clear hM2 M2
    refine g_if_ne 40 45 dLink_reset_40 rfl (fun h40 => ?_) (fun h40 => ?_)
    · exact absurd hh h40
    · refine g_iconst 43 0 dLink_reset_43 rfl ?_
      exact g_zret 44 dLink_reset_44 rfl (by decide) (by (try rw [if_neg h30]); exact ⟨rfl, rfl⟩)

set_option maxRecDepth 100000 in
set_option maxHeartbeats 4000000 in
theorem ct_reset_full {X : mX} {l : Launch} {M : mM} {A : zA} {e k : Nat} (hR : RC M A) (he : e < 2) (hk : k < 12) {n : Int32} (hz0 : zI A (9 + 80 * e) 3 = 0) (hfl : 30 ≤ (zP A (1 - e)).length) : Ct X l uLink_reset (rk 5 104) [.ref 3, .int (nI e), .int (nI (2 * k + 1)), .int n] M (fun r M' => r = some (.int 0) ∧ M' = M) := by
  refine Ct.of (by decide) (Nat.le_of_ble_eq_true rfl) ?_
  show G X l uLink_reset (rk 5 104) 0 0 M 0 [some (.ref 3), some (.int (nI e)), some (.int (nI (2 * k + 1))), some (.int n), none, none] [] _
  have hC : Chg M M cP cP := Chg.rf
  have hu : Kdown M e = 0 := (hR.sI (sc_E he (by omega))).trans hz0
  refine g_aload_n 0 dLink_reset_0 rfl ?_
  refine g_iload_n 1 dLink_reset_1 rfl ?_
  refine g_callV 2 [_] dLink_reset_2 cs_Link_21 rfl (ci := 0) rfl (by decide) hR.1.link rfl ⟨(Nat.le_of_ble_eq_true rfl), (Nat.le_of_ble_eq_true rfl)⟩ (Nat.le_of_ble_eq_true rfl) (ct_upEndOf hR.1 he hu) (Nat.le_of_ble_eq_true rfl) (Nat.le_of_ble_eq_true rfl) ?_
  rintro _ M2 ⟨rfl, hM2⟩
  rw [hM2]
  clear hM2 M2
  refine g_astore 5 dLink_reset_5 (by decide) rfl ?_
  refine g_aload 7 dLink_reset_7 rfl ?_
  refine g_iload_n 9 dLink_reset_9 rfl ?_
  refine g_callS 10 [_, _] dLink_reset_10 cs_Link_58 rfl rfl ⟨(Nat.le_of_ble_eq_true rfl), (Nat.le_of_ble_eq_true rfl)⟩ (Nat.le_of_ble_eq_true rfl) (ct_streamOf hR.1 he hk) (Nat.le_of_ble_eq_true rfl) (Nat.le_of_ble_eq_true rfl) ?_
  rintro _ M2 ⟨rfl, hM2⟩
  rw [hM2]
  clear hM2 M2
  refine g_astore 13 dLink_reset_13 (by decide) rfl ?_
  refine g_aload 15 dLink_reset_15 rfl ?_
  refine g_ifnull 17 dLink_reset_17 ?_
  refine g_aload 20 dLink_reset_20 rfl ?_
  refine g_ifnull 22 dLink_reset_22 ?_
  refine g_aload 25 dLink_reset_25 rfl ?_
  refine g_callV 27 [] dLink_reset_27 cs_Link_104 rfl (ci := 8) rfl (by decide) (hR.1.tStr he hk) rfl ⟨(Nat.le_of_ble_eq_true rfl), (Nat.le_of_ble_eq_true rfl)⟩ (Nat.le_of_ble_eq_true rfl) (ct_acR hR he hk) (Nat.le_of_ble_eq_true rfl) (Nat.le_of_ble_eq_true rfl) ?_
  rintro _ M2 ⟨rfl, hM2⟩
  rw [hM2]
  clear hM2 M2
  refine g_if_eq 30 43 dLink_reset_30 rfl (fun h30 => ?_) (fun h30 => ?_)
  · refine g_iconst 43 0 dLink_reset_43 rfl ?_
    exact g_zret 44 dLink_reset_44 rfl (by decide) (by (try rw [if_pos h30]); exact ⟨rfl, rfl⟩)
  · refine g_iload_n 33 dLink_reset_33 rfl ?_
    refine g_iconst 34 0 dLink_reset_34 rfl ?_
    refine g_bipush 35 15 dLink_reset_35 rfl ?_
    refine g_callS 37 [_, _, _] dLink_reset_37 cs_Link_25 rfl rfl ⟨(Nat.le_of_ble_eq_true rfl), (Nat.le_of_ble_eq_true rfl)⟩ (Nat.le_of_ble_eq_true rfl) (ct_isWithin) (Nat.le_of_ble_eq_true rfl) (Nat.le_of_ble_eq_true rfl) ?_
    rintro _ M2 ⟨rfl, hM2⟩
    rw [hM2]
    clear hM2 M2
    refine g_if_ne 40 45 dLink_reset_40 rfl (fun h40 => ?_) (fun h40 => ?_)
    · refine g_aload 45 dLink_reset_45 rfl ?_
      refine g_getr 47 2 2 dLink_reset_47 fs_Link_47 rfl (hR.1.tEnd he) (hR.1.rEnd2 he) ?_
      refine g_callV 50 [] dLink_reset_50 cs_Link_51 rfl (ci := 1) rfl (by decide) (hR.1.tPipeO he) rfl ⟨(Nat.le_of_ble_eq_true rfl), (Nat.le_of_ble_eq_true rfl)⟩ (Nat.le_of_ble_eq_true rfl) (ct_fullR hR he) (Nat.le_of_ble_eq_true rfl) (Nat.le_of_ble_eq_true rfl) ?_
      rintro _ M2 ⟨rfl, hM2⟩
      rw [hM2]
      clear hM2 M2
      refine g_if_eq 53 58 dLink_reset_53 rfl (fun h53 => ?_) (fun h53 => ?_)
      · exact absurd (h53.symm.trans (if_pos hfl)) (by decide)
      · refine g_iconst 56 0 dLink_reset_56 rfl ?_
        exact g_zret 57 dLink_reset_57 rfl (by decide) (by (try rw [if_neg h30]); (try rw [if_neg h40]); exact ⟨rfl, rfl⟩)
    · refine g_iconst 43 0 dLink_reset_43 rfl ?_
      exact g_zret 44 dLink_reset_44 rfl (by decide) (by (try rw [if_neg h30]); (try rw [if_pos h40]); exact ⟨rfl, rfl⟩)

set_option maxRecDepth 100000 in
set_option maxHeartbeats 4000000 in
theorem ct_resetR {X : mX} {l : Launch} {M : mM} {A : zA} {e k : Nat} (hR : RC M A) (he : e < 2) (hk : k < 12) {n : Int32} (ha : ¬ acZ A e k = 0) (hh : ¬ wi n 0 15 = 0) (hz0 : zI A (9 + 80 * e) 3 = 0) (hnf : (zP A (1 - e)).length < 30) : Ct X l uLink_reset (rn 5 104 2 14) [.ref 3, .int (nI e), .int (nI (2 * k + 1)), .int n] M (fun r M' => r = some (.int 1) ∧ RC M' (rstA A e k n 0) ∧ Chg M M' cP cP) := by
  refine Ct.of (by decide) (Nat.le_of_ble_eq_true rfl) ?_
  show G X l uLink_reset (rn 5 104 2 14) 2 14 M 0 [some (.ref 3), some (.int (nI e)), some (.int (nI (2 * k + 1))), some (.int n), none, none] [] _
  have hC : Chg M M cP cP := Chg.rf
  have hu : Kdown M e = 0 := (hR.sI (sc_E he (by omega))).trans hz0
  refine g_aload_n 0 dLink_reset_0 rfl ?_
  refine g_iload_n 1 dLink_reset_1 rfl ?_
  refine g_callV 2 [_] dLink_reset_2 cs_Link_21 rfl (ci := 0) rfl (by decide) hR.1.link rfl ⟨(Nat.le_of_ble_eq_true rfl), (Nat.le_of_ble_eq_true rfl)⟩ (Nat.le_of_ble_eq_true rfl) (ct_upEndOf hR.1 he hu) (Nat.le_of_ble_eq_true rfl) (Nat.le_of_ble_eq_true rfl) ?_
  rintro _ M2 ⟨rfl, hM2⟩
  rw [hM2]
  clear hM2 M2
  refine g_astore 5 dLink_reset_5 (by decide) rfl ?_
  refine g_aload 7 dLink_reset_7 rfl ?_
  refine g_iload_n 9 dLink_reset_9 rfl ?_
  refine g_callS 10 [_, _] dLink_reset_10 cs_Link_58 rfl rfl ⟨(Nat.le_of_ble_eq_true rfl), (Nat.le_of_ble_eq_true rfl)⟩ (Nat.le_of_ble_eq_true rfl) (ct_streamOf hR.1 he hk) (Nat.le_of_ble_eq_true rfl) (Nat.le_of_ble_eq_true rfl) ?_
  rintro _ M2 ⟨rfl, hM2⟩
  rw [hM2]
  clear hM2 M2
  refine g_astore 13 dLink_reset_13 (by decide) rfl ?_
  refine g_aload 15 dLink_reset_15 rfl ?_
  refine g_ifnull 17 dLink_reset_17 ?_
  refine g_aload 20 dLink_reset_20 rfl ?_
  refine g_ifnull 22 dLink_reset_22 ?_
  refine g_aload 25 dLink_reset_25 rfl ?_
  refine g_callV 27 [] dLink_reset_27 cs_Link_104 rfl (ci := 8) rfl (by decide) (hR.1.tStr he hk) rfl ⟨(Nat.le_of_ble_eq_true rfl), (Nat.le_of_ble_eq_true rfl)⟩ (Nat.le_of_ble_eq_true rfl) (ct_acR hR he hk) (Nat.le_of_ble_eq_true rfl) (Nat.le_of_ble_eq_true rfl) ?_
  rintro _ M2 ⟨rfl, hM2⟩
  rw [hM2]
  clear hM2 M2
  refine g_if_eq 30 43 dLink_reset_30 rfl (fun h30 => ?_) (fun h30 => ?_)
  · exact absurd h30 ha
  · refine g_iload_n 33 dLink_reset_33 rfl ?_
    refine g_iconst 34 0 dLink_reset_34 rfl ?_
    refine g_bipush 35 15 dLink_reset_35 rfl ?_
    refine g_callS 37 [_, _, _] dLink_reset_37 cs_Link_25 rfl rfl ⟨(Nat.le_of_ble_eq_true rfl), (Nat.le_of_ble_eq_true rfl)⟩ (Nat.le_of_ble_eq_true rfl) (ct_isWithin) (Nat.le_of_ble_eq_true rfl) (Nat.le_of_ble_eq_true rfl) ?_
    rintro _ M2 ⟨rfl, hM2⟩
    rw [hM2]
    clear hM2 M2
    refine g_if_ne 40 45 dLink_reset_40 rfl (fun h40 => ?_) (fun h40 => ?_)
    · refine g_aload 45 dLink_reset_45 rfl ?_
      refine g_getr 47 2 2 dLink_reset_47 fs_Link_47 rfl (hR.1.tEnd he) (hR.1.rEnd2 he) ?_
      refine g_callV 50 [] dLink_reset_50 cs_Link_51 rfl (ci := 1) rfl (by decide) (hR.1.tPipeO he) rfl ⟨(Nat.le_of_ble_eq_true rfl), (Nat.le_of_ble_eq_true rfl)⟩ (Nat.le_of_ble_eq_true rfl) (ct_fullR hR he) (Nat.le_of_ble_eq_true rfl) (Nat.le_of_ble_eq_true rfl) ?_
      rintro _ M2 ⟨rfl, hM2⟩
      rw [hM2]
      clear hM2 M2
      refine g_if_eq 53 58 dLink_reset_53 rfl (fun h53 => ?_) (fun h53 => ?_)
      · refine g_aload 58 dLink_reset_58 rfl ?_
        refine g_aload 60 dLink_reset_60 rfl ?_
        refine g_iload_n 62 dLink_reset_62 rfl ?_
        refine g_iconst 63 0 dLink_reset_63 rfl ?_
        refine g_callV 64 [_, _, _] dLink_reset_64 cs_Link_107 rfl (ci := 2) rfl (by decide) (hR.1.tEnd he) rfl ⟨(Nat.le_of_ble_eq_true rfl), (Nat.le_of_ble_eq_true rfl)⟩ (Nat.le_of_ble_eq_true rfl) (ct_rstR hR he hk (by omega)) (Nat.le_of_ble_eq_true rfl) (Nat.le_of_ble_eq_true rfl) ?_
        rintro _ M1 ⟨rfl, hR1, hc⟩
        have hC1 := hC.tr hc
        refine g_pop 67 dLink_reset_67 rfl ?_
        refine g_iconst 68 1 dLink_reset_68 rfl ?_
        exact g_zret 69 dLink_reset_69 rfl (by decide) ⟨rfl, hR1, hC1⟩
      · exact absurd (if_neg (by omega)) h53
    · exact absurd h40 hh

set_option maxRecDepth 100000 in
set_option maxHeartbeats 4000000 in
theorem ct_settingR {X : mX} {l : Launch} {M : mM} {A : zA} {e : Nat} (hR : RC M A) (he : e < 2) {s v : Int32} (hk : ¬ knC s = 0) (hr : ¬ rgC s v = 0) (h8 : (zD A e).length < 8) (hz0 : zI A (9 + 80 * e) 3 = 0) (hnf : (zP A (1 - e)).length < 30) : Ct X l uLink_setting (rn 4 82 1 7) [.ref 3, .int (nI e), .int s, .int v] M (fun r M' => r = some (.int 1) ∧ RC M' (sSt A e s v) ∧ Chg M M' cP cP) := by
  refine Ct.of (by decide) (Nat.le_of_ble_eq_true rfl) ?_
  show G X l uLink_setting (rn 4 82 1 7) 1 7 M 0 [some (.ref 3), some (.int (nI e)), some (.int s), some (.int v), none] [] _
  have hC : Chg M M cP cP := Chg.rf
  have hu : Kdown M e = 0 := (hR.sI (sc_E he (by omega))).trans hz0
  refine g_aload_n 0 dLink_setting_0 rfl ?_
  refine g_iload_n 1 dLink_setting_1 rfl ?_
  refine g_callV 2 [_] dLink_setting_2 cs_Link_21 rfl (ci := 0) rfl (by decide) hR.1.link rfl ⟨(Nat.le_of_ble_eq_true rfl), (Nat.le_of_ble_eq_true rfl)⟩ (Nat.le_of_ble_eq_true rfl) (ct_upEndOf hR.1 he hu) (Nat.le_of_ble_eq_true rfl) (Nat.le_of_ble_eq_true rfl) ?_
  rintro _ M2 ⟨rfl, hM2⟩
  rw [hM2]
  clear hM2 M2
  refine g_astore 5 dLink_setting_5 (by decide) rfl ?_
  refine g_aload 7 dLink_setting_7 rfl ?_
  refine g_ifnull 9 dLink_setting_9 ?_
  refine g_iload_n 12 dLink_setting_12 rfl ?_
  refine g_callS 13 [_] dLink_setting_13 cs_Link_111 rfl rfl ⟨(Nat.le_of_ble_eq_true rfl), (Nat.le_of_ble_eq_true rfl)⟩ (Nat.le_of_ble_eq_true rfl) (ct_Sett_isKnown) (Nat.le_of_ble_eq_true rfl) (Nat.le_of_ble_eq_true rfl) ?_
  rintro _ M2 ⟨rfl, hM2⟩
  rw [hM2]
  clear hM2 M2
  refine g_if_eq 16 27 dLink_setting_16 rfl (fun h16 => ?_) (fun h16 => ?_)
  · exact absurd h16 hk
  · refine g_iload_n 19 dLink_setting_19 rfl ?_
    refine g_iload_n 20 dLink_setting_20 rfl ?_
    refine g_callS 21 [_, _] dLink_setting_21 cs_Link_117 rfl rfl ⟨(Nat.le_of_ble_eq_true rfl), (Nat.le_of_ble_eq_true rfl)⟩ (Nat.le_of_ble_eq_true rfl) (ct_Sett_isInRange) (Nat.le_of_ble_eq_true rfl) (Nat.le_of_ble_eq_true rfl) ?_
    rintro _ M2 ⟨rfl, hM2⟩
    rw [hM2]
    clear hM2 M2
    refine g_if_ne 24 29 dLink_setting_24 rfl (fun h24 => ?_) (fun h24 => ?_)
    · refine g_aload 29 dLink_setting_29 rfl ?_
      refine g_geti 31 2 14 dLink_setting_31 fs_Link_121 rfl (hR.1.tEnd he) ?_
      refine g_top _ (hR.pdc he) ?_
      refine g_bipush 34 (nI 8) dLink_setting_34 rfl ?_
      refine g_icmp_geN 36 50 dLink_setting_36 rfl (by omega) (by omega) (fun h36 => ?_) (fun h36 => ?_)
      · exact absurd h36 (by omega)
      · refine g_aload 39 dLink_setting_39 rfl ?_
        refine g_getr 41 2 2 dLink_setting_41 fs_Link_47 rfl (hR.1.tEnd he) (hR.1.rEnd2 he) ?_
        refine g_callV 44 [] dLink_setting_44 cs_Link_51 rfl (ci := 1) rfl (by decide) (hR.1.tPipeO he) rfl ⟨(Nat.le_of_ble_eq_true rfl), (Nat.le_of_ble_eq_true rfl)⟩ (Nat.le_of_ble_eq_true rfl) (ct_fullR hR he) (Nat.le_of_ble_eq_true rfl) (Nat.le_of_ble_eq_true rfl) ?_
        rintro _ M2 ⟨rfl, hM2⟩
        rw [hM2]
        clear hM2 M2
        refine g_if_eq 47 52 dLink_setting_47 rfl (fun h47 => ?_) (fun h47 => ?_)
        · refine g_aload 52 dLink_setting_52 rfl ?_
          refine g_iload_n 54 dLink_setting_54 rfl ?_
          refine g_iload_n 55 dLink_setting_55 rfl ?_
          refine g_callV 56 [_, _] dLink_setting_56 cs_Link_124 rfl (ci := 2) rfl (by decide) (hR.1.tEnd he) rfl ⟨(Nat.le_of_ble_eq_true rfl), (Nat.le_of_ble_eq_true rfl)⟩ (Nat.le_of_ble_eq_true rfl) (ct_sStR hR he h8 (by omega)) (Nat.le_of_ble_eq_true rfl) (Nat.le_of_ble_eq_true rfl) ?_
          rintro _ M1 ⟨rfl, hR1, hc⟩
          have hC1 := hC.tr hc
          refine g_iconst 59 1 dLink_setting_59 rfl ?_
          exact g_zret 60 dLink_setting_60 rfl (by decide) ⟨rfl, hR1, hC1⟩
        · exact absurd (if_neg (by omega)) h47
    · exact absurd h24 hr

set_option maxRecDepth 100000 in
set_option maxHeartbeats 4000000 in
theorem ct_deliver_dn {X : mX} {l : Launch} {M : mM} {A : zA} {e : Nat} (hR : RC M A) (he : e < 2) {f : zF} {L : List zF} (hz : zP A e = f :: L) (hd : ¬ zI A (9 + 80 * e) 3 = 0) : Ct X l uLink_deliver (rk 7 148) [.ref 3, .int (nI e)] M (fun r M' => r = some (.int 0) ∧ RC M' (yP A e L) ∧ Chg M M' cP cP) := by
  refine Ct.of (by decide) (Nat.le_of_ble_eq_true rfl) ?_
  show G X l uLink_deliver (rk 7 148) 0 0 M 0 [some (.ref 3), some (.int (nI e)), none, none, none] [] _
  have hC : Chg M M cP cP := Chg.rf
  have hpi := hR.pi8 he
  have hpo := hR.pi8 (e := 1 - e) (by omega)
  refine g_aload_n 0 dLink_deliver_0 rfl ?_
  refine g_iload_n 1 dLink_deliver_1 rfl ?_
  refine g_callV 2 [_] dLink_deliver_2 cs_Link_128 rfl (ci := 0) rfl (by decide) hR.1.link rfl ⟨(Nat.le_of_ble_eq_true rfl), (Nat.le_of_ble_eq_true rfl)⟩ (Nat.le_of_ble_eq_true rfl) (ct_endOf hR.1 he) (Nat.le_of_ble_eq_true rfl) (Nat.le_of_ble_eq_true rfl) ?_
  rintro _ M2 ⟨rfl, hM2⟩
  rw [hM2]
  clear hM2 M2
  refine g_astore_n 5 dLink_deliver_5 (by decide) rfl ?_
  refine g_aload_n 6 dLink_deliver_6 rfl ?_
  refine g_ifnull 7 dLink_deliver_7 ?_
  refine g_aload_n 10 dLink_deliver_10 rfl ?_
  refine g_getr 11 2 1 dLink_deliver_11 fs_Link_131 rfl (hR.1.tEnd he) (hR.1.rEnd1 he) ?_
  refine g_geti 14 1 2 dLink_deliver_14 fs_Link_134 rfl (hR.1.tPipe he) ?_
  refine g_top _ (hR.pic he) ?_
  refine g_if_neN 17 22 dLink_deliver_17 rfl (by omega) (fun h17 => ?_) (fun h17 => ?_)
  · refine g_aload_n 22 dLink_deliver_22 rfl ?_
    refine g_geti 23 2 3 dLink_deliver_23 fs_Link_135 rfl (hR.1.tEnd he) ?_
    refine g_top _ (hR.sI (sc_E he (by omega))) ?_
    refine g_if_eq 26 33 dLink_deliver_26 rfl (fun h26 => ?_) (fun h26 => ?_)
    · exact absurd h26 hd
    · refine g_iconst 29 1 dLink_deliver_29 rfl ?_
      refine g_goto 30 34 dLink_deliver_30 rfl ?_
      refine g_istore_n 34 dLink_deliver_34 (by decide) rfl ?_
      refine g_iload_n 35 dLink_deliver_35 rfl ?_
      refine g_if_ne 36 54 dLink_deliver_36 rfl (fun h36 => ?_) (fun h36 => ?_)
      · refine g_aload_n 54 dLink_deliver_54 rfl ?_
        refine g_getr 55 2 1 dLink_deliver_55 fs_Link_131 rfl (hR.1.tEnd he) (hR.1.rEnd1 he) ?_
        refine g_callV 58 [] dLink_deliver_58 cs_Link_138 rfl (ci := 1) rfl (by decide) (hR.1.tPipe he) rfl ⟨(Nat.le_of_ble_eq_true rfl), (Nat.le_of_ble_eq_true rfl)⟩ (Nat.le_of_ble_eq_true rfl) (ct_popR hR he hz) (Nat.le_of_ble_eq_true rfl) (Nat.le_of_ble_eq_true rfl) ?_
        rintro _ M1 ⟨a, rfl, hF, hR1, hc⟩
        have hC1 := hC.tr hc
        refine g_astore 61 dLink_deliver_61 (by decide) rfl ?_
        refine g_iload_n 63 dLink_deliver_63 rfl ?_
        refine g_if_ne 64 72 dLink_deliver_64 rfl (fun h64 => ?_) (fun h64 => ?_)
        · refine g_iconst 72 0 dLink_deliver_72 rfl ?_
          refine g_goto 73 82 dLink_deliver_73 rfl ?_
          exact g_iret 82 dLink_deliver_82 rfl ⟨rfl, hR1, hC1⟩
        · exact absurd h64 (by decide)
      · exact absurd h36 (by decide)
  · exact absurd h17 (by rw [hz]; exact Nat.succ_ne_zero _)

set_option maxRecDepth 100000 in
set_option maxHeartbeats 4000000 in
theorem ct_deliver_full {X : mX} {l : Launch} {M : mM} {A : zA} {e : Nat} (hR : RC M A) (he : e < 2) {f : zF} {L : List zF} (hz : zP A e = f :: L) (hd : zI A (9 + 80 * e) 3 = 0) (h40 : 40 ≤ (zP A (1 - e)).length) : Ct X l uLink_deliver (rk 7 148) [.ref 3, .int (nI e)] M (fun r M' => r = some (.int (-2)) ∧ M' = M) := by
  refine Ct.of (by decide) (Nat.le_of_ble_eq_true rfl) ?_
  show G X l uLink_deliver (rk 7 148) 0 0 M 0 [some (.ref 3), some (.int (nI e)), none, none, none] [] _
  have hC : Chg M M cP cP := Chg.rf
  have hpi := hR.pi8 he
  have hpo := hR.pi8 (e := 1 - e) (by omega)
  refine g_aload_n 0 dLink_deliver_0 rfl ?_
  refine g_iload_n 1 dLink_deliver_1 rfl ?_
  refine g_callV 2 [_] dLink_deliver_2 cs_Link_128 rfl (ci := 0) rfl (by decide) hR.1.link rfl ⟨(Nat.le_of_ble_eq_true rfl), (Nat.le_of_ble_eq_true rfl)⟩ (Nat.le_of_ble_eq_true rfl) (ct_endOf hR.1 he) (Nat.le_of_ble_eq_true rfl) (Nat.le_of_ble_eq_true rfl) ?_
  rintro _ M2 ⟨rfl, hM2⟩
  rw [hM2]
  clear hM2 M2
  refine g_astore_n 5 dLink_deliver_5 (by decide) rfl ?_
  refine g_aload_n 6 dLink_deliver_6 rfl ?_
  refine g_ifnull 7 dLink_deliver_7 ?_
  refine g_aload_n 10 dLink_deliver_10 rfl ?_
  refine g_getr 11 2 1 dLink_deliver_11 fs_Link_131 rfl (hR.1.tEnd he) (hR.1.rEnd1 he) ?_
  refine g_geti 14 1 2 dLink_deliver_14 fs_Link_134 rfl (hR.1.tPipe he) ?_
  refine g_top _ (hR.pic he) ?_
  refine g_if_neN 17 22 dLink_deliver_17 rfl (by omega) (fun h17 => ?_) (fun h17 => ?_)
  · refine g_aload_n 22 dLink_deliver_22 rfl ?_
    refine g_geti 23 2 3 dLink_deliver_23 fs_Link_135 rfl (hR.1.tEnd he) ?_
    refine g_top _ (hR.sI (sc_E he (by omega))) ?_
    refine g_if_eq 26 33 dLink_deliver_26 rfl (fun h26 => ?_) (fun h26 => ?_)
    · refine g_iconst 33 0 dLink_deliver_33 rfl ?_
      refine g_istore_n 34 dLink_deliver_34 (by decide) rfl ?_
      refine g_iload_n 35 dLink_deliver_35 rfl ?_
      refine g_if_ne 36 54 dLink_deliver_36 rfl (fun h36 => ?_) (fun h36 => ?_)
      · exact absurd rfl h36
      · refine g_aload_n 39 dLink_deliver_39 rfl ?_
        refine g_getr 40 2 2 dLink_deliver_40 fs_Link_47 rfl (hR.1.tEnd he) (hR.1.rEnd2 he) ?_
        refine g_geti 43 1 2 dLink_deliver_43 fs_Link_134 rfl (hR.1.tPipeO he) ?_
        refine g_top _ (hR.poc he) ?_
        refine g_bipush 46 (nI 40) dLink_deliver_46 rfl ?_
        refine g_icmp_ltN 48 54 dLink_deliver_48 rfl (by omega) (by omega) (fun h48 => ?_) (fun h48 => ?_)
        · exact absurd h48 (by omega)
        · refine g_bipush 51 (-2) dLink_deliver_51 rfl ?_
          exact g_iret 53 dLink_deliver_53 rfl ⟨rfl, rfl⟩
    · exact absurd hd h26
  · exact absurd h17 (by rw [hz]; exact Nat.succ_ne_zero _)

set_option maxRecDepth 100000 in
set_option maxHeartbeats 4000000 in
theorem ct_deliverR {X : mX} {l : Launch} {M : mM} {A : zA} {e : Nat} (hR : RC M A) (he : e < 2) {f : zF} {L : List zF} (hz : zP A e = f :: L) (hd : zI A (9 + 80 * e) 3 = 0) (h40 : (zP A (1 - e)).length < 40) {B : zA} {v : Int32} (hG : ∀ M1 a, RC M1 (yP A e L) → FrC M1 a f → Ct X l uEnd_getFrame (rn 6 127 6 36) [.ref (9 + 80 * e), .ref a] M1 (fun r M' => r = some (.int v) ∧ RC M' B ∧ Chg M1 M' cP cP)) : Ct X l uLink_deliver (rn 7 148 6 36) [.ref 3, .int (nI e)] M (fun r M' => r = some (.int v) ∧ RC M' B ∧ Chg M M' cP cP) := by
  refine Ct.of (by decide) (Nat.le_of_ble_eq_true rfl) ?_
  show G X l uLink_deliver (rn 7 148 6 36) 6 36 M 0 [some (.ref 3), some (.int (nI e)), none, none, none] [] _
  have hC : Chg M M cP cP := Chg.rf
  have hpi := hR.pi8 he
  have hpo := hR.pi8 (e := 1 - e) (by omega)
  refine g_aload_n 0 dLink_deliver_0 rfl ?_
  refine g_iload_n 1 dLink_deliver_1 rfl ?_
  refine g_callV 2 [_] dLink_deliver_2 cs_Link_128 rfl (ci := 0) rfl (by decide) hR.1.link rfl ⟨(Nat.le_of_ble_eq_true rfl), (Nat.le_of_ble_eq_true rfl)⟩ (Nat.le_of_ble_eq_true rfl) (ct_endOf hR.1 he) (Nat.le_of_ble_eq_true rfl) (Nat.le_of_ble_eq_true rfl) ?_
  rintro _ M2 ⟨rfl, hM2⟩
  rw [hM2]
  clear hM2 M2
  refine g_astore_n 5 dLink_deliver_5 (by decide) rfl ?_
  refine g_aload_n 6 dLink_deliver_6 rfl ?_
  refine g_ifnull 7 dLink_deliver_7 ?_
  refine g_aload_n 10 dLink_deliver_10 rfl ?_
  refine g_getr 11 2 1 dLink_deliver_11 fs_Link_131 rfl (hR.1.tEnd he) (hR.1.rEnd1 he) ?_
  refine g_geti 14 1 2 dLink_deliver_14 fs_Link_134 rfl (hR.1.tPipe he) ?_
  refine g_top _ (hR.pic he) ?_
  refine g_if_neN 17 22 dLink_deliver_17 rfl (by omega) (fun h17 => ?_) (fun h17 => ?_)
  · refine g_aload_n 22 dLink_deliver_22 rfl ?_
    refine g_geti 23 2 3 dLink_deliver_23 fs_Link_135 rfl (hR.1.tEnd he) ?_
    refine g_top _ (hR.sI (sc_E he (by omega))) ?_
    refine g_if_eq 26 33 dLink_deliver_26 rfl (fun h26 => ?_) (fun h26 => ?_)
    · refine g_iconst 33 0 dLink_deliver_33 rfl ?_
      refine g_istore_n 34 dLink_deliver_34 (by decide) rfl ?_
      refine g_iload_n 35 dLink_deliver_35 rfl ?_
      refine g_if_ne 36 54 dLink_deliver_36 rfl (fun h36 => ?_) (fun h36 => ?_)
      · exact absurd rfl h36
      · refine g_aload_n 39 dLink_deliver_39 rfl ?_
        refine g_getr 40 2 2 dLink_deliver_40 fs_Link_47 rfl (hR.1.tEnd he) (hR.1.rEnd2 he) ?_
        refine g_geti 43 1 2 dLink_deliver_43 fs_Link_134 rfl (hR.1.tPipeO he) ?_
        refine g_top _ (hR.poc he) ?_
        refine g_bipush 46 (nI 40) dLink_deliver_46 rfl ?_
        refine g_icmp_ltN 48 54 dLink_deliver_48 rfl (by omega) (by omega) (fun h48 => ?_) (fun h48 => ?_)
        · refine g_aload_n 54 dLink_deliver_54 rfl ?_
          refine g_getr 55 2 1 dLink_deliver_55 fs_Link_131 rfl (hR.1.tEnd he) (hR.1.rEnd1 he) ?_
          refine g_callV 58 [] dLink_deliver_58 cs_Link_138 rfl (ci := 1) rfl (by decide) (hR.1.tPipe he) rfl ⟨(Nat.le_of_ble_eq_true rfl), (Nat.le_of_ble_eq_true rfl)⟩ (Nat.le_of_ble_eq_true rfl) (ct_popR hR he hz) (Nat.le_of_ble_eq_true rfl) (Nat.le_of_ble_eq_true rfl) ?_
          rintro _ M1 ⟨a, rfl, hF, hR1, hc⟩
          have hC1 := hC.tr hc
          refine g_astore 61 dLink_deliver_61 (by decide) rfl ?_
          refine g_iload_n 63 dLink_deliver_63 rfl ?_
          refine g_if_ne 64 72 dLink_deliver_64 rfl (fun h64 => ?_) (fun h64 => ?_)
          · exact absurd rfl h64
          · refine g_aload 67 dLink_deliver_67 rfl ?_
            refine g_ifnonnull 69 76 dLink_deliver_69 rfl ?_
            refine g_aload_n 76 dLink_deliver_76 rfl ?_
            refine g_aload 77 dLink_deliver_77 rfl ?_
            refine g_callV 79 [_] dLink_deliver_79 cs_Link_142 rfl (ci := 2) rfl (by decide) (hR1.1.tEnd he) rfl ⟨(Nat.le_of_ble_eq_true rfl), (Nat.le_of_ble_eq_true rfl)⟩ (Nat.le_of_ble_eq_true rfl) (hG _ _ hR1 hF) (Nat.le_of_ble_eq_true rfl) (Nat.le_of_ble_eq_true rfl) ?_
            rintro _ M2 ⟨rfl, hR2, hc⟩
            have hC2 := hC1.tr hc
            exact g_iret 82 dLink_deliver_82 rfl ⟨rfl, hR2, hC2⟩
        · exact absurd h40 h48
    · exact absurd hd h26
  · exact absurd h17 (by rw [hz]; exact Nat.succ_ne_zero _)

set_option maxRecDepth 100000 in
set_option maxHeartbeats 4000000 in
theorem ct_gF_getData {X : mX} {l : Launch} {M : mM} {A : zA} {e : Nat} (hR : RC M A) (he : e < 2) {a : Nat} {f : zF} (hF : FrC M a f) (hkd : f.1 = 0) {B : zA} {v : Int32} (hG : Ct X l uEnd_getData (rn 5 104 2 14) [.ref (9 + 80 * e), .ref a] M (fun r M' => r = some (.int v) ∧ RC M' B ∧ Chg M M' cP cP)) : Ct X l uEnd_getFrame (rn 6 127 6 36) [.ref (9 + 80 * e), .ref a] M (fun r M' => r = some (.int v) ∧ RC M' B ∧ Chg M M' cP cP) := by
  refine Ct.of (by decide) (Nat.le_of_ble_eq_true rfl) ?_
  show G X l uEnd_getFrame (rn 6 127 6 36) 6 36 M 0 [some (.ref (9 + 80 * e)), some (.ref a)] [] _
  have hC : Chg M M cP cP := Chg.rf
  refine g_aload_n 0 dEnd_getFrame_0 rfl ?_
  refine g_geti 1 12 0 dEnd_getFrame_1 fs_End_215 rfl (hF.cg hC).2.2.1 ?_
  refine g_top _ (hF.cg hC).2.2.2.1 ?_
  refine g_top (0) (hkd) ?_
  refine g_tableIn 4 52 dEnd_getFrame_4 (by decide) (by decide) rfl rfl ?_
  refine g_aload_n 52 dEnd_getFrame_52 rfl ?_
  refine g_aload_n 53 dEnd_getFrame_53 rfl ?_
  refine g_callV 54 [_] dEnd_getFrame_54 cs_End_218 rfl (ci := 2) rfl (by decide) (hR.1.tEnd he) rfl ⟨(Nat.le_of_ble_eq_true rfl), (Nat.le_of_ble_eq_true rfl)⟩ (Nat.le_of_ble_eq_true rfl) (hG) (Nat.le_of_ble_eq_true rfl) (Nat.le_of_ble_eq_true rfl) ?_
  rintro _ M1 ⟨rfl, hR1, hc⟩
  have hC1 := hC.tr hc
  exact g_iret 57 dEnd_getFrame_57 rfl ⟨rfl, hR1, hC1⟩

set_option maxRecDepth 100000 in
set_option maxHeartbeats 4000000 in
theorem ct_gF_getHeaders {X : mX} {l : Launch} {M : mM} {A : zA} {e : Nat} (hR : RC M A) (he : e < 2) {a : Nat} {f : zF} (hF : FrC M a f) (hkd : f.1 = 1) {B : zA} {v : Int32} (hG : Ct X l uEnd_getHeaders (rn 5 104 6 36) [.ref (9 + 80 * e), .ref a] M (fun r M' => r = some (.int v) ∧ RC M' B ∧ Chg M M' cP cP)) : Ct X l uEnd_getFrame (rn 6 127 6 36) [.ref (9 + 80 * e), .ref a] M (fun r M' => r = some (.int v) ∧ RC M' B ∧ Chg M M' cP cP) := by
  refine Ct.of (by decide) (Nat.le_of_ble_eq_true rfl) ?_
  show G X l uEnd_getFrame (rn 6 127 6 36) 6 36 M 0 [some (.ref (9 + 80 * e)), some (.ref a)] [] _
  have hC : Chg M M cP cP := Chg.rf
  refine g_aload_n 0 dEnd_getFrame_0 rfl ?_
  refine g_geti 1 12 0 dEnd_getFrame_1 fs_End_215 rfl (hF.cg hC).2.2.1 ?_
  refine g_top _ (hF.cg hC).2.2.2.1 ?_
  refine g_top (1) (hkd) ?_
  refine g_tableIn 4 58 dEnd_getFrame_4 (by decide) (by decide) rfl rfl ?_
  refine g_aload_n 58 dEnd_getFrame_58 rfl ?_
  refine g_aload_n 59 dEnd_getFrame_59 rfl ?_
  refine g_callV 60 [_] dEnd_getFrame_60 cs_End_222 rfl (ci := 2) rfl (by decide) (hR.1.tEnd he) rfl ⟨(Nat.le_of_ble_eq_true rfl), (Nat.le_of_ble_eq_true rfl)⟩ (Nat.le_of_ble_eq_true rfl) (hG) (Nat.le_of_ble_eq_true rfl) (Nat.le_of_ble_eq_true rfl) ?_
  rintro _ M1 ⟨rfl, hR1, hc⟩
  have hC1 := hC.tr hc
  exact g_iret 63 dEnd_getFrame_63 rfl ⟨rfl, hR1, hC1⟩

set_option maxRecDepth 100000 in
set_option maxHeartbeats 4000000 in
theorem ct_gF_getReset {X : mX} {l : Launch} {M : mM} {A : zA} {e : Nat} (hR : RC M A) (he : e < 2) {a : Nat} {f : zF} (hF : FrC M a f) (hkd : f.1 = 3) {B : zA} {v : Int32} (hG : Ct X l uEnd_getReset (rn 4 81 2 14) [.ref (9 + 80 * e), .ref a] M (fun r M' => r = some (.int v) ∧ RC M' B ∧ Chg M M' cP cP)) : Ct X l uEnd_getFrame (rn 6 127 6 36) [.ref (9 + 80 * e), .ref a] M (fun r M' => r = some (.int v) ∧ RC M' B ∧ Chg M M' cP cP) := by
  refine Ct.of (by decide) (Nat.le_of_ble_eq_true rfl) ?_
  show G X l uEnd_getFrame (rn 6 127 6 36) 6 36 M 0 [some (.ref (9 + 80 * e)), some (.ref a)] [] _
  have hC : Chg M M cP cP := Chg.rf
  refine g_aload_n 0 dEnd_getFrame_0 rfl ?_
  refine g_geti 1 12 0 dEnd_getFrame_1 fs_End_215 rfl (hF.cg hC).2.2.1 ?_
  refine g_top _ (hF.cg hC).2.2.2.1 ?_
  refine g_top (3) (hkd) ?_
  refine g_tableIn 4 64 dEnd_getFrame_4 (by decide) (by decide) rfl rfl ?_
  refine g_aload_n 64 dEnd_getFrame_64 rfl ?_
  refine g_aload_n 65 dEnd_getFrame_65 rfl ?_
  refine g_callV 66 [_] dEnd_getFrame_66 cs_End_225 rfl (ci := 2) rfl (by decide) (hR.1.tEnd he) rfl ⟨(Nat.le_of_ble_eq_true rfl), (Nat.le_of_ble_eq_true rfl)⟩ (Nat.le_of_ble_eq_true rfl) (hG) (Nat.le_of_ble_eq_true rfl) (Nat.le_of_ble_eq_true rfl) ?_
  rintro _ M1 ⟨rfl, hR1, hc⟩
  have hC1 := hC.tr hc
  exact g_iret 69 dEnd_getFrame_69 rfl ⟨rfl, hR1, hC1⟩

set_option maxRecDepth 100000 in
set_option maxHeartbeats 4000000 in
theorem ct_gF_getAck {X : mX} {l : Launch} {M : mM} {A : zA} {e : Nat} (hR : RC M A) (he : e < 2) {a : Nat} {f : zF} (hF : FrC M a f) (hkd : f.1 = 4) (hfl : ¬ f.2.2.2.1 = 0) {B : zA} {v : Int32} (hG : Ct X l uEnd_getAck (rn 4 80 2 14) [.ref (9 + 80 * e)] M (fun r M' => r = some (.int v) ∧ RC M' B ∧ Chg M M' cP cP)) : Ct X l uEnd_getFrame (rn 6 127 6 36) [.ref (9 + 80 * e), .ref a] M (fun r M' => r = some (.int v) ∧ RC M' B ∧ Chg M M' cP cP) := by
  refine Ct.of (by decide) (Nat.le_of_ble_eq_true rfl) ?_
  show G X l uEnd_getFrame (rn 6 127 6 36) 6 36 M 0 [some (.ref (9 + 80 * e)), some (.ref a)] [] _
  have hC : Chg M M cP cP := Chg.rf
  refine g_aload_n 0 dEnd_getFrame_0 rfl ?_
  refine g_geti 1 12 0 dEnd_getFrame_1 fs_End_215 rfl (hF.cg hC).2.2.1 ?_
  refine g_top _ (hF.cg hC).2.2.2.1 ?_
  refine g_top (4) (hkd) ?_
  refine g_tableIn 4 70 dEnd_getFrame_4 (by decide) (by decide) rfl rfl ?_
  refine g_aload_n 70 dEnd_getFrame_70 rfl ?_
  refine g_geti 71 12 3 dEnd_getFrame_71 fs_End_228 rfl (hF.cg hC).2.2.1 ?_
  refine g_top _ (hF.cg hC).2.2.2.2.2.2.1 ?_
  refine g_if_eq 74 84 dEnd_getFrame_74 rfl (fun h74 => ?_) (fun h74 => ?_)
  · exact absurd h74 hfl
  · refine g_aload_n 77 dEnd_getFrame_77 rfl ?_
    refine g_callV 78 [] dEnd_getFrame_78 cs_End_231 rfl (ci := 2) rfl (by decide) (hR.1.tEnd he) rfl ⟨(Nat.le_of_ble_eq_true rfl), (Nat.le_of_ble_eq_true rfl)⟩ (Nat.le_of_ble_eq_true rfl) (hG) (Nat.le_of_ble_eq_true rfl) (Nat.le_of_ble_eq_true rfl) ?_
    rintro _ M1 ⟨rfl, hR1, hc⟩
    have hC1 := hC.tr hc
    refine g_goto 81 96 dEnd_getFrame_81 rfl ?_
    exact g_iret 96 dEnd_getFrame_96 rfl ⟨rfl, hR1, hC1⟩

set_option maxRecDepth 100000 in
set_option maxHeartbeats 4000000 in
theorem ct_gF_getSetting {X : mX} {l : Launch} {M : mM} {A : zA} {e : Nat} (hR : RC M A) (he : e < 2) {a : Nat} {f : zF} (hF : FrC M a f) (hkd : f.1 = 4) (hfl : f.2.2.2.1 = 0) {B : zA} {v : Int32} (hG : Ct X l uEnd_getSetting (rn 4 80 2 14) [.ref (9 + 80 * e), .int f.2.2.2.2.1, .int f.2.2.1] M (fun r M' => r = some (.int v) ∧ RC M' B ∧ Chg M M' cP cP)) : Ct X l uEnd_getFrame (rn 6 127 6 36) [.ref (9 + 80 * e), .ref a] M (fun r M' => r = some (.int v) ∧ RC M' B ∧ Chg M M' cP cP) := by
  refine Ct.of (by decide) (Nat.le_of_ble_eq_true rfl) ?_
  show G X l uEnd_getFrame (rn 6 127 6 36) 6 36 M 0 [some (.ref (9 + 80 * e)), some (.ref a)] [] _
  have hC : Chg M M cP cP := Chg.rf
  refine g_aload_n 0 dEnd_getFrame_0 rfl ?_
  refine g_geti 1 12 0 dEnd_getFrame_1 fs_End_215 rfl (hF.cg hC).2.2.1 ?_
  refine g_top _ (hF.cg hC).2.2.2.1 ?_
  refine g_top (4) (hkd) ?_
  refine g_tableIn 4 70 dEnd_getFrame_4 (by decide) (by decide) rfl rfl ?_
  refine g_aload_n 70 dEnd_getFrame_70 rfl ?_
  refine g_geti 71 12 3 dEnd_getFrame_71 fs_End_228 rfl (hF.cg hC).2.2.1 ?_
  refine g_top _ (hF.cg hC).2.2.2.2.2.2.1 ?_
  refine g_if_eq 74 84 dEnd_getFrame_74 rfl (fun h74 => ?_) (fun h74 => ?_)
  · refine g_aload_n 84 dEnd_getFrame_84 rfl ?_
    refine g_aload_n 85 dEnd_getFrame_85 rfl ?_
    refine g_geti 86 12 4 dEnd_getFrame_86 fs_End_234 rfl (hF.cg hC).2.2.1 ?_
    refine g_top _ (hF.cg hC).2.2.2.2.2.2.2.1 ?_
    refine g_aload_n 89 dEnd_getFrame_89 rfl ?_
    refine g_geti 90 12 2 dEnd_getFrame_90 fs_End_237 rfl (hF.cg hC).2.2.1 ?_
    refine g_top _ (hF.cg hC).2.2.2.2.2.1 ?_
    refine g_callV 93 [_, _] dEnd_getFrame_93 cs_End_240 rfl (ci := 2) rfl (by decide) (hR.1.tEnd he) rfl ⟨(Nat.le_of_ble_eq_true rfl), (Nat.le_of_ble_eq_true rfl)⟩ (Nat.le_of_ble_eq_true rfl) (hG) (Nat.le_of_ble_eq_true rfl) (Nat.le_of_ble_eq_true rfl) ?_
    rintro _ M1 ⟨rfl, hR1, hc⟩
    have hC1 := hC.tr hc
    exact g_iret 96 dEnd_getFrame_96 rfl ⟨rfl, hR1, hC1⟩
  · exact absurd hfl h74

set_option maxRecDepth 100000 in
set_option maxHeartbeats 4000000 in
theorem ct_gF_getLinkWindow {X : mX} {l : Launch} {M : mM} {A : zA} {e : Nat} (hR : RC M A) (he : e < 2) {a : Nat} {f : zF} (hF : FrC M a f) (hkd : f.1 = 8) (hfs : f.2.1 = 0) {B : zA} {v : Int32} (hG : Ct X l uEnd_getLinkWindow (rn 4 80 2 14) [.ref (9 + 80 * e), .int f.2.2.1] M (fun r M' => r = some (.int v) ∧ RC M' B ∧ Chg M M' cP cP)) : Ct X l uEnd_getFrame (rn 6 127 6 36) [.ref (9 + 80 * e), .ref a] M (fun r M' => r = some (.int v) ∧ RC M' B ∧ Chg M M' cP cP) := by
  refine Ct.of (by decide) (Nat.le_of_ble_eq_true rfl) ?_
  show G X l uEnd_getFrame (rn 6 127 6 36) 6 36 M 0 [some (.ref (9 + 80 * e)), some (.ref a)] [] _
  have hC : Chg M M cP cP := Chg.rf
  refine g_aload_n 0 dEnd_getFrame_0 rfl ?_
  refine g_geti 1 12 0 dEnd_getFrame_1 fs_End_215 rfl (hF.cg hC).2.2.1 ?_
  refine g_top _ (hF.cg hC).2.2.2.1 ?_
  refine g_top (8) (hkd) ?_
  refine g_tableOut 4 111 dEnd_getFrame_4 (Or.inr (by decide)) rfl ?_
  refine g_aload_n 111 dEnd_getFrame_111 rfl ?_
  refine g_geti 112 12 1 dEnd_getFrame_112 fs_End_243 rfl (hF.cg hC).2.2.1 ?_
  refine g_top _ (hF.cg hC).2.2.2.2.1 ?_
  refine g_if_ne 115 129 dEnd_getFrame_115 rfl (fun h115 => ?_) (fun h115 => ?_)
  · exact absurd hfs h115
  · refine g_aload_n 118 dEnd_getFrame_118 rfl ?_
    refine g_aload_n 119 dEnd_getFrame_119 rfl ?_
    refine g_geti 120 12 2 dEnd_getFrame_120 fs_End_237 rfl (hF.cg hC).2.2.1 ?_
    refine g_top _ (hF.cg hC).2.2.2.2.2.1 ?_
    refine g_callV 123 [_] dEnd_getFrame_123 cs_End_246 rfl (ci := 2) rfl (by decide) (hR.1.tEnd he) rfl ⟨(Nat.le_of_ble_eq_true rfl), (Nat.le_of_ble_eq_true rfl)⟩ (Nat.le_of_ble_eq_true rfl) (hG) (Nat.le_of_ble_eq_true rfl) (Nat.le_of_ble_eq_true rfl) ?_
    rintro _ M1 ⟨rfl, hR1, hc⟩
    have hC1 := hC.tr hc
    refine g_goto 126 134 dEnd_getFrame_126 rfl ?_
    exact g_iret 134 dEnd_getFrame_134 rfl ⟨rfl, hR1, hC1⟩

set_option maxRecDepth 100000 in
set_option maxHeartbeats 4000000 in
theorem ct_gF_getStreamWindow {X : mX} {l : Launch} {M : mM} {A : zA} {e : Nat} (hR : RC M A) (he : e < 2) {a : Nat} {f : zF} (hF : FrC M a f) (hkd : f.1 = 8) (hfs : ¬ f.2.1 = 0) {B : zA} {v : Int32} (hG : Ct X l uEnd_getStreamWindow (rn 5 104 2 14) [.ref (9 + 80 * e), .ref a] M (fun r M' => r = some (.int v) ∧ RC M' B ∧ Chg M M' cP cP)) : Ct X l uEnd_getFrame (rn 6 127 6 36) [.ref (9 + 80 * e), .ref a] M (fun r M' => r = some (.int v) ∧ RC M' B ∧ Chg M M' cP cP) := by
  refine Ct.of (by decide) (Nat.le_of_ble_eq_true rfl) ?_
  show G X l uEnd_getFrame (rn 6 127 6 36) 6 36 M 0 [some (.ref (9 + 80 * e)), some (.ref a)] [] _
  have hC : Chg M M cP cP := Chg.rf
  refine g_aload_n 0 dEnd_getFrame_0 rfl ?_
  refine g_geti 1 12 0 dEnd_getFrame_1 fs_End_215 rfl (hF.cg hC).2.2.1 ?_
  refine g_top _ (hF.cg hC).2.2.2.1 ?_
  refine g_top (8) (hkd) ?_
  refine g_tableOut 4 111 dEnd_getFrame_4 (Or.inr (by decide)) rfl ?_
  refine g_aload_n 111 dEnd_getFrame_111 rfl ?_
  refine g_geti 112 12 1 dEnd_getFrame_112 fs_End_243 rfl (hF.cg hC).2.2.1 ?_
  refine g_top _ (hF.cg hC).2.2.2.2.1 ?_
  refine g_if_ne 115 129 dEnd_getFrame_115 rfl (fun h115 => ?_) (fun h115 => ?_)
  · refine g_aload_n 129 dEnd_getFrame_129 rfl ?_
    refine g_aload_n 130 dEnd_getFrame_130 rfl ?_
    refine g_callV 131 [_] dEnd_getFrame_131 cs_End_250 rfl (ci := 2) rfl (by decide) (hR.1.tEnd he) rfl ⟨(Nat.le_of_ble_eq_true rfl), (Nat.le_of_ble_eq_true rfl)⟩ (Nat.le_of_ble_eq_true rfl) (hG) (Nat.le_of_ble_eq_true rfl) (Nat.le_of_ble_eq_true rfl) ?_
    rintro _ M1 ⟨rfl, hR1, hc⟩
    have hC1 := hC.tr hc
    exact g_iret 134 dEnd_getFrame_134 rfl ⟨rfl, hR1, hC1⟩
  · exact absurd h115 hfs

set_option maxRecDepth 100000 in
set_option maxHeartbeats 4000000 in
theorem ct_gF_bye {X : mX} {l : Launch} {M : mM} {A : zA} {e : Nat} (hR : RC M A) (he : e < 2) {a : Nat} {f : zF} (hF : FrC M a f) (hkd : f.1 = 7) : Ct X l uEnd_getFrame (rn 6 127 6 36) [.ref (9 + 80 * e), .ref a] M (fun r M' => r = some (.int 0) ∧ RC M' (yI A (9 + 80 * e) 3 (200 + f.2.2.1)) ∧ Chg M M' cP cP) := by
  refine Ct.of (by decide) (Nat.le_of_ble_eq_true rfl) ?_
  show G X l uEnd_getFrame (rn 6 127 6 36) 6 36 M 0 [some (.ref (9 + 80 * e)), some (.ref a)] [] _
  have hC : Chg M M cP cP := Chg.rf
  refine g_aload_n 0 dEnd_getFrame_0 rfl ?_
  refine g_geti 1 12 0 dEnd_getFrame_1 fs_End_215 rfl (hF.cg hC).2.2.1 ?_
  refine g_top _ (hF.cg hC).2.2.2.1 ?_
  refine g_top (7) (hkd) ?_
  refine g_tableIn 4 97 dEnd_getFrame_4 (by decide) (by decide) rfl rfl ?_
  refine g_aload_n 97 dEnd_getFrame_97 rfl ?_
  refine g_sipush 98 200 dEnd_getFrame_98 rfl ?_
  refine g_aload_n 101 dEnd_getFrame_101 rfl ?_
  refine g_geti 102 12 2 dEnd_getFrame_102 fs_End_237 rfl (hF.cg hC).2.2.1 ?_
  refine g_top _ (hF.cg hC).2.2.2.2.2.1 ?_
  refine g_iadd 105 dEnd_getFrame_105 ?_
  refine g_puti 106 2 3 dEnd_getFrame_106 ps_End_9 rfl (hR.1.tEnd he) ?_
  refine g_yI hR hC (sc_E he (by omega)) (fun M1 hR1 hC1 => ?_)
  refine g_iconst 109 0 dEnd_getFrame_109 rfl ?_
  exact g_iret 110 dEnd_getFrame_110 rfl ⟨rfl, hR1, hC1⟩

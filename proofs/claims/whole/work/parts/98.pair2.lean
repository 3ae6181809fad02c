
/-! ===== each call on both sides: deliver, inject, what is asked ===== -/
set_option maxRecDepth 100000 in
set_option maxHeartbeats 4000000 in
theorem pd_0 {X : mX} {l : Launch} {M : mM} {A : zA} {e : Nat} {f : zF} {L : List zF} (hX : FX X) (hC : RC M A) (hR : RR M A) (hW : WfD A 0 0 12) (he : e < 2) (hz : zP A e = f :: L) (hd : zI A (9 + 80 * e) 3 = 0) (h40 : (zP A (1 - e)).length < 40) (hf : FrW f) (hkd : f.1 = 0) : Prx X l uLink_deliver uMod_deliver [.int (nI e)] M Jw := by
  have hW1 : WfD (yP A e L) e 0 12 := wf_P (wf_fo hW) fun g hg => (hW.1 e he).1 g (by rw [hz]; exact List.mem_cons_of_mem _ hg)
  have hp : (zP (yP A e L) (1 - e)).length ≤ 44 := by
    rw [show zP (yP A e L) (1 - e) = zP A (1 - e) from upf_ne (by omega)]
    omega
  obtain ⟨hn, hn15, hbW⟩ := hf.2.2.1 hkd
  obtain ⟨u1, u2, u3⟩ := hW1.u he
  by_cases hx : isStr f.2.1
  · obtain ⟨k, hk, hfs⟩ := hx
    have hWd : ∀ b, WfD (gDt (yP A e L) b e k f).2 0 0 12 := fun b => wf_fo (wf_gDt hW1 he hk hf hkd)
    cases hzl : zL (yP A e L) e k with
    | none => exact px_c (by decide) (by decide) (ct_deliverR hC he hz hd h40 (fun M1 a hR1 hF => ct_gF_getData hR1 he hF hkd (ct_gDt_N hR1 he hk hF hfs hp hkd u2 u1 hn hn15 hzl))) (fun M1 h => cm_dl_data h he hz hd h40 hkd (fun M1 hh_ h1 hF hs => ct_gDtM h1 he hk hs hF hfs hp hkd u2 u1 hn hn15 hf.2.1 (b := false) ⟨fun _ => rfl, fun q => absurd hzl q⟩)) hR (hWd false)
    | some L0 => exact px_c (by decide) (by decide) (ct_deliverR hC he hz hd h40 (fun M1 a hR1 hF => ct_gF_getData hR1 he hF hkd (ct_gDt_L hR1 he hk hF hfs hp hkd u2 u1 hn hn15 hzl))) (fun M1 h => cm_dl_data h he hz hd h40 hkd (fun M1 hh_ h1 hF hs => ct_gDtM h1 he hk hs hF hfs hp hkd u2 u1 hn hn15 hf.2.1 (b := true) ⟨fun q => absurd (hzl.symm.trans q) (by simp), fun _ => rfl⟩)) hR (hWd true)
  · exact px_c (by decide) (by decide) (ct_deliverR hC he hz hd h40 (fun M1 a hR1 hF => ct_gF_getData hR1 he hF hkd (ct_gDt_no hR1 he hF hx hp))) (fun M1 h => cm_dl_data h he hz hd h40 hkd (fun M1 hh_ h1 hF hs => ct_gDtM_no h1 he hs hF hx hp)) hR (wf_fo (wf_lerr hW1 he))
set_option maxRecDepth 100000 in
set_option maxHeartbeats 4000000 in
theorem pd_1 {X : mX} {l : Launch} {M : mM} {A : zA} {e : Nat} {f : zF} {L : List zF} (hX : FX X) (hC : RC M A) (hR : RR M A) (hW : WfD A 0 0 12) (he : e < 2) (hz : zP A e = f :: L) (hd : zI A (9 + 80 * e) 3 = 0) (h40 : (zP A (1 - e)).length < 40) (hf : FrW f) (hkd : f.1 = 1) : Prx X l uLink_deliver uMod_deliver [.int (nI e)] M Jw := by
  have hW1 : WfD (yP A e L) e 0 12 := wf_P (wf_fo hW) fun g hg => (hW.1 e he).1 g (by rw [hz]; exact List.mem_cons_of_mem _ hg)
  have hp : (zP (yP A e L) (1 - e)).length ≤ 44 := by
    rw [show zP (yP A e L) (1 - e) = zP A (1 - e) from upf_ne (by omega)]
    omega
  obtain ⟨hnf, hmx⟩ := hf.2.2.2 hkd
  obtain ⟨b1_, b2_, b3_, b4_, b5_, b6_⟩ := hW1.1 e he
  obtain ⟨mm, hmm, hmb⟩ := b2_ 1 (by decide)
  have hWd : WfD (decA (yP A e L) e (zI (yP A e L) (26 + 80 * e) 0) f.2.2.2.2.2.2).2 e 0 12 := wf_dec hW1 he hmx
  by_cases hx : isStr f.2.1
  · obtain ⟨k, hk, hfs⟩ := hx
    obtain ⟨a1_, a2_, a3_, a4_, a5_⟩ := hW1.2.2.1 e k he hk
    by_cases hid : e = 0 ∧ zI (yP A e L) (29 + 80 * e + 5 * k) 1 = 0
    · obtain ⟨he0, hs0⟩ := hid
      exact px_c (by decide) (by decide) (ct_deliverR hC he hz hd h40 (fun M1 a hR1 hF => ct_gF_getHeaders hR1 he hF hkd (ct_gHd_id hR1 he hk hF hfs hp he0 hs0))) (fun M1 h => cm_dl_hdr h he hz hd h40 hkd (fun M1 hh_ h1 hF hs => ct_gHdM_id h1 he hk hs hF hfs hp he0 hs0)) hR (wf_fo (wf_lerr hW1 he))
    have hid2 : ¬ (e = 0 ∧ zI (decA (yP A e L) e (zI (yP A e L) (26 + 80 * e) 0) f.2.2.2.2.2.2).2 (29 + 80 * e + 5 * k) 1 = 0) := by rw [dec_1 he hk]; exact hid
    cases hda : (decA (yP A e L) e (zI (yP A e L) (26 + 80 * e) 0) f.2.2.2.2.2.2).1 with
    | none => exact px_c (by decide) (by decide) (ct_deliverR hC he hz hd h40 (fun M1 a hR1 hF => ct_gF_getHeaders hR1 he hF hkd (ct_gHd_bad hR1 he hk hF hfs hp hX hkd hnf hid hda))) (fun M1 h => cm_dl_hdr h he hz hd h40 hkd (fun M1 hh_ h1 hF hs => ct_gHdM_bad h1 he hk hs hF hfs hp hkd hnf hmb hmm hmx hid hda)) hR (wf_fo (wf_lerr hWd he))
    | some L1 =>
      have hWh : ∀ b L2, WfD (gHd (decA (yP A e L) e (zI (yP A e L) (26 + 80 * e) 0) f.2.2.2.2.2.2).2 b e k L2 f.2.2.2.1).2 0 0 12 := fun b L2 => wf_fo (wf_gHd hWd he hk hid2)
      cases hzl : zL (yP A e L) e k with
      | none => exact px_c (by decide) (by decide) (ct_deliverR hC he hz hd h40 (fun M1 a hR1 hF => ct_gF_getHeaders hR1 he hF hkd (ct_gHd_N hR1 he hk hF hfs hp hX hkd hnf hid hda hzl))) (fun M1 h => cm_dl_hdr h he hz hd h40 hkd (fun M1 hh_ h1 hF hs => ct_gHdM h1 he hk hs hF hfs hp hkd hnf hmb hmm hmx hid (b := false) hda hf.2.1 (fun q => (a3_ q).2) ⟨fun _ => rfl, fun q => absurd hzl q⟩)) hR (hWh false L1)
      | some L0 => exact px_c (by decide) (by decide) (ct_deliverR hC he hz hd h40 (fun M1 a hR1 hF => ct_gF_getHeaders hR1 he hF hkd (ct_gHd_L hR1 he hk hF hfs hp hX hkd hnf hid hda hzl))) (fun M1 h => cm_dl_hdr h he hz hd h40 hkd (fun M1 hh_ h1 hF hs => ct_gHdM h1 he hk hs hF hfs hp hkd hnf hmb hmm hmx hid (b := true) hda hf.2.1 (fun q => (a3_ q).2) ⟨fun q => absurd (hzl.symm.trans q) (by simp), fun _ => rfl⟩)) hR (hWh true L1)
  · exact px_c (by decide) (by decide) (ct_deliverR hC he hz hd h40 (fun M1 a hR1 hF => ct_gF_getHeaders hR1 he hF hkd (ct_gHd_no hR1 he hF hx hp))) (fun M1 h => cm_dl_hdr h he hz hd h40 hkd (fun M1 hh_ h1 hF hs => ct_gHdM_no h1 he hs hF hx hp)) hR (wf_fo (wf_lerr hW1 he))
set_option maxRecDepth 100000 in
set_option maxHeartbeats 4000000 in
theorem pd_3 {X : mX} {l : Launch} {M : mM} {A : zA} {e : Nat} {f : zF} {L : List zF} (hX : FX X) (hC : RC M A) (hR : RR M A) (hW : WfD A 0 0 12) (he : e < 2) (hz : zP A e = f :: L) (hd : zI A (9 + 80 * e) 3 = 0) (h40 : (zP A (1 - e)).length < 40) (hf : FrW f) (hkd : f.1 = 3) : Prx X l uLink_deliver uMod_deliver [.int (nI e)] M Jw := by
  have hW1 : WfD (yP A e L) e 0 12 := wf_P (wf_fo hW) fun g hg => (hW.1 e he).1 g (by rw [hz]; exact List.mem_cons_of_mem _ hg)
  have hp : (zP (yP A e L) (1 - e)).length ≤ 44 := by
    rw [show zP (yP A e L) (1 - e) = zP A (1 - e) from upf_ne (by omega)]
    omega
  by_cases hx : isStr f.2.1
  · obtain ⟨k, hk, hfs⟩ := hx
    exact px_c (by decide) (by decide) (ct_deliverR hC he hz hd h40 (fun M1 a hR1 hF => ct_gF_getReset hR1 he hF hkd (ct_gRs hR1 he hk hF hfs hp))) (fun M1 h => cm_dl_rst h he hz hd h40 hkd (fun M1 hh_ h1 hF hs => by rw [hfs]; exact ct_gRsM h1 he hk hp)) hR (wf_fo (wf_gRs hW1 he hk))
  · exact px_c (by decide) (by decide) (ct_deliverR hC he hz hd h40 (fun M1 a hR1 hF => ct_gF_getReset hR1 he hF hkd (ct_gRs_no hR1 he hF hx hp))) (fun M1 h => cm_dl_rst h he hz hd h40 hkd (fun M1 hh_ h1 hF hs => ct_gRsM_no h1 he hx hp)) hR (wf_fo (wf_lerr hW1 he))
set_option maxRecDepth 100000 in
set_option maxHeartbeats 4000000 in
theorem pd_4 {X : mX} {l : Launch} {M : mM} {A : zA} {e : Nat} {f : zF} {L : List zF} (hX : FX X) (hC : RC M A) (hR : RR M A) (hW : WfD A 0 0 12) (he : e < 2) (hz : zP A e = f :: L) (hd : zI A (9 + 80 * e) 3 = 0) (h40 : (zP A (1 - e)).length < 40) (hf : FrW f) (hkd : f.1 = 4) : Prx X l uLink_deliver uMod_deliver [.int (nI e)] M Jw := by
  have hW1 : WfD (yP A e L) e 0 12 := wf_P (wf_fo hW) fun g hg => (hW.1 e he).1 g (by rw [hz]; exact List.mem_cons_of_mem _ hg)
  have hp : (zP (yP A e L) (1 - e)).length ≤ 44 := by
    rw [show zP (yP A e L) (1 - e) = zP A (1 - e) from upf_ne (by omega)]
    omega
  by_cases hfl : f.2.2.2.1 = 0
  · by_cases hkn : knC f.2.2.2.2.1 = 0
    · exact px_c (by decide) (by decide) (ct_deliverR hC he hz hd h40 (fun M1 a hR1 hF => ct_gF_getSetting hR1 he hF hkd hfl (ct_gSt hR1 he hp))) (fun M1 h => cm_dl_set h he hz hd h40 hkd hfl (fun M1 hh_ h1 hF hs => ct_gStM_un h1 he hkn hp)) hR (wf_fo (wf_gSt hW1 he))
    · rcases kn_in hkn with q | q | q
      · exact px_c (by decide) (by decide) (ct_deliverR hC he hz hd h40 (fun M1 a hR1 hF => ct_gF_getSetting hR1 he hF hkd hfl (ct_gSt hR1 he hp))) (fun M1 h => cm_dl_set h he hz hd h40 hkd hfl (fun M1 hh_ h1 hF hs => by rw [q]; exact ct_gStM_1 h1 he hp)) hR (wf_fo (wf_gSt hW1 he))
      · exact px_c (by decide) (by decide) (ct_deliverR hC he hz hd h40 (fun M1 a hR1 hF => ct_gF_getSetting hR1 he hF hkd hfl (ct_gSt hR1 he hp))) (fun M1 h => cm_dl_set h he hz hd h40 hkd hfl (fun M1 hh_ h1 hF hs => by rw [q]; exact ct_gStM_3 h1 he hp)) hR (wf_fo (wf_gSt hW1 he))
      · exact px_c (by decide) (by decide) (ct_deliverR hC he hz hd h40 (fun M1 a hR1 hF => ct_gF_getSetting hR1 he hF hkd hfl (ct_gSt hR1 he hp))) (fun M1 h => cm_dl_set h he hz hd h40 hkd hfl (fun M1 hh_ h1 hF hs => by rw [q]; exact ct_gStM_4 h1 he hp)) hR (wf_fo (wf_gSt hW1 he))
  · cases hD : zD (yP A e L) e with
    | nil => exact px_c (by decide) (by decide) (ct_deliverR hC he hz hd h40 (fun M1 a hR1 hF => ct_gF_getAck hR1 he hF hkd hfl (ct_gAk_0 hR1 he hp hD))) (fun M1 h => cm_dl_ack h he hz hd h40 hkd hfl (fun M1 hh_ h1 hF hs => ct_gAkM_0 h1 he hp hD)) hR (wf_fo (wf_lerr hW1 he))
    | cons x Dl => exact px_c (by decide) (by decide) (ct_deliverR hC he hz hd h40 (fun M1 a hR1 hF => ct_gF_getAck hR1 he hF hkd hfl (ct_gAk hR1 he hD))) (fun M1 h => cm_dl_ack h he hz hd h40 hkd hfl (fun M1 hh_ h1 hF hs => ct_gAkM h1 he hD ((hW1.1 e he).2.2.2.2.1 x (by rw [hD]; exact List.mem_cons_self ..)) (hW1.1 e he).2.2.2.1)) hR (wf_fo (wf_frc (wf_D hW1 fun y hy => (hW1.1 e he).2.2.2.2.1 y (by rw [hD]; exact List.mem_cons_of_mem _ hy)) he))
set_option maxRecDepth 100000 in
set_option maxHeartbeats 4000000 in
theorem pd_7 {X : mX} {l : Launch} {M : mM} {A : zA} {e : Nat} {f : zF} {L : List zF} (hX : FX X) (hC : RC M A) (hR : RR M A) (hW : WfD A 0 0 12) (he : e < 2) (hz : zP A e = f :: L) (hd : zI A (9 + 80 * e) 3 = 0) (h40 : (zP A (1 - e)).length < 40) (hf : FrW f) (hkd : f.1 = 7) : Prx X l uLink_deliver uMod_deliver [.int (nI e)] M Jw := by
  have hW1 : WfD (yP A e L) e 0 12 := wf_P (wf_fo hW) fun g hg => (hW.1 e he).1 g (by rw [hz]; exact List.mem_cons_of_mem _ hg)
  have hp : (zP (yP A e L) (1 - e)).length ≤ 44 := by
    rw [show zP (yP A e L) (1 - e) = zP A (1 - e) from upf_ne (by omega)]
    omega
  exact px_c (by decide) (by decide) (ct_deliverR hC he hz hd h40 (fun M1 a hR1 hF => ct_gF_bye hR1 he hF hkd)) (fun M1 h => cm_dl_bye h he hz hd h40 hkd) hR (wf_fo (wf_I hW1 (n_E he (Or.inl rfl))))
set_option maxRecDepth 100000 in
set_option maxHeartbeats 4000000 in
theorem pd_8 {X : mX} {l : Launch} {M : mM} {A : zA} {e : Nat} {f : zF} {L : List zF} (hX : FX X) (hC : RC M A) (hR : RR M A) (hW : WfD A 0 0 12) (he : e < 2) (hz : zP A e = f :: L) (hd : zI A (9 + 80 * e) 3 = 0) (h40 : (zP A (1 - e)).length < 40) (hf : FrW f) (hkd : f.1 = 8) : Prx X l uLink_deliver uMod_deliver [.int (nI e)] M Jw := by
  have hW1 : WfD (yP A e L) e 0 12 := wf_P (wf_fo hW) fun g hg => (hW.1 e he).1 g (by rw [hz]; exact List.mem_cons_of_mem _ hg)
  have hp : (zP (yP A e L) (1 - e)).length ≤ 44 := by
    rw [show zP (yP A e L) (1 - e) = zP A (1 - e) from upf_ne (by omega)]
    omega
  by_cases hs0 : f.2.1 = 0
  · exact px_c (by decide) (by decide) (ct_deliverR hC he hz hd h40 (fun M1 a hR1 hF => ct_gF_getLinkWindow hR1 he hF hkd hs0 (ct_gLW hR1 he hp))) (fun M1 h => cm_dl_win h he hz hd h40 hkd (fun M1 hh_ h1 hF hs => by rw [hs0]; exact ct_gLWM h1 he hp)) hR (wf_fo (wf_gLW hW1 he))
  by_cases hx : isStr f.2.1
  · obtain ⟨k, hk, hfs⟩ := hx
    exact px_c (by decide) (by decide) (ct_deliverR hC he hz hd h40 (fun M1 a hR1 hF => ct_gF_getStreamWindow hR1 he hF hkd hs0 (ct_gSW hR1 he hk hF hfs hp))) (fun M1 h => cm_dl_win h he hz hd h40 hkd (fun M1 hh_ h1 hF hs => by rw [hfs]; exact ct_gSWM h1 he hk hp)) hR (wf_fo (wf_gSW hW1 he hk))
  · exact px_c (by decide) (by decide) (ct_deliverR hC he hz hd h40 (fun M1 a hR1 hF => ct_gF_getStreamWindow hR1 he hF hkd hs0 (ct_gSW_no hR1 he hF hx hp))) (fun M1 h => cm_dl_win h he hz hd h40 hkd (fun M1 hh_ h1 hF hs => ct_gSWM_no h1 he hs0 hx hp)) hR (wf_fo (wf_lerr hW1 he))
set_option maxRecDepth 100000 in
set_option maxHeartbeats 4000000 in
theorem pw_deliver {X : mX} {l : Launch} {M : mM} (hX : FX X) (hJ : Jw M) (a1 : Int32) : Prx X l uLink_deliver uMod_deliver [.int a1] M Jw := by
  have hJ0 := hJ
  obtain ⟨A, hC, hR, hW⟩ := hJ0
  rcases end_ro a1 with ⟨e, he, rfl⟩ | ⟨h0, h1⟩
  · cases hz : zP A e with
    | nil => exact px_s (by decide) (by decide) (ct_Link_deliver_0 hC.1 he (by rw [hC.pic he, hz]; rfl)) (cm_deliver_0 hR.1 he (by rw [hR.pc he, hz]; rfl)) hC.1 hJ
    | cons f L =>
      have hf : FrW f := (hW.1 e he).1 f (by rw [hz]; exact List.mem_cons_self ..)
      by_cases hd : zI A (9 + 80 * e) 3 = 0
      · by_cases h40 : (zP A (1 - e)).length < 40
        · rcases hf.1 with q | q | q | q | q | q
          · exact pd_0 hX hC hR hW he hz hd h40 hf q
          · exact pd_1 hX hC hR hW he hz hd h40 hf q
          · exact pd_3 hX hC hR hW he hz hd h40 hf q
          · exact pd_4 hX hC hR hW he hz hd h40 hf q
          · exact pd_7 hX hC hR hW he hz hd h40 hf q
          · exact pd_8 hX hC hR hW he hz hd h40 hf q
        · exact px_s (by decide) (by decide) (ct_deliver_full hC he hz hd (by omega)) (cm_deliver_full hR he hz hd (by omega)) hC.1 hJ
      · exact px_c (by decide) (by decide) (ct_deliver_dn hC he hz hd) (fun M1 h => cm_deliver_dn h he hz hd) hR (wf_P hW fun g hg => (hW.1 e he).1 g (by rw [hz]; exact List.mem_cons_of_mem _ hg))
  · exact px_s (by decide) (by decide) (ct_Link_deliver_no hC.1 h0 h1) (cm_deliver_no hR.1 h0 h1) hC.1 hJ

theorem wi15b {x : Int32} (h : wi x 0 15 = 0) : x < 0 ∨ 15 < x := by
  unfold wi at h
  by_cases q : x < 0
  · exact Or.inl q
  · rw [if_neg q] at h
    by_cases q2 : 15 < x
    · exact Or.inr q2
    · rw [if_neg q2] at h
      exact absurd h (by decide)
theorem wi15a {x : Int32} (h : ¬ wi x 0 15 = 0) : ¬ x < 0 ∧ ¬ 15 < x := ⟨Int32.not_lt.mpr (wi_in h).1, Int32.not_lt.mpr (wi_in h).2⟩
set_option maxRecDepth 100000 in
set_option maxHeartbeats 4000000 in
theorem pw_inject {X : mX} {l : Launch} {M : mM} (hX : FX X) (hJ : Jw M) (a1 a2 a3 a4 a5 : Int32) : Prx X l uLink_inject uMod_inject [.int a1, .int a2, .int a3, .int a4, .int (bz a5)] M Jw := by
  have hJ0 := hJ
  obtain ⟨A, hC, hR, hW⟩ := hJ0
  rcases end_ro a1 with ⟨e, he, rfl⟩ | ⟨h0, h1⟩
  · have hpl := hR.pl he
    by_cases hf : (zP A e).length < 30
    · by_cases k0 : a2 = 0
      · subst k0
        by_cases hw : wi a4 0 15 = 0
        · exact px_s (by decide) (by decide) (ct_Link_inject_nul hC.1 he (sf_0n hw)) (cm_inject_0r hR.1 he (wi15b hw)) hC.1 hJ
        · obtain ⟨j, hj, rfl⟩ := nat_wi (m := 15) (by decide) hw (by decide)
          rcases bz_z a5 with hb | hb
          · rw [hb]
            exact px_c (by decide) (by decide) (ct_injR hC he hf (sfR_0 hC hj (Or.inl rfl) hw)) (fun M1 h => cm_inj_0a h he hj hf) hR (wf_push hW he (frw_0 hj (Or.inl rfl)))
          · rw [hb]
            exact px_c (by decide) (by decide) (ct_injR hC he hf (sfR_0 hC hj (Or.inr rfl) hw)) (fun M1 h => cm_inj_0b h he hj hf) hR (wf_push hW he (frw_0 hj (Or.inr rfl)))
      by_cases k1 : a2 = 1
      · subst k1
        rcases bz_z a5 with hb | hb
        · rw [hb]
          exact px_c (by decide) (by decide) (ct_injR hC he hf (sfR_1 hC (Or.inl rfl))) (fun M1 h => cm_inj_1a h he hf) hR (wf_push hW he (frw_1 (Or.inl rfl)))
        · rw [hb]
          exact px_c (by decide) (by decide) (ct_injR hC he hf (sfR_1 hC (Or.inr rfl))) (fun M1 h => cm_inj_1b h he hf) hR (wf_push hW he (frw_1 (Or.inr rfl)))
      by_cases k3 : a2 = 3
      · subst k3
        exact px_c (by decide) (by decide) (ct_injR hC he hf (sfR_3 hC)) (fun M1 h => cm_inj_3 h he hf) hR (wf_push hW he (frw_o (by decide) (by decide)))
      by_cases k4 : a2 = 4
      · subst k4
        rcases bz_z a5 with hb | hb
        · rw [hb]
          exact px_c (by decide) (by decide) (ct_injR hC he hf (sfR_4 hC)) (fun M1 h => cm_inj_4 h he hf) hR (wf_push hW he (frw_o (by decide) (by decide)))
        · rw [hb]
          exact px_c (by decide) (by decide) (ct_injR hC he hf (sfR_4a hC)) (fun M1 h => cm_inj_4a h he hf) hR (wf_push hW he (frw_o (by decide) (by decide)))
      by_cases k7 : a2 = 7
      · subst k7
        by_cases hw : wi a4 0 15 = 0
        · exact px_s (by decide) (by decide) (ct_Link_inject_nul hC.1 he (sf_7n hw)) (cm_inject_7r hR.1 he (wi15b hw)) hC.1 hJ
        · exact px_c (by decide) (by decide) (ct_injR hC he hf (sfR_7 hw hC)) (fun M1 h => cm_inj_7 h he (wi15a hw).1 (wi15a hw).2 hf) hR (wf_push hW he (frw_o (by decide) (by decide)))
      by_cases k8 : a2 = 8
      · subst k8
        exact px_c (by decide) (by decide) (ct_injR hC he hf (sfR_8 hC)) (fun M1 h => cm_inj_8 h he hf) hR (wf_push hW he (frw_o (by decide) (by decide)))
      have hb : ¬ a2 = 0 ∧ ¬ a2 = 1 ∧ ¬ a2 = 3 ∧ ¬ a2 = 4 ∧ ¬ a2 = 7 ∧ ¬ a2 = 8 := ⟨k0, k1, k3, k4, k7, k8⟩
      by_cases k2 : a2 = 2
      · subst k2
        exact px_s (by decide) (by decide) (ct_Link_inject_nul hC.1 he (sf_2n)) (cm_inject_bad hR.1 he hb) hC.1 hJ
      by_cases k5 : a2 = 5
      · subst k5
        exact px_s (by decide) (by decide) (ct_Link_inject_nul hC.1 he (sf_5n)) (cm_inject_bad hR.1 he hb) hC.1 hJ
      by_cases k6 : a2 = 6
      · subst k6
        exact px_s (by decide) (by decide) (ct_Link_inject_nul hC.1 he (sf_6n)) (cm_inject_bad hR.1 he hb) hC.1 hJ
      · have ho : a2.toInt < 0 ∨ 8 < a2.toInt := by
          have n0 := lv_neT k0 (a := 0) rfl
          have n1 := lv_neT k1 (a := 1) rfl
          have n2 := lv_neT k2 (a := 2) rfl
          have n3 := lv_neT k3 (a := 3) rfl
          have n4 := lv_neT k4 (a := 4) rfl
          have n5 := lv_neT k5 (a := 5) rfl
          have n6 := lv_neT k6 (a := 6) rfl
          have n7 := lv_neT k7 (a := 7) rfl
          have n8 := lv_neT k8 (a := 8) rfl
          omega
        exact px_s (by decide) (by decide) (ct_Link_inject_nul hC.1 he (sf_out ho)) (cm_inject_bad hR.1 he hb) hC.1 hJ
    · exact px_s (by decide) (by decide) (ct_Link_inject_full hC.1 he (by rw [hC.pic he]; exact fun q => hf ((nI_ltI (b := 30) (by omega) (by decide)).mp q))) (cm_inject_full hR.1 he (by rw [hR.pc he]; exact fun q => hf ((nI_ltI (b := 30) (by omega) (by decide)).mp q))) hC.1 hJ
  · exact px_s (by decide) (by decide) (ct_Link_inject_no hC.1 h0 h1) (cm_inject_no hR.1 h0 h1) hC.1 hJ

set_option maxRecDepth 100000 in
set_option maxHeartbeats 4000000 in
theorem pw_frame {X : mX} {l : Launch} {M : mM} (hX : FX X) (hJ : Jw M) (a1 a2 a3 : Int32) : Prx X l uLink_frame uMod_frame [.int a1, .int a2, .int a3] M Jw := by
  have hJ0 := hJ
  obtain ⟨A, hC, hR, hW⟩ := hJ0
  rcases end_ro a1 with ⟨e, he, rfl⟩ | ⟨h0, h1⟩
  · have hpl := hR.pl he
    by_cases hj : a2 < 0 ∨ nI (zP A e).length ≤ a2
    · exact px_s (by decide) (by decide) (ct_Link_frame_0 hC.1 he (by rw [hC.pic he]; exact hj)) (cm_frame_0 hR.1 he (by rw [hR.pc he]; exact hj)) hC.1 hJ
    · have h0 : ¬ a2 < 0 := fun q => hj (Or.inl q)
      have e1 := nI_cl h0
      have b1 := a2.toNatClampNeg_lt
      have hlt : a2.toNatClampNeg < (zP A e).length := by
        rcases Nat.lt_or_ge a2.toNatClampNeg (zP A e).length with q | q
        · exact q
        · exact absurd (Or.inr (by rw [← e1]; exact (nI_leI (by omega) b1).mpr q)) hj
      have hx : (zP A e)[a2.toNatClampNeg]? = some (zP A e)[a2.toNatClampNeg] := List.getElem?_eq_getElem hlt
      rw [← e1]
      exact px_s (by decide) (by decide) (ct_frameR hC he hx) (cm_frameR hR he hx) hC.1 hJ
  · exact px_s (by decide) (by decide) (ct_Link_frame_no hC.1 h0 h1) (cm_frame_no hR.1 h0 h1) hC.1 hJ

set_option maxRecDepth 100000 in
set_option maxHeartbeats 4000000 in
theorem pw_state {X : mX} {l : Launch} {M : mM} (hX : FX X) (hJ : Jw M) (a1 a2 : Int32) : Prx X l uLink_state uMod_state [.int a1, .int a2] M Jw := by
  have hJ0 := hJ
  obtain ⟨A, hC, hR, hW⟩ := hJ0
  rcases end_ro a1 with ⟨e, he, rfl⟩ | ⟨h0, h1⟩
  · by_cases hx : isStr a2
    · obtain ⟨k, hk, rfl⟩ := hx
      exact px_v (by decide) (by decide) (ct_Link_state hC.1 he hk) (cm_state hR.1 he hk) hC.1 hJ ((hR.sta he hk).trans (hC.sI (sc_S (j := 1) he hk (by omega) (by omega))).symm)
    · exact px_s (by decide) (by decide) (ct_Link_state_ns hC.1 he hx) (cm_state_ns hR.1 he hx) hC.1 hJ
  · exact px_s (by decide) (by decide) (ct_Link_state_no hC.1 h0 h1) (cm_state_no hR.1 h0 h1) hC.1 hJ

set_option maxRecDepth 100000 in
set_option maxHeartbeats 4000000 in
theorem pw_window {X : mX} {l : Launch} {M : mM} (hX : FX X) (hJ : Jw M) (a1 a2 a3 : Int32) : Prx X l uLink_window uMod_window [.int a1, .int a2, .int (bz a3)] M Jw := by
  have hJ0 := hJ
  obtain ⟨A, hC, hR, hW⟩ := hJ0
  rcases end_ro a1 with ⟨e, he, rfl⟩ | ⟨h0, h1⟩
  · by_cases hy : a2 = 0
    · subst hy
      obtain ⟨u1, u2, u3⟩ := (wfE hW : WfD A e 0 12).u he
      have hun := hR.un he
      have e5 : 40 - Runread M e = zI A (9 + 80 * e) 5 := by
        rw [hun.1, u2]
        exact nI_sub' (a := 40) hun.2.1
      exact px_v (by decide) (by decide) (ct_Link_window_0 hC.1 he) (cm_window_0 hR.1 he) hC.1 hJ (by rw [hR.ls he, e5, hC.sI (sc_E (j := 4) he (by omega)), hC.sI (sc_E (j := 5) he (by omega))])
    by_cases hx : isStr a2
    · obtain ⟨k, hk, rfl⟩ := hx
      by_cases ha : acZ A e k = 0
      · exact px_v (by decide) (by decide) (ct_Link_window hC.1 he hk) (cm_window hR.1 he hk) hC.1 hJ (by rw [if_pos (show acC M e k = 0 by rw [hC.ac he hk]; exact ha), if_pos (show acA M (12 * e + k) = 0 by rw [hR.ac he hk]; exact ha)])
      · have hs0 := ac_n0 ha
        have hs4 : ¬ zI A (29 + 80 * e + 5 * k) 1 = 4 := fun q => ha ((hR.ac4 he hk hs0).mpr q)
        exact px_v (by decide) (by decide) (ct_Link_window hC.1 he hk) (cm_window hR.1 he hk) hC.1 hJ (by rw [if_neg (show ¬ acC M e k = 0 by rw [hC.ac he hk]; exact ha), if_neg (show ¬ acA M (12 * e + k) = 0 by rw [hR.ac he hk]; exact ha), (hR.win he hk hs0 hs4).1, (hR.win he hk hs0 hs4).2, hC.sI (sc_S (j := 3) he hk (by omega) (by omega)), hC.sI (sc_S (j := 4) he hk (by omega) (by omega))])
    · exact px_s (by decide) (by decide) (ct_Link_window_ns hC.1 he hy hx) (cm_window_ns hR.1 he hy hx) hC.1 hJ
  · exact px_s (by decide) (by decide) (ct_Link_window_no hC.1 h0 h1) (cm_window_no hR.1 h0 h1) hC.1 hJ

set_option maxRecDepth 100000 in
set_option maxHeartbeats 4000000 in
theorem pw_bytes {X : mX} {l : Launch} {M : mM} (hX : FX X) (hJ : Jw M) (a1 a2 a3 : Int32) : Prx X l uLink_bytes uMod_bytes [.int a1, .int a2, .int (bz a3)] M Jw := by
  have hJ0 := hJ
  obtain ⟨A, hC, hR, hW⟩ := hJ0
  rcases end_ro a1 with ⟨e, he, rfl⟩ | ⟨h0, h1⟩
  · by_cases hx : isStr a2
    · obtain ⟨k, hk, rfl⟩ := hx
      exact px_v (by decide) (by decide) (ct_Link_bytes hC.1 he hk) (cm_bytes hR.1 he hk (hR.un he).1 (hR.un he).2.1) hC.1 hJ (by rw [hR.bn he, (hR.wt he hk).1, hC.wc he hk, hC.uc he hk])
    · exact px_s (by decide) (by decide) (ct_Link_bytes_ns hC.1 he hx) (cm_bytes_ns hR.1 he hx) hC.1 hJ
  · exact px_s (by decide) (by decide) (ct_Link_bytes_no hC.1 h0 h1) (cm_bytes_no hR.1 h0 h1) hC.1 hJ

set_option maxRecDepth 100000 in
set_option maxHeartbeats 4000000 in
theorem pw_field {X : mX} {l : Launch} {M : mM} (hX : FX X) (hJ : Jw M) (a1 a2 a3 a4 : Int32) : Prx X l uLink_field uMod_field [.int a1, .int a2, .int a3, .int (bz a4)] M Jw := by
  have hJ0 := hJ
  obtain ⟨A, hC, hR, hW⟩ := hJ0
  rcases end_ro a1 with ⟨e, he, rfl⟩ | ⟨h0, h1⟩
  · by_cases hx : isStr a2
    · obtain ⟨k, hk, rfl⟩ := hx
      have hl := hR.lst he hk
      cases hz : zL A e k with
      | none =>
        have hn := hC.lsN he hk hz
        by_cases hj : a3 < 0
        · exact px_s (by decide) (by decide) (ct_Link_field_nl hC.1 he hk hn) (cm_field_lo hR.1 he hk hj) hC.1 hJ
        · exact px_s (by decide) (by decide) (ct_Link_field_nl hC.1 he hk hn) (cm_field_hi hR.1 he hk (by rw [(hl.1 hz).2]; exact hj)) hC.1 hJ
      | some L =>
        obtain ⟨l1, l2, l3, l4⟩ := hl.2 L hz
        by_cases hj : wi a3 0 (nI L.length - 1) = 0
        · by_cases h0 : a3 < 0
          · exact px_s (by decide) (by decide) (ct_fieldR_no hC he hk hz hj) (cm_field_lo hR.1 he hk h0) hC.1 hJ
          · have hq : ¬ a3 < Rfields M (12 * e + k) := by
              rw [l2]
              intro q
              have e1 := nI_cl h0
              have b1 := a3.toNatClampNeg_lt
              rw [← e1] at q
              have q2 := (nI_ltI b1 (by omega)).mp q
              refine absurd hj ?_
              unfold wi
              rw [if_neg h0, show nI L.length - 1 = nI (L.length - 1) from nI_sub' (a := L.length) (b := 1) (by omega), ← e1, if_neg (fun w => absurd ((nI_ltI (by omega) b1).mp w) (by omega))]
              decide
            exact px_s (by decide) (by decide) (ct_fieldR_no hC he hk hz hj) (cm_field_hi hR.1 he hk hq) hC.1 hJ
        · have hL : 1 ≤ L.length := by
            rcases Nat.lt_or_ge L.length 1 with q | q
            · have h0 : L.length = 0 := by omega
              rw [h0] at hj
              have w1 := wi_in hj
              exact absurd (Int32.le_trans w1.1 w1.2) (by decide)
            · exact q
          rw [show nI L.length - 1 = nI (L.length - 1) from nI_sub' (a := L.length) (b := 1) hL] at hj
          obtain ⟨j, hj1, rfl⟩ := nat_wi (by omega) hj (by decide)
          have hx : L[j]? = some L[j] := List.getElem?_eq_getElem (by omega)
          exact px_v (by decide) (by decide) (ct_fieldR hC he hk hz hx) (cm_field hR.1 he hk l2 l3 (by omega)) hC.1 hJ (by rw [(l4 j _ hx).1, (l4 j _ hx).2])
    · exact px_s (by decide) (by decide) (ct_Link_field_ns hC.1 he hx) (cm_field_ns hR.1 he hx) hC.1 hJ
  · exact px_s (by decide) (by decide) (ct_Link_field_no hC.1 h0 h1) (cm_field_no hR.1 h0 h1) hC.1 hJ

set_option maxRecDepth 100000 in
set_option maxHeartbeats 4000000 in
theorem pw_table {X : mX} {l : Launch} {M : mM} (hX : FX X) (hJ : Jw M) (a1 a2 a3 : Int32) : Prx X l uLink_table uMod_table [.int a1, .int (bz a2), .int a3] M Jw := by
  have hJ0 := hJ
  obtain ⟨A, hC, hR, hW⟩ := hJ0
  rcases end_ro a1 with ⟨e, he, rfl⟩ | ⟨h0, h1⟩
  · rcases bz_z a2 with hb | hb
    · rw [hb]
      have tC := hC.tb he (show 0 < 2 by decide)
      have tR := hR.tb he (show 0 < 2 by decide)
      obtain ⟨c1, c2, c3, c4, c5⟩ := tC
      obtain ⟨r1, r2, r3, r4⟩ := tR
      have d1 : mI M (20 + 80 * e) 3 = nI (zB A e 1).1.length := by
        have := (hC.tb he (show 1 < 2 by decide)).1
        rw [show 15 + 80 * e + 5 * 1 = 20 + 80 * e by omega] at this
        exact this
      rw [show 15 + 80 * e + 5 * 0 = 15 + 80 * e by omega] at c1 c3 c4
      rw [show 17 + 80 * e + 5 * 0 = 17 + 80 * e by omega] at c5
      by_cases j2 : a3 = -2
      · subst j2
        exact px_v (by decide) (by decide) (ct_Link_table_m2 hC.1 he) (cm_table_m2a hR.1 he) hC.1 hJ (by rw [if_pos rfl]; exact r3.trans c4.symm)
      by_cases j1 : a3 = -1
      · subst j1
        exact px_v (by decide) (by decide) (ct_Link_table_m1 hC.1 he) (cm_table_m1a hR.1 he r1 (by omega)) hC.1 hJ (by have q1 := suA_take (hR.tb he (show 0 < 2 by decide)) (zB A e 0).1.length (Nat.le_refl _); rw [List.take_length] at q1; rw [if_pos rfl]; exact q1.trans c3.symm)
      by_cases jl : -2 ≤ a3
      · have hj : ¬ a3 < 0 := by
          have n1 := lv_neT j1 (a := -1) rfl
          have n2 := lv_neT j2 (a := -2) rfl
          rw [Int32.le_iff_toInt_le] at jl
          rw [Int32.lt_iff_toInt_lt]
          have e1 : (-2 : Int32).toInt = -2 := by decide
          have e2 : (0 : Int32).toInt = 0 := by decide
          omega
        by_cases hh : nI (zB A e 0).1.length ≤ a3
        · exact px_s (by decide) (by decide) (ct_tab_hi0 hC.1 he hj (by rw [show mI M (15 + 80 * e) 3 = nI (zB A e 0).1.length from c1]; exact hh)) (cm_table_hia hR.1 he hj (by rw [r1]; exact hh)) hC.1 hJ
        · have e1 := nI_cl hj
          have b1 := a3.toNatClampNeg_lt
          have hlt : a3.toNatClampNeg < (zB A e 0).1.length := by
            rcases Nat.lt_or_ge a3.toNatClampNeg (zB A e 0).1.length with q | q
            · exact q
            · exact absurd (by rw [← e1]; exact (nI_leI (by omega) b1).mpr q) hh
          have hx : (zB A e 0).1[a3.toNatClampNeg]? = some (zB A e 0).1[a3.toNatClampNeg] := List.getElem?_eq_getElem hlt
          rw [← e1]
          exact px_v (by decide) (by decide) (ct_Link_table_in hC.1 he (hC.tb he (show 0 < 2 by decide)).1 d1 (hC.tb he (show 0 < 2 by decide)).2.1 (hC.tb he (show 1 < 2 by decide)).2.1 (by rw [if_pos rfl]; exact hlt)) (cm_table_ina hR.1 he r1 (by omega) hlt) hC.1 hJ (by rw [if_pos rfl]; exact (r4 _ _ hx).2.trans (c5 _ _ hx).2.1.symm)
      · exact px_s (by decide) (by decide) (ct_Link_table_lo hC.1 he jl) (cm_table_lo hR.1 he jl) hC.1 hJ
    · rw [hb]
      have tC := hC.tb he (show 1 < 2 by decide)
      have tR := hR.tb he (show 1 < 2 by decide)
      obtain ⟨c1, c2, c3, c4, c5⟩ := tC
      obtain ⟨r1, r2, r3, r4⟩ := tR
      have d1 : mI M (20 + 80 * e) 3 = nI (zB A e 1).1.length := by
        have := (hC.tb he (show 1 < 2 by decide)).1
        rw [show 15 + 80 * e + 5 * 1 = 20 + 80 * e by omega] at this
        exact this
      rw [show 15 + 80 * e + 5 * 1 = 20 + 80 * e by omega] at c1 c3 c4
      rw [show 17 + 80 * e + 5 * 1 = 22 + 80 * e by omega] at c5
      by_cases j2 : a3 = -2
      · subst j2
        exact px_v (by decide) (by decide) (ct_Link_table_m2 hC.1 he) (cm_table_m2b hR.1 he) hC.1 hJ (by rw [if_neg (show ¬ (1 : Int32) = 0 by decide)]; exact r3.trans c4.symm)
      by_cases j1 : a3 = -1
      · subst j1
        exact px_v (by decide) (by decide) (ct_Link_table_m1 hC.1 he) (cm_table_m1b hR.1 he r1 (by omega)) hC.1 hJ (by have q1 := suA_take (hR.tb he (show 1 < 2 by decide)) (zB A e 1).1.length (Nat.le_refl _); rw [List.take_length] at q1; rw [if_neg (show ¬ (1 : Int32) = 0 by decide)]; exact q1.trans c3.symm)
      by_cases jl : -2 ≤ a3
      · have hj : ¬ a3 < 0 := by
          have n1 := lv_neT j1 (a := -1) rfl
          have n2 := lv_neT j2 (a := -2) rfl
          rw [Int32.le_iff_toInt_le] at jl
          rw [Int32.lt_iff_toInt_lt]
          have e1 : (-2 : Int32).toInt = -2 := by decide
          have e2 : (0 : Int32).toInt = 0 := by decide
          omega
        by_cases hh : nI (zB A e 1).1.length ≤ a3
        · exact px_s (by decide) (by decide) (ct_tab_hi1 hC.1 he hj (by rw [show mI M (20 + 80 * e) 3 = nI (zB A e 1).1.length from c1]; exact hh)) (cm_table_hib hR.1 he hj (by rw [r1]; exact hh)) hC.1 hJ
        · have e1 := nI_cl hj
          have b1 := a3.toNatClampNeg_lt
          have hlt : a3.toNatClampNeg < (zB A e 1).1.length := by
            rcases Nat.lt_or_ge a3.toNatClampNeg (zB A e 1).1.length with q | q
            · exact q
            · exact absurd (by rw [← e1]; exact (nI_leI (by omega) b1).mpr q) hh
          have hx : (zB A e 1).1[a3.toNatClampNeg]? = some (zB A e 1).1[a3.toNatClampNeg] := List.getElem?_eq_getElem hlt
          rw [← e1]
          exact px_v (by decide) (by decide) (ct_Link_table_in hC.1 he (hC.tb he (show 0 < 2 by decide)).1 d1 (hC.tb he (show 0 < 2 by decide)).2.1 (hC.tb he (show 1 < 2 by decide)).2.1 (by rw [if_neg (show ¬ (1 : Int32) = 0 by decide)]; exact hlt)) (cm_table_inb hR.1 he r1 (by omega) hlt) hC.1 hJ (by rw [if_neg (show ¬ (1 : Int32) = 0 by decide)]; exact (r4 _ _ hx).2.trans (c5 _ _ hx).2.1.symm)
      · exact px_s (by decide) (by decide) (ct_Link_table_lo hC.1 he jl) (cm_table_lo hR.1 he jl) hC.1 hJ
  · exact px_s (by decide) (by decide) (ct_Link_table_no hC.1 h0 h1) (cm_table_no hR.1 h0 h1) hC.1 hJ

set_option maxRecDepth 100000 in
set_option maxHeartbeats 4000000 in
theorem pw_down {X : mX} {l : Launch} {M : mM} (hX : FX X) (hJ : Jw M) (a1 : Int32) : Prx X l uLink_down uMod_down [.int a1] M Jw := by
  have hJ0 := hJ
  obtain ⟨A, hC, hR, hW⟩ := hJ0
  rcases end_ro a1 with ⟨e, he, rfl⟩ | ⟨h0, h1⟩
  · exact px_v (by decide) (by decide) (ct_Link_down hC.1 he) (cm_down hR.1 he) hC.1 hJ ((hR.dn he).trans (hC.sI (sc_E (j := 3) he (by omega))).symm)
  · exact px_s (by decide) (by decide) (ct_Link_down_no h0 h1 hC.1.link) (cm_down_no hR.1 h0 h1) hC.1 hJ

theorem pw_all {X : mX} {l : Launch} {M : mM} (hX : FX X) (hJ : Jw M) : AllPr X l M Jw := ⟨pw_header hX hJ, pw_request hX hJ, pw_respond hX hJ, pw_write hX hJ, pw_pump hX hJ, pw_read hX hJ, pw_reset hX hJ, pw_setting hX hJ, pw_deliver hX hJ, pw_inject hX hJ, pw_frame hX hJ, pw_state hX hJ, pw_window hX hJ, pw_bytes hX hJ, pw_field hX hJ, pw_table hX hJ, pw_down hX hJ⟩

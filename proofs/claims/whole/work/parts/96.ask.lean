theorem cs_Link_157 : cV "InterleavedLink" 157 uFrame_part 1 := ⟨⟨Or.inl (gW_in 827 (by decide +kernel) rfl), (gW_in 76 (by decide +kernel) rfl), (gW_in 830 (by decide +kernel) rfl), ⟨by decide, by decide⟩, by decide +kernel⟩, (gW_in 828 (by decide +kernel) rfl), (gW_in 829 (by decide +kernel) rfl)⟩
theorem fs_Link_180 : fS "InterleavedLink" 180 3 0 := ⟨"InterleavedLink$FieldList", T_FList, 4, cf_FList, by decide, Or.inl (gW_in 122 (by decide +kernel) rfl)⟩
theorem fs_Link_176 : fS "InterleavedLink" 176 3 1 := ⟨"InterleavedLink$FieldList", T_FList, 4, cf_FList, by decide, Or.inl (gW_in 125 (by decide +kernel) rfl)⟩
/-! ===== what is asked of the state; frames that nobody sent ===== -/
theorem sfR_3 {X : mX} {l : Launch} {M : mM} {A : zA} {s x z : Int32} (h : RC M A) : Ct X l uLink_strangeFrame (rn 3 61 6 45) [.int 3, .int s, .int x, .int z] M (nFr A M (3, s, x, 0, 0, [], [])) := (sf_3).post (by rintro r M' ⟨rfl, rfl⟩; exact nFr.mk h (fun q => absurd q (by decide)) (fun q => absurd q (by decide)))
theorem sfR_8 {X : mX} {l : Launch} {M : mM} {A : zA} {s x z : Int32} (h : RC M A) : Ct X l uLink_strangeFrame (rn 3 61 6 45) [.int 8, .int s, .int x, .int z] M (nFr A M (8, s, x, 0, 0, [], [])) := (sf_8).post (by rintro r M' ⟨rfl, rfl⟩; exact nFr.mk h (fun q => absurd q (by decide)) (fun q => absurd q (by decide)))
theorem sfR_7 {X : mX} {l : Launch} {M : mM} {A : zA} {s x z : Int32} (hx : ¬ wi x 0 15 = 0) (h : RC M A) : Ct X l uLink_strangeFrame (rn 3 61 6 45) [.int 7, .int s, .int x, .int z] M (nFr A M (7, 0, x, 0, 0, [], [])) := (sf_7 hx).post (by rintro r M' ⟨rfl, rfl⟩; exact nFr.mk h (fun q => absurd q (by decide)) (fun q => absurd q (by decide)))
theorem sfR_4 {X : mX} {l : Launch} {M : mM} {A : zA} {s x : Int32} (h : RC M A) : Ct X l uLink_strangeFrame (rn 3 61 6 45) [.int 4, .int s, .int x, .int 0] M (nFr A M (4, 0, x, 0, s, [], [])) := (sf_4).post (by rintro r M' ⟨rfl, rfl⟩; exact nFr.mk h (fun q => absurd q (by decide)) (fun q => absurd q (by decide)))
theorem sfR_4a {X : mX} {l : Launch} {M : mM} {A : zA} {s x : Int32} (h : RC M A) : Ct X l uLink_strangeFrame (rn 3 61 6 45) [.int 4, .int s, .int x, .int 1] M (nFr A M (4, 0, 0, 1, 0, [], [])) := (sf_4a).post (by rintro r M' ⟨rfl, rfl⟩; exact nFr.mk h (fun q => absurd q (by decide)) (fun q => absurd q (by decide)))
theorem sfR_0 {X : mX} {l : Launch} {M : mM} {A : zA} {s z : Int32} {j : Nat} (h : RC M A) (hj : j ≤ 15) (hz : z = 0 ∨ z = 1) (hx : ¬ wi (nI j) 0 15 = 0) : Ct X l uLink_strangeFrame (rn 3 61 6 45) [.int 0, .int s, .int (nI j), .int z] M (nFr A M (0, s, nI j, z, 0, List.replicate j 0, [])) := (sf_0 hj hz hx).post (by
  rintro r M' ⟨rfl, rfl⟩
  have c1 : Chg M (newM M 101 j) no2 no2 := Chg.rf.new
  have h1 : RC (newM M 101 j) A := h.grow c1
  have hp : PayC (newM M 101 j) (mN M) (List.replicate j 0) := ⟨h.1.1, Nat.lt_succ_self _, by rw [mT_new, List.length_replicate], fun i y hy => by
    have : y = 0 := (List.mem_replicate.mp (List.mem_of_getElem? hy)).2
    rw [this]
    exact (if_pos rfl : (if mN M = mN M then (0 : Int32) else mI M (mN M) i) = 0)⟩
  obtain ⟨a, g1, g2, g3, g4⟩ := nFr.mk (kd := 0) (s := s) (am := nI j) (fl := z) (d := 0) (pl := some (mN M)) (bl := none) (S := []) h1 (fun _ => ⟨_, rfl, hp⟩) (fun q => absurd q (by decide))
  exact ⟨a, g1, g2, g3, (c1.mono (fun _ _ q => q.elim) fun _ _ q => q.elim).tr g4⟩)
theorem blk1_C {M : mM} {x : Int32} (hN : 223 ≤ mN M) : BlkC 223 (blk1 M x) (mN M) [(1, x, 0, 0)] := by
  refine ⟨by simp [blk1, mkBlk, newM, setI, setR, mT, mN]; rw [if_neg (by omega), if_neg (by omega), if_neg (by omega)], by simp [blk1, mkBlk, newM, setI, setR, mI, mN, up2], ?_, 1, mN M + 1, ⟨hN, Nat.lt_succ_self _, by simp [blk1, mkBlk, newM, setI, setR, mN], Nat.le_refl _, by decide⟩, fun i hi => ?_, fun j s hs => ?_⟩
  · simp [blk1, mkBlk, newM, setI, setR, mI, mN, up2, sumS]
  · have h4 : i = 0 ∨ i = 1 ∨ i = 2 ∨ i = 3 := by omega
    rcases h4 with q | q | q | q <;> subst q <;> simp [blk1, mkBlk, newM, setI, setR, mT, mR, mN, up2, Nat.add_assoc]
  · have hj := (List.getElem?_eq_some_iff.mp hs).1
    have hj0 : j = 0 := by simp at hj; omega
    subst hj0
    simp at hs
    subst hs
    simp [blk1, mkBlk, newM, setI, setR, mI, mN, up2, Nat.add_assoc]
theorem blk1_chg {M : mM} {x : Int32} : Chg M (blk1 M x) no2 no2 := by
  have h1 : Chg M (newM M 11 6) no2 no2 := Chg.rf.new
  have hm : Chg M (mkBlk (newM M 11 6) (mN M) 1) no2 no2 := (((((((((h1.setI (Or.inr (Nat.le_refl _))).setI (Or.inr (Nat.le_refl _))).new).setR (Or.inr (Nat.le_refl _))).new).setR (Or.inr (Nat.le_refl _))).new).setR (Or.inr (Nat.le_refl _))).new).setR (Or.inr (Nat.le_refl _))
  exact (((((hm.setI (Or.inr (by omega))).setI (Or.inr (by omega))).setI (Or.inr (by omega))).setI (Or.inr (by omega))).setI (Or.inr (Nat.le_refl _))).setI (Or.inr (Nat.le_refl _))
theorem blk1_N {M : mM} {x : Int32} : mN (blk1 M x) = mN M + 5 := rfl
theorem sfR_1 {X : mX} {l : Launch} {M : mM} {A : zA} {s x z : Int32} (h : RC M A) (hz : z = 0 ∨ z = 1) : Ct X l uLink_strangeFrame (rn 3 61 6 45) [.int 1, .int s, .int x, .int z] M (nFr A M (hfr s z [(1, x, 0, 0)])) := (sf_1 hz).post (by
  rintro r M' ⟨rfl, rfl⟩
  have c1 := blk1_chg (M := M) (x := x)
  have h1 : RC (blk1 M x) A := h.grow c1
  have hb := blk1_C (M := M) (x := x) h.1.1
  have e1 : (0 : Int32) + x = sumS [((1 : Int32), x, (0 : Int32), (0 : Int32))] := Int32.add_comm 0 x
  obtain ⟨a, g1, g2, g3, g4⟩ := nFr.mk (kd := 1) (s := s) (am := nI 1) (fl := z) (d := sumS [((1 : Int32), x, (0 : Int32), (0 : Int32))]) (pl := none) (bl := some (mN M)) (by_ := []) h1 (fun q => absurd q (by decide)) (fun _ => ⟨_, rfl, hb⟩)
  rw [e1]
  exact ⟨a, g1, g2, g3, (c1.mono (fun _ _ q => q.elim) fun _ _ q => q.elim).tr g4⟩)
theorem ct_fullI {X : mX} {l : Launch} {M : mM} {A : zA} {e : Nat} (h : RC M A) (he : e < 2) : Ct X l uPipe_isFull (rk 0 0) [.ref (4 + 2 * e)] M (fun r M' => r = some (.int (if 30 ≤ (zP A e).length then 1 else 0)) ∧ M' = M) := by
  have := ct_fullR (X := X) (l := l) (e := 1 - e) h (by omega)
  rw [show 6 - 2 * (1 - e) = 4 + 2 * e by omega, show 1 - (1 - e) = e by omega] at this
  exact this
theorem ct_addIR {X : mX} {l : Launch} {M : mM} {A : zA} {e a : Nat} {f : zF} (h : RC M A) (he : e < 2) (hf : FrC M a f) (hn : (zP A e).length < 47) : Ct X l uPipe_add (rk 0 0) [.ref (4 + 2 * e), .ref a] M (fun r M' => r = none ∧ RC M' (push A e f) ∧ Chg M M' cP cP) := by
  have := ct_addR (X := X) (l := l) (e := 1 - e) h (by omega) hf (by rw [show 1 - (1 - e) = e by omega]; exact hn)
  rw [show 6 - 2 * (1 - e) = 4 + 2 * e by omega, show 1 - (1 - e) = e by omega] at this
  exact this
set_option maxRecDepth 100000 in
set_option maxHeartbeats 4000000 in
theorem ct_injR {X : mX} {l : Launch} {M : mM} {A : zA} {e : Nat} {f : zF} {kd s x z : Int32} (hR : RC M A) (he : e < 2) (h30 : (zP A e).length < 30) (hG : Ct X l uLink_strangeFrame (rn 3 61 6 45) [.int kd, .int s, .int x, .int z] M (nFr A M f)) : Ct X l uLink_inject (rn 4 86 6 45) [.ref 3, .int (nI e), .int kd, .int s, .int x, .int z] M (fun r M' => r = some (.int 1) ∧ RC M' (push A e f) ∧ Chg M M' cP cP) := by
  refine Ct.of (by decide) (Nat.le_of_ble_eq_true rfl) ?_
  show G X l uLink_inject (rn 4 86 6 45) 6 45 M 0 [some (.ref 3), some (.int (nI e)), some (.int kd), some (.int s), some (.int x), some (.int z), none, none] [] _
  have hC : Chg M M cP cP := Chg.rf
  refine g_aload_n 0 dLink_inject_0 rfl ?_
  refine g_iload_n 1 dLink_inject_1 rfl ?_
  refine g_callV 2 [_] dLink_inject_2 cs_Link_128 rfl (ci := 0) rfl (by decide) hR.1.link rfl ⟨(Nat.le_of_ble_eq_true rfl), (Nat.le_of_ble_eq_true rfl)⟩ (Nat.le_of_ble_eq_true rfl) (ct_endOf hR.1 he) (Nat.le_of_ble_eq_true rfl) (Nat.le_of_ble_eq_true rfl) ?_
  rintro _ M2 ⟨rfl, hM2⟩
  rw [hM2]
  clear hM2 M2
  refine g_astore 5 dLink_inject_5 (by decide) rfl ?_
  refine g_aload 7 dLink_inject_7 rfl ?_
  refine g_ifnull 9 dLink_inject_9 ?_
  refine g_aload 12 dLink_inject_12 rfl ?_
  refine g_getr 14 2 1 dLink_inject_14 fs_Link_131 rfl (hR.1.tEnd he) (hR.1.rEnd1 he) ?_
  refine g_callV 17 [] dLink_inject_17 cs_Link_51 rfl (ci := 1) rfl (by decide) (hR.1.tPipe he) rfl ⟨(Nat.le_of_ble_eq_true rfl), (Nat.le_of_ble_eq_true rfl)⟩ (Nat.le_of_ble_eq_true rfl) (ct_fullI hR he) (Nat.le_of_ble_eq_true rfl) (Nat.le_of_ble_eq_true rfl) ?_
  rintro _ M2 ⟨rfl, hM2⟩
  rw [hM2]
  clear hM2 M2
  refine g_if_eq 20 25 dLink_inject_20 rfl (fun h20 => ?_) (fun h20 => ?_)
  · refine g_iload_n 25 dLink_inject_25 rfl ?_
    refine g_iload_n 26 dLink_inject_26 rfl ?_
    refine g_iload 27 dLink_inject_27 rfl ?_
    refine g_iload 29 dLink_inject_29 rfl ?_
    refine g_callS 31 [_, _, _, _] dLink_inject_31 cs_Link_146 rfl rfl ⟨(Nat.le_of_ble_eq_true rfl), (Nat.le_of_ble_eq_true rfl)⟩ (Nat.le_of_ble_eq_true rfl) (hG) (Nat.le_of_ble_eq_true rfl) (Nat.le_of_ble_eq_true rfl) ?_
    rintro _ M1 ⟨a, rfl, hF, hR1, hc⟩
    have hC1 := hC.tr hc
    refine g_astore 34 dLink_inject_34 (by decide) rfl ?_
    refine g_aload 36 dLink_inject_36 rfl ?_
    refine g_ifnonnull 38 43 dLink_inject_38 rfl ?_
    refine g_aload 43 dLink_inject_43 rfl ?_
    refine g_getr 45 2 1 dLink_inject_45 fs_Link_131 rfl (hR1.1.tEnd he) (hR1.1.rEnd1 he) ?_
    refine g_aload 48 dLink_inject_48 rfl ?_
    refine g_callV 50 [_] dLink_inject_50 cs_Link_150 rfl (ci := 1) rfl (by decide) (hR1.1.tPipe he) rfl ⟨(Nat.le_of_ble_eq_true rfl), (Nat.le_of_ble_eq_true rfl)⟩ (Nat.le_of_ble_eq_true rfl) (ct_addIR hR1 he hF (by omega)) (Nat.le_of_ble_eq_true rfl) (Nat.le_of_ble_eq_true rfl) ?_
    rintro _ M2 ⟨rfl, hR2, hc⟩
    have hC2 := hC1.tr hc
    refine g_iconst 53 1 dLink_inject_53 rfl ?_
    exact g_zret 54 dLink_inject_54 rfl (by decide) ⟨rfl, hR2, hC2⟩
  · exact absurd (if_neg (by omega)) h20

/-- one of a frame's five parts -/
def ptZ (f : zF) (w : Int32) : Int32 := if w = 0 then f.1 else if w = 1 then f.2.1 else if w = 2 then f.2.2.1 else if w = 3 then (if f.2.2.2.1 = 0 then 0 else 1) else if w = 4 then f.2.2.2.2.1 else -1
theorem FrC.pt {M : mM} {a : Nat} {f : zF} (h : FrC M a f) (w : Int32) : ptC M a w = ptZ f w := by
  obtain ⟨_, _, _, h0, h1, h2, h3, h4, _⟩ := h
  unfold ptC ptZ
  rw [h0, h1, h2, h3, h4]
set_option maxRecDepth 100000 in
set_option maxHeartbeats 4000000 in
theorem ct_frameR {X : mX} {l : Launch} {M : mM} {A : zA} {e j : Nat} {f : zF} {w : Int32} (hR : RC M A) (he : e < 2) (hj : (zP A e)[j]? = some f) : Ct X l uLink_frame (rk 1 21) [.ref 3, .int (nI e), .int (nI j), .int w] M (fun r M' => r = some (.int (ptZ f w)) ∧ M' = M) := by
  refine Ct.of (by decide) (Nat.le_of_ble_eq_true rfl) ?_
  show G X l uLink_frame (rk 1 21) 0 0 M 0 [some (.ref 3), some (.int (nI e)), some (.int (nI j)), some (.int w), none, none] [] _
  have hC : Chg M M cP cP := Chg.rf
  obtain ⟨i, hi, hl, p1, p2, p3⟩ := hR.2.2.2.1 e he
  obtain ⟨a, ha, hF⟩ := p3 j f hj
  have hjl := (List.getElem?_eq_some_iff.mp hj).1
  refine g_aload_n 0 dLink_frame_0 rfl ?_
  refine g_iload_n 1 dLink_frame_1 rfl ?_
  refine g_callV 2 [_] dLink_frame_2 cs_Link_128 rfl (ci := 0) rfl (by decide) hR.1.link rfl ⟨(Nat.le_of_ble_eq_true rfl), (Nat.le_of_ble_eq_true rfl)⟩ (Nat.le_of_ble_eq_true rfl) (ct_endOf hR.1 he) (Nat.le_of_ble_eq_true rfl) (Nat.le_of_ble_eq_true rfl) ?_
  rintro _ M2 ⟨rfl, hM2⟩
  rw [hM2]
  clear hM2 M2
  refine g_astore 5 dLink_frame_5 (by decide) rfl ?_
  refine g_aload 7 dLink_frame_7 rfl ?_
  refine g_ifnonnull 9 16 dLink_frame_9 rfl ?_
  refine g_aload 16 dLink_frame_16 rfl ?_
  refine g_getr 18 2 1 dLink_frame_18 fs_Link_131 rfl (hR.1.tEnd he) (hR.1.rEnd1 he) ?_
  refine g_iload_n 21 dLink_frame_21 rfl ?_
  refine g_callV 22 [_] dLink_frame_22 cs_Link_153 rfl (ci := 1) rfl (by decide) (hR.1.tPipe he) rfl ⟨(Nat.le_of_ble_eq_true rfl), (Nat.le_of_ble_eq_true rfl)⟩ (Nat.le_of_ble_eq_true rfl) (ct_pget (hR.1.tPipe he) (hR.1.rPipe0 he) (hR.1.TRow he) p1 p2 hjl hi hl ha) (Nat.le_of_ble_eq_true rfl) (Nat.le_of_ble_eq_true rfl) ?_
  rintro _ M2 ⟨rfl, hM2⟩
  rw [hM2]
  clear hM2 M2
  refine g_astore 25 dLink_frame_25 (by decide) rfl ?_
  refine g_aload 27 dLink_frame_27 rfl ?_
  refine g_ifnonnull 29 36 dLink_frame_29 rfl ?_
  refine g_aload 36 dLink_frame_36 rfl ?_
  refine g_iload_n 38 dLink_frame_38 rfl ?_
  refine g_callV 39 [_] dLink_frame_39 cs_Link_157 rfl (ci := 12) rfl (by decide) hF.2.2.1 rfl ⟨(Nat.le_of_ble_eq_true rfl), (Nat.le_of_ble_eq_true rfl)⟩ (Nat.le_of_ble_eq_true rfl) (ct_Fr_part hF.2.2.1) (Nat.le_of_ble_eq_true rfl) (Nat.le_of_ble_eq_true rfl) ?_
  rintro _ M2 ⟨rfl, hM2⟩
  rw [hM2]
  clear hM2 M2
  exact g_iret 42 dLink_frame_42 rfl ⟨by rw [hF.pt], rfl⟩

set_option maxRecDepth 100000 in
set_option maxHeartbeats 4000000 in
theorem cm_fr_0 {X : mX} {l : Launch} {M : mM} {A : zA} {e j : Nat} {f : zF} (hR : RR M A) (he : e < 2) (hj : (zP A e)[j]? = some f) : Ct X l uMod_frame (rk 1 20) [.ref 169, .int (nI e), .int (nI j), .int 0] M (fun r M' => r = some (.int f.1) ∧ M' = M) := by
  refine Ct.of (by decide) (Nat.le_of_ble_eq_true rfl) ?_
  show G X l uMod_frame (rk 1 20) 0 0 M 0 [some (.ref 169), some (.int (nI e)), some (.int (nI j)), some (.int 0), none, none, none] [] _
  obtain ⟨h, hh, hl, p1, p2, p3⟩ := hR.2.2.2.2.1 e he
  have hF := p3 j f hj
  have hjl := (List.getElem?_eq_some_iff.mp hj).1
  have hS := hR.1
  refine g_iload_n 0 dMod_frame_0 rfl ?_
  refine g_callS 1 [_] dMod_frame_1 cs_Mod_171 rfl rfl ⟨(Nat.le_of_ble_eq_true rfl), (Nat.le_of_ble_eq_true rfl)⟩ (Nat.le_of_ble_eq_true rfl) (ct_isEnd_y he) (Nat.le_of_ble_eq_true rfl) (Nat.le_of_ble_eq_true rfl) ?_
  rintro _ M2 ⟨rfl, hM2⟩
  rw [hM2]
  clear hM2 M2
  refine g_if_eq 4 30 dMod_frame_4 rfl (fun h4 => ?_) (fun h4 => ?_)
  · exact absurd h4 (by decide)
  · refine g_iload_n 7 dMod_frame_7 rfl ?_
    refine g_if_ltN 8 30 dMod_frame_8 rfl (by omega) (fun h8 => ?_) (fun h8 => ?_)
    · exact absurd h8 (Nat.not_lt_zero _)
    · refine g_iload_n 11 dMod_frame_11 rfl ?_
      refine g_aload_n 12 dMod_frame_12 rfl ?_
      refine g_getr 13 10 2 dMod_frame_13 fs_Mod_16 rfl hS.mod hS.R_count ?_
      refine g_iload_n 16 dMod_frame_16 rfl ?_
      refine g_ialdN 17 dMod_frame_17 hS.T_count (by omega) (by decide) ?_
      refine g_top (nI ((zP A e).length)) (p2) ?_
      refine g_icmp_geN 18 30 dMod_frame_18 rfl (by omega) (by omega) (fun h18 => ?_) (fun h18 => ?_)
      · exact absurd h18 (by omega)
      · refine g_iload_n 21 dMod_frame_21 rfl ?_
        refine g_if_lt 22 30 dMod_frame_22 rfl (fun h22 => ?_) (fun h22 => ?_)
        · exact absurd h22 (by decide)
        · refine g_iload_n 25 dMod_frame_25 rfl ?_
          refine g_iconst 26 4 dMod_frame_26 rfl ?_
          refine g_icmp_le 27 32 dMod_frame_27 rfl (fun h27 => ?_) (fun h27 => ?_)
          · refine g_bipush 32 (nI 48) dMod_frame_32 rfl ?_
            refine g_iload_n 34 dMod_frame_34 rfl ?_
            refine g_imulN 35 dMod_frame_35 ?_
            refine g_aload_n 36 dMod_frame_36 rfl ?_
            refine g_getr 37 10 1 dMod_frame_37 fs_Mod_13 rfl hS.mod hS.R_head ?_
            refine g_iload_n 40 dMod_frame_40 rfl ?_
            refine g_ialdN 41 dMod_frame_41 hS.T_head (by omega) (by decide) ?_
            refine g_top (nI (h)) (p1) ?_
            refine g_iload_n 42 dMod_frame_42 rfl ?_
            refine g_iaddN 43 dMod_frame_43 ?_
            refine g_bipush 44 (nI 48) dMod_frame_44 rfl ?_
            refine g_iremN 46 dMod_frame_46 (by omega) (by decide) (by decide) ?_
            refine g_iaddN 47 dMod_frame_47 ?_
            refine g_istore 48 dMod_frame_48 (by decide) rfl ?_
            refine g_iload_n 50 dMod_frame_50 rfl ?_
            refine g_iconst 51 3 dMod_frame_51 rfl ?_
            refine g_icmp_ge 52 92 dMod_frame_52 rfl (fun h52 => ?_) (fun h52 => ?_)
            · exact absurd h52 (by decide)
            · refine g_iload_n 55 dMod_frame_55 rfl ?_
              refine g_if_ne 56 69 dMod_frame_56 rfl (fun h56 => ?_) (fun h56 => ?_)
              · exact absurd rfl h56
              · refine g_aload_n 59 dMod_frame_59 rfl ?_
                refine g_getr 60 10 3 dMod_frame_60 fs_Mod_19 rfl hS.mod hS.R_kinds ?_
                refine g_iload 63 dMod_frame_63 rfl ?_
                refine g_ialdN 65 dMod_frame_65 hS.T_kinds (by omega) (by decide) ?_
                refine g_top (f.1) (hF.1) ?_
                refine g_goto 66 91 dMod_frame_66 rfl ?_
                exact g_iret 91 dMod_frame_91 rfl ⟨rfl, rfl⟩
          · exact absurd (by decide) h27

set_option maxRecDepth 100000 in
set_option maxHeartbeats 4000000 in
theorem cm_fr_1 {X : mX} {l : Launch} {M : mM} {A : zA} {e j : Nat} {f : zF} (hR : RR M A) (he : e < 2) (hj : (zP A e)[j]? = some f) : Ct X l uMod_frame (rk 1 20) [.ref 169, .int (nI e), .int (nI j), .int 1] M (fun r M' => r = some (.int f.2.1) ∧ M' = M) := by
  refine Ct.of (by decide) (Nat.le_of_ble_eq_true rfl) ?_
  show G X l uMod_frame (rk 1 20) 0 0 M 0 [some (.ref 169), some (.int (nI e)), some (.int (nI j)), some (.int 1), none, none, none] [] _
  obtain ⟨h, hh, hl, p1, p2, p3⟩ := hR.2.2.2.2.1 e he
  have hF := p3 j f hj
  have hjl := (List.getElem?_eq_some_iff.mp hj).1
  have hS := hR.1
  refine g_iload_n 0 dMod_frame_0 rfl ?_
  refine g_callS 1 [_] dMod_frame_1 cs_Mod_171 rfl rfl ⟨(Nat.le_of_ble_eq_true rfl), (Nat.le_of_ble_eq_true rfl)⟩ (Nat.le_of_ble_eq_true rfl) (ct_isEnd_y he) (Nat.le_of_ble_eq_true rfl) (Nat.le_of_ble_eq_true rfl) ?_
  rintro _ M2 ⟨rfl, hM2⟩
  rw [hM2]
  clear hM2 M2
  refine g_if_eq 4 30 dMod_frame_4 rfl (fun h4 => ?_) (fun h4 => ?_)
  · exact absurd h4 (by decide)
  · refine g_iload_n 7 dMod_frame_7 rfl ?_
    refine g_if_ltN 8 30 dMod_frame_8 rfl (by omega) (fun h8 => ?_) (fun h8 => ?_)
    · exact absurd h8 (Nat.not_lt_zero _)
    · refine g_iload_n 11 dMod_frame_11 rfl ?_
      refine g_aload_n 12 dMod_frame_12 rfl ?_
      refine g_getr 13 10 2 dMod_frame_13 fs_Mod_16 rfl hS.mod hS.R_count ?_
      refine g_iload_n 16 dMod_frame_16 rfl ?_
      refine g_ialdN 17 dMod_frame_17 hS.T_count (by omega) (by decide) ?_
      refine g_top (nI ((zP A e).length)) (p2) ?_
      refine g_icmp_geN 18 30 dMod_frame_18 rfl (by omega) (by omega) (fun h18 => ?_) (fun h18 => ?_)
      · exact absurd h18 (by omega)
      · refine g_iload_n 21 dMod_frame_21 rfl ?_
        refine g_if_lt 22 30 dMod_frame_22 rfl (fun h22 => ?_) (fun h22 => ?_)
        · exact absurd h22 (by decide)
        · refine g_iload_n 25 dMod_frame_25 rfl ?_
          refine g_iconst 26 4 dMod_frame_26 rfl ?_
          refine g_icmp_le 27 32 dMod_frame_27 rfl (fun h27 => ?_) (fun h27 => ?_)
          · refine g_bipush 32 (nI 48) dMod_frame_32 rfl ?_
            refine g_iload_n 34 dMod_frame_34 rfl ?_
            refine g_imulN 35 dMod_frame_35 ?_
            refine g_aload_n 36 dMod_frame_36 rfl ?_
            refine g_getr 37 10 1 dMod_frame_37 fs_Mod_13 rfl hS.mod hS.R_head ?_
            refine g_iload_n 40 dMod_frame_40 rfl ?_
            refine g_ialdN 41 dMod_frame_41 hS.T_head (by omega) (by decide) ?_
            refine g_top (nI (h)) (p1) ?_
            refine g_iload_n 42 dMod_frame_42 rfl ?_
            refine g_iaddN 43 dMod_frame_43 ?_
            refine g_bipush 44 (nI 48) dMod_frame_44 rfl ?_
            refine g_iremN 46 dMod_frame_46 (by omega) (by decide) (by decide) ?_
            refine g_iaddN 47 dMod_frame_47 ?_
            refine g_istore 48 dMod_frame_48 (by decide) rfl ?_
            refine g_iload_n 50 dMod_frame_50 rfl ?_
            refine g_iconst 51 3 dMod_frame_51 rfl ?_
            refine g_icmp_ge 52 92 dMod_frame_52 rfl (fun h52 => ?_) (fun h52 => ?_)
            · exact absurd h52 (by decide)
            · refine g_iload_n 55 dMod_frame_55 rfl ?_
              refine g_if_ne 56 69 dMod_frame_56 rfl (fun h56 => ?_) (fun h56 => ?_)
              · refine g_iload_n 69 dMod_frame_69 rfl ?_
                refine g_iconst 70 1 dMod_frame_70 rfl ?_
                refine g_icmp_ne 71 84 dMod_frame_71 rfl (fun h71 => ?_) (fun h71 => ?_)
                · exact absurd (by decide) h71
                · refine g_aload_n 74 dMod_frame_74 rfl ?_
                  refine g_getr 75 10 4 dMod_frame_75 fs_Mod_22 rfl hS.mod hS.R_streams ?_
                  refine g_iload 78 dMod_frame_78 rfl ?_
                  refine g_ialdN 80 dMod_frame_80 hS.T_streams (by omega) (by decide) ?_
                  refine g_top (f.2.1) (hF.2.1) ?_
                  refine g_goto 81 91 dMod_frame_81 rfl ?_
                  exact g_iret 91 dMod_frame_91 rfl ⟨rfl, rfl⟩
              · exact absurd h56 (by decide)
          · exact absurd (by decide) h27

set_option maxRecDepth 100000 in
set_option maxHeartbeats 4000000 in
theorem cm_fr_2 {X : mX} {l : Launch} {M : mM} {A : zA} {e j : Nat} {f : zF} (hR : RR M A) (he : e < 2) (hj : (zP A e)[j]? = some f) : Ct X l uMod_frame (rk 1 20) [.ref 169, .int (nI e), .int (nI j), .int 2] M (fun r M' => r = some (.int f.2.2.1) ∧ M' = M) := by
  refine Ct.of (by decide) (Nat.le_of_ble_eq_true rfl) ?_
  show G X l uMod_frame (rk 1 20) 0 0 M 0 [some (.ref 169), some (.int (nI e)), some (.int (nI j)), some (.int 2), none, none, none] [] _
  obtain ⟨h, hh, hl, p1, p2, p3⟩ := hR.2.2.2.2.1 e he
  have hF := p3 j f hj
  have hjl := (List.getElem?_eq_some_iff.mp hj).1
  have hS := hR.1
  refine g_iload_n 0 dMod_frame_0 rfl ?_
  refine g_callS 1 [_] dMod_frame_1 cs_Mod_171 rfl rfl ⟨(Nat.le_of_ble_eq_true rfl), (Nat.le_of_ble_eq_true rfl)⟩ (Nat.le_of_ble_eq_true rfl) (ct_isEnd_y he) (Nat.le_of_ble_eq_true rfl) (Nat.le_of_ble_eq_true rfl) ?_
  rintro _ M2 ⟨rfl, hM2⟩
  rw [hM2]
  clear hM2 M2
  refine g_if_eq 4 30 dMod_frame_4 rfl (fun h4 => ?_) (fun h4 => ?_)
  · exact absurd h4 (by decide)
  · refine g_iload_n 7 dMod_frame_7 rfl ?_
    refine g_if_ltN 8 30 dMod_frame_8 rfl (by omega) (fun h8 => ?_) (fun h8 => ?_)
    · exact absurd h8 (Nat.not_lt_zero _)
    · refine g_iload_n 11 dMod_frame_11 rfl ?_
      refine g_aload_n 12 dMod_frame_12 rfl ?_
      refine g_getr 13 10 2 dMod_frame_13 fs_Mod_16 rfl hS.mod hS.R_count ?_
      refine g_iload_n 16 dMod_frame_16 rfl ?_
      refine g_ialdN 17 dMod_frame_17 hS.T_count (by omega) (by decide) ?_
      refine g_top (nI ((zP A e).length)) (p2) ?_
      refine g_icmp_geN 18 30 dMod_frame_18 rfl (by omega) (by omega) (fun h18 => ?_) (fun h18 => ?_)
      · exact absurd h18 (by omega)
      · refine g_iload_n 21 dMod_frame_21 rfl ?_
        refine g_if_lt 22 30 dMod_frame_22 rfl (fun h22 => ?_) (fun h22 => ?_)
        · exact absurd h22 (by decide)
        · refine g_iload_n 25 dMod_frame_25 rfl ?_
          refine g_iconst 26 4 dMod_frame_26 rfl ?_
          refine g_icmp_le 27 32 dMod_frame_27 rfl (fun h27 => ?_) (fun h27 => ?_)
          · refine g_bipush 32 (nI 48) dMod_frame_32 rfl ?_
            refine g_iload_n 34 dMod_frame_34 rfl ?_
            refine g_imulN 35 dMod_frame_35 ?_
            refine g_aload_n 36 dMod_frame_36 rfl ?_
            refine g_getr 37 10 1 dMod_frame_37 fs_Mod_13 rfl hS.mod hS.R_head ?_
            refine g_iload_n 40 dMod_frame_40 rfl ?_
            refine g_ialdN 41 dMod_frame_41 hS.T_head (by omega) (by decide) ?_
            refine g_top (nI (h)) (p1) ?_
            refine g_iload_n 42 dMod_frame_42 rfl ?_
            refine g_iaddN 43 dMod_frame_43 ?_
            refine g_bipush 44 (nI 48) dMod_frame_44 rfl ?_
            refine g_iremN 46 dMod_frame_46 (by omega) (by decide) (by decide) ?_
            refine g_iaddN 47 dMod_frame_47 ?_
            refine g_istore 48 dMod_frame_48 (by decide) rfl ?_
            refine g_iload_n 50 dMod_frame_50 rfl ?_
            refine g_iconst 51 3 dMod_frame_51 rfl ?_
            refine g_icmp_ge 52 92 dMod_frame_52 rfl (fun h52 => ?_) (fun h52 => ?_)
            · exact absurd h52 (by decide)
            · refine g_iload_n 55 dMod_frame_55 rfl ?_
              refine g_if_ne 56 69 dMod_frame_56 rfl (fun h56 => ?_) (fun h56 => ?_)
              · refine g_iload_n 69 dMod_frame_69 rfl ?_
                refine g_iconst 70 1 dMod_frame_70 rfl ?_
                refine g_icmp_ne 71 84 dMod_frame_71 rfl (fun h71 => ?_) (fun h71 => ?_)
                · refine g_aload_n 84 dMod_frame_84 rfl ?_
                  refine g_getr 85 10 5 dMod_frame_85 fs_Mod_25 rfl hS.mod hS.R_amounts ?_
                  refine g_iload 88 dMod_frame_88 rfl ?_
                  refine g_ialdN 90 dMod_frame_90 hS.T_amounts (by omega) (by decide) ?_
                  refine g_top (f.2.2.1) (hF.2.2.1) ?_
                  exact g_iret 91 dMod_frame_91 rfl ⟨rfl, rfl⟩
                · exact absurd h71 (by decide)
              · exact absurd h56 (by decide)
          · exact absurd (by decide) h27

set_option maxRecDepth 100000 in
set_option maxHeartbeats 4000000 in
theorem cm_fr_3 {X : mX} {l : Launch} {M : mM} {A : zA} {e j : Nat} {f : zF} (hR : RR M A) (he : e < 2) (hj : (zP A e)[j]? = some f) : Ct X l uMod_frame (rk 1 20) [.ref 169, .int (nI e), .int (nI j), .int 3] M (fun r M' => r = some (.int (if f.2.2.2.1 = 0 then 0 else 1)) ∧ M' = M) := by
  refine Ct.of (by decide) (Nat.le_of_ble_eq_true rfl) ?_
  show G X l uMod_frame (rk 1 20) 0 0 M 0 [some (.ref 169), some (.int (nI e)), some (.int (nI j)), some (.int 3), none, none, none] [] _
  obtain ⟨h, hh, hl, p1, p2, p3⟩ := hR.2.2.2.2.1 e he
  have hF := p3 j f hj
  have hjl := (List.getElem?_eq_some_iff.mp hj).1
  have hS := hR.1
  refine g_iload_n 0 dMod_frame_0 rfl ?_
  refine g_callS 1 [_] dMod_frame_1 cs_Mod_171 rfl rfl ⟨(Nat.le_of_ble_eq_true rfl), (Nat.le_of_ble_eq_true rfl)⟩ (Nat.le_of_ble_eq_true rfl) (ct_isEnd_y he) (Nat.le_of_ble_eq_true rfl) (Nat.le_of_ble_eq_true rfl) ?_
  rintro _ M2 ⟨rfl, hM2⟩
  rw [hM2]
  clear hM2 M2
  refine g_if_eq 4 30 dMod_frame_4 rfl (fun h4 => ?_) (fun h4 => ?_)
  · exact absurd h4 (by decide)
  · refine g_iload_n 7 dMod_frame_7 rfl ?_
    refine g_if_ltN 8 30 dMod_frame_8 rfl (by omega) (fun h8 => ?_) (fun h8 => ?_)
    · exact absurd h8 (Nat.not_lt_zero _)
    · refine g_iload_n 11 dMod_frame_11 rfl ?_
      refine g_aload_n 12 dMod_frame_12 rfl ?_
      refine g_getr 13 10 2 dMod_frame_13 fs_Mod_16 rfl hS.mod hS.R_count ?_
      refine g_iload_n 16 dMod_frame_16 rfl ?_
      refine g_ialdN 17 dMod_frame_17 hS.T_count (by omega) (by decide) ?_
      refine g_top (nI ((zP A e).length)) (p2) ?_
      refine g_icmp_geN 18 30 dMod_frame_18 rfl (by omega) (by omega) (fun h18 => ?_) (fun h18 => ?_)
      · exact absurd h18 (by omega)
      · refine g_iload_n 21 dMod_frame_21 rfl ?_
        refine g_if_lt 22 30 dMod_frame_22 rfl (fun h22 => ?_) (fun h22 => ?_)
        · exact absurd h22 (by decide)
        · refine g_iload_n 25 dMod_frame_25 rfl ?_
          refine g_iconst 26 4 dMod_frame_26 rfl ?_
          refine g_icmp_le 27 32 dMod_frame_27 rfl (fun h27 => ?_) (fun h27 => ?_)
          · refine g_bipush 32 (nI 48) dMod_frame_32 rfl ?_
            refine g_iload_n 34 dMod_frame_34 rfl ?_
            refine g_imulN 35 dMod_frame_35 ?_
            refine g_aload_n 36 dMod_frame_36 rfl ?_
            refine g_getr 37 10 1 dMod_frame_37 fs_Mod_13 rfl hS.mod hS.R_head ?_
            refine g_iload_n 40 dMod_frame_40 rfl ?_
            refine g_ialdN 41 dMod_frame_41 hS.T_head (by omega) (by decide) ?_
            refine g_top (nI (h)) (p1) ?_
            refine g_iload_n 42 dMod_frame_42 rfl ?_
            refine g_iaddN 43 dMod_frame_43 ?_
            refine g_bipush 44 (nI 48) dMod_frame_44 rfl ?_
            refine g_iremN 46 dMod_frame_46 (by omega) (by decide) (by decide) ?_
            refine g_iaddN 47 dMod_frame_47 ?_
            refine g_istore 48 dMod_frame_48 (by decide) rfl ?_
            refine g_iload_n 50 dMod_frame_50 rfl ?_
            refine g_iconst 51 3 dMod_frame_51 rfl ?_
            refine g_icmp_ge 52 92 dMod_frame_52 rfl (fun h52 => ?_) (fun h52 => ?_)
            · refine g_iload_n 92 dMod_frame_92 rfl ?_
              refine g_iconst 93 3 dMod_frame_93 rfl ?_
              refine g_icmp_ne 94 113 dMod_frame_94 rfl (fun h94 => ?_) (fun h94 => ?_)
              · exact absurd (by decide) h94
              · refine g_aload_n 97 dMod_frame_97 rfl ?_
                refine g_getr 98 10 6 dMod_frame_98 fs_Mod_28 rfl hS.mod hS.R_flags ?_
                refine g_iload 101 dMod_frame_101 rfl ?_
                refine g_zaldN 103 dMod_frame_103 hS.T_flags (by omega) (by decide) ?_
                refine g_top (f.2.2.2.1) (hF.2.2.2.1) ?_
                refine g_if_eq 104 111 dMod_frame_104 rfl (fun h104 => ?_) (fun h104 => ?_)
                · refine g_iconst 111 0 dMod_frame_111 rfl ?_
                  exact g_iret 112 dMod_frame_112 rfl ⟨by first | rw [if_pos h104] | rw [if_neg h104], rfl⟩
                · refine g_iconst 107 1 dMod_frame_107 rfl ?_
                  refine g_goto 108 112 dMod_frame_108 rfl ?_
                  exact g_iret 112 dMod_frame_112 rfl ⟨by first | rw [if_pos h104] | rw [if_neg h104], rfl⟩
            · exact absurd (by decide) h52
          · exact absurd (by decide) h27

set_option maxRecDepth 100000 in
set_option maxHeartbeats 4000000 in
theorem cm_fr_4n {X : mX} {l : Launch} {M : mM} {A : zA} {e j : Nat} {f : zF} (hR : RR M A) (he : e < 2) (hj : (zP A e)[j]? = some f) (hk1 : ¬ f.1 = 1) : Ct X l uMod_frame (rk 1 20) [.ref 169, .int (nI e), .int (nI j), .int 4] M (fun r M' => r = some (.int f.2.2.2.2.1) ∧ M' = M) := by
  refine Ct.of (by decide) (Nat.le_of_ble_eq_true rfl) ?_
  show G X l uMod_frame (rk 1 20) 0 0 M 0 [some (.ref 169), some (.int (nI e)), some (.int (nI j)), some (.int 4), none, none, none] [] _
  obtain ⟨h, hh, hl, p1, p2, p3⟩ := hR.2.2.2.2.1 e he
  have hF := p3 j f hj
  have hjl := (List.getElem?_eq_some_iff.mp hj).1
  have hS := hR.1
  refine g_iload_n 0 dMod_frame_0 rfl ?_
  refine g_callS 1 [_] dMod_frame_1 cs_Mod_171 rfl rfl ⟨(Nat.le_of_ble_eq_true rfl), (Nat.le_of_ble_eq_true rfl)⟩ (Nat.le_of_ble_eq_true rfl) (ct_isEnd_y he) (Nat.le_of_ble_eq_true rfl) (Nat.le_of_ble_eq_true rfl) ?_
  rintro _ M2 ⟨rfl, hM2⟩
  rw [hM2]
  clear hM2 M2
  refine g_if_eq 4 30 dMod_frame_4 rfl (fun h4 => ?_) (fun h4 => ?_)
  · exact absurd h4 (by decide)
  · refine g_iload_n 7 dMod_frame_7 rfl ?_
    refine g_if_ltN 8 30 dMod_frame_8 rfl (by omega) (fun h8 => ?_) (fun h8 => ?_)
    · exact absurd h8 (Nat.not_lt_zero _)
    · refine g_iload_n 11 dMod_frame_11 rfl ?_
      refine g_aload_n 12 dMod_frame_12 rfl ?_
      refine g_getr 13 10 2 dMod_frame_13 fs_Mod_16 rfl hS.mod hS.R_count ?_
      refine g_iload_n 16 dMod_frame_16 rfl ?_
      refine g_ialdN 17 dMod_frame_17 hS.T_count (by omega) (by decide) ?_
      refine g_top (nI ((zP A e).length)) (p2) ?_
      refine g_icmp_geN 18 30 dMod_frame_18 rfl (by omega) (by omega) (fun h18 => ?_) (fun h18 => ?_)
      · exact absurd h18 (by omega)
      · refine g_iload_n 21 dMod_frame_21 rfl ?_
        refine g_if_lt 22 30 dMod_frame_22 rfl (fun h22 => ?_) (fun h22 => ?_)
        · exact absurd h22 (by decide)
        · refine g_iload_n 25 dMod_frame_25 rfl ?_
          refine g_iconst 26 4 dMod_frame_26 rfl ?_
          refine g_icmp_le 27 32 dMod_frame_27 rfl (fun h27 => ?_) (fun h27 => ?_)
          · refine g_bipush 32 (nI 48) dMod_frame_32 rfl ?_
            refine g_iload_n 34 dMod_frame_34 rfl ?_
            refine g_imulN 35 dMod_frame_35 ?_
            refine g_aload_n 36 dMod_frame_36 rfl ?_
            refine g_getr 37 10 1 dMod_frame_37 fs_Mod_13 rfl hS.mod hS.R_head ?_
            refine g_iload_n 40 dMod_frame_40 rfl ?_
            refine g_ialdN 41 dMod_frame_41 hS.T_head (by omega) (by decide) ?_
            refine g_top (nI (h)) (p1) ?_
            refine g_iload_n 42 dMod_frame_42 rfl ?_
            refine g_iaddN 43 dMod_frame_43 ?_
            refine g_bipush 44 (nI 48) dMod_frame_44 rfl ?_
            refine g_iremN 46 dMod_frame_46 (by omega) (by decide) (by decide) ?_
            refine g_iaddN 47 dMod_frame_47 ?_
            refine g_istore 48 dMod_frame_48 (by decide) rfl ?_
            refine g_iload_n 50 dMod_frame_50 rfl ?_
            refine g_iconst 51 3 dMod_frame_51 rfl ?_
            refine g_icmp_ge 52 92 dMod_frame_52 rfl (fun h52 => ?_) (fun h52 => ?_)
            · refine g_iload_n 92 dMod_frame_92 rfl ?_
              refine g_iconst 93 3 dMod_frame_93 rfl ?_
              refine g_icmp_ne 94 113 dMod_frame_94 rfl (fun h94 => ?_) (fun h94 => ?_)
              · refine g_aload_n 113 dMod_frame_113 rfl ?_
                refine g_getr 114 10 7 dMod_frame_114 fs_Mod_32 rfl hS.mod hS.R_settings ?_
                refine g_iload 117 dMod_frame_117 rfl ?_
                refine g_ialdN 119 dMod_frame_119 hS.T_settings (by omega) (by decide) ?_
                refine g_top (f.2.2.2.2.1) (hF.2.2.2.2.1 hk1) ?_
                refine g_istore 120 dMod_frame_120 (by decide) rfl ?_
                refine g_iconst 122 (nI 0) dMod_frame_122 rfl ?_
                refine g_istore 123 dMod_frame_123 (by decide) rfl ?_
                refine g_iload 125 dMod_frame_125 rfl ?_
                refine g_aload_n 127 dMod_frame_127 rfl ?_
                refine g_getr 128 10 5 dMod_frame_128 fs_Mod_25 rfl hS.mod hS.R_amounts ?_
                refine g_iload 131 dMod_frame_131 rfl ?_
                refine g_ialdN 133 dMod_frame_133 hS.T_amounts (by omega) (by decide) ?_
                refine g_top (f.2.2.1) (hF.2.2.1) ?_
                refine g_icmp_ge 134 172 dMod_frame_134 rfl (fun h134 => ?_) (fun h134 => ?_)
                · refine g_iload 172 dMod_frame_172 rfl ?_
                  exact g_iret 174 dMod_frame_174 rfl ⟨rfl, rfl⟩
                · refine g_aload_n 137 dMod_frame_137 rfl ?_
                  refine g_getr 138 10 3 dMod_frame_138 fs_Mod_19 rfl hS.mod hS.R_kinds ?_
                  refine g_iload 141 dMod_frame_141 rfl ?_
                  refine g_ialdN 143 dMod_frame_143 hS.T_kinds (by omega) (by decide) ?_
                  refine g_top (f.1) (hF.1) ?_
                  refine g_iconst 144 1 dMod_frame_144 rfl ?_
                  refine g_icmp_ne 145 172 dMod_frame_145 rfl (fun h145 => ?_) (fun h145 => ?_)
                  · refine g_iload 172 dMod_frame_172 rfl ?_
                    exact g_iret 174 dMod_frame_174 rfl ⟨rfl, rfl⟩
                  · exact absurd h145 hk1
              · exact absurd h94 (by decide)
            · exact absurd (by decide) h52
          · exact absurd (by decide) h27

set_option maxRecDepth 100000 in
set_option maxHeartbeats 4000000 in
theorem g_frS {X : mX} {l : Launch} {M : mM} {e j sl : Nat} {f : zF} (hS : Shp M) (hsl : sl < 96) (hF : FrR M sl f) (hk1 : f.1 = 1) : ∀ (jj q : Nat), q + jj = f.2.2.2.2.2.2.length → G X l uMod_frame (rk 1 20) 0 0 M 125 [some (.ref 169), some (.int (nI e)), some (.int (nI j)), some (.int 4), some (.int (nI sl)), some (.int (sumS (f.2.2.2.2.2.2.take q))), some (.int (nI q))] [] (fun r M' => r = some (.int f.2.2.2.2.1) ∧ M' = M)
  | 0, q, hn => by
    obtain ⟨s0, sn, s8, ss, sa⟩ := hF.2.2.2.2.2.1 hk1
    have hq : q = f.2.2.2.2.2.2.length := by omega
    subst hq
    refine g_iload 125 dMod_frame_125 rfl ?_
    refine g_aload_n 127 dMod_frame_127 rfl ?_
    refine g_getr 128 10 5 dMod_frame_128 fs_Mod_25 rfl hS.mod hS.R_amounts ?_
    refine g_iload 131 dMod_frame_131 rfl ?_
    refine g_ialdN 133 dMod_frame_133 hS.T_amounts (by omega) (by decide) ?_
    refine g_top (nI (f.2.2.2.2.2.2.length)) (hF.2.2.1.trans sn) ?_
    refine g_icmp_geN 134 172 dMod_frame_134 rfl (by omega) (by omega) (fun h134 => ?_) (fun h134 => ?_)
    · refine g_iload 172 dMod_frame_172 rfl ?_
      exact g_iret 174 dMod_frame_174 rfl ⟨by rw [List.take_length, ss], rfl⟩
    · exact absurd (Nat.le_refl _) h134
  | jj + 1, q, hn => by
    obtain ⟨s0, sn, s8, ss, sa⟩ := hF.2.2.2.2.2.1 hk1
    have ih := g_frS (X := X) (l := l) (e := e) (j := j) hS hsl hF hk1 jj (q + 1) (by omega)
    have hx : f.2.2.2.2.2.2[q]? = some f.2.2.2.2.2.2[q] := List.getElem?_eq_getElem (by omega)
    have e1 : sumS (f.2.2.2.2.2.2.take q) + f.2.2.2.2.2.2[q].2.1 = sumS (f.2.2.2.2.2.2.take (q + 1)) := by rw [List.take_succ, hx]; exact (sumS_app _ _).symm
    rw [← e1] at ih
    refine g_iload 125 dMod_frame_125 rfl ?_
    refine g_aload_n 127 dMod_frame_127 rfl ?_
    refine g_getr 128 10 5 dMod_frame_128 fs_Mod_25 rfl hS.mod hS.R_amounts ?_
    refine g_iload 131 dMod_frame_131 rfl ?_
    refine g_ialdN 133 dMod_frame_133 hS.T_amounts (by omega) (by decide) ?_
    refine g_top (nI (f.2.2.2.2.2.2.length)) (hF.2.2.1.trans sn) ?_
    refine g_icmp_geN 134 172 dMod_frame_134 rfl (by omega) (by omega) (fun h134 => ?_) (fun h134 => ?_)
    · exact absurd h134 (by omega)
    · refine g_aload_n 137 dMod_frame_137 rfl ?_
      refine g_getr 138 10 3 dMod_frame_138 fs_Mod_19 rfl hS.mod hS.R_kinds ?_
      refine g_iload 141 dMod_frame_141 rfl ?_
      refine g_ialdN 143 dMod_frame_143 hS.T_kinds (by omega) (by decide) ?_
      refine g_top (1) (hF.1.trans hk1) ?_
      refine g_iconst 144 1 dMod_frame_144 rfl ?_
      refine g_icmp_ne 145 172 dMod_frame_145 rfl (fun h145 => ?_) (fun h145 => ?_)
      · exact absurd (by decide) h145
      · refine g_iload 148 dMod_frame_148 rfl ?_
        refine g_aload_n 150 dMod_frame_150 rfl ?_
        refine g_getr 151 10 10 dMod_frame_151 fs_Mod_42 rfl hS.mod hS.R_stepIndex ?_
        refine g_bipush 154 (nI 8) dMod_frame_154 rfl ?_
        refine g_iload 156 dMod_frame_156 rfl ?_
        refine g_imulN 158 dMod_frame_158 ?_
        refine g_iload 159 dMod_frame_159 rfl ?_
        refine g_iaddN 161 dMod_frame_161 ?_
        refine g_ialdN 162 dMod_frame_162 hS.T_stepIndex (by omega) (by decide) ?_
        refine g_top (f.2.2.2.2.2.2[q].2.1) ((sa q _ hx).2.1) ?_
        refine g_iadd 163 dMod_frame_163 ?_
        refine g_istore 164 dMod_frame_164 (by decide) rfl ?_
        refine g_iincN 166 dMod_frame_166 rfl (by decide) rfl ?_
        refine g_goto 169 125 dMod_frame_169 rfl ?_
        exact ih
set_option maxRecDepth 100000 in
set_option maxHeartbeats 4000000 in
theorem cm_fr_4h {X : mX} {l : Launch} {M : mM} {A : zA} {e j : Nat} {f : zF} (hR : RR M A) (he : e < 2) (hj : (zP A e)[j]? = some f) (hk1 : f.1 = 1) : Ct X l uMod_frame (rk 1 20) [.ref 169, .int (nI e), .int (nI j), .int 4] M (fun r M' => r = some (.int f.2.2.2.2.1) ∧ M' = M) := by
  refine Ct.of (by decide) (Nat.le_of_ble_eq_true rfl) ?_
  show G X l uMod_frame (rk 1 20) 0 0 M 0 [some (.ref 169), some (.int (nI e)), some (.int (nI j)), some (.int 4), none, none, none] [] _
  obtain ⟨h, hh, hl, p1, p2, p3⟩ := hR.2.2.2.2.1 e he
  have hF := p3 j f hj
  have hjl := (List.getElem?_eq_some_iff.mp hj).1
  have hS := hR.1
  refine g_iload_n 0 dMod_frame_0 rfl ?_
  refine g_callS 1 [_] dMod_frame_1 cs_Mod_171 rfl rfl ⟨(Nat.le_of_ble_eq_true rfl), (Nat.le_of_ble_eq_true rfl)⟩ (Nat.le_of_ble_eq_true rfl) (ct_isEnd_y he) (Nat.le_of_ble_eq_true rfl) (Nat.le_of_ble_eq_true rfl) ?_
  rintro _ M2 ⟨rfl, hM2⟩
  rw [hM2]
  clear hM2 M2
  refine g_if_eq 4 30 dMod_frame_4 rfl (fun h4 => ?_) (fun h4 => ?_)
  · exact absurd h4 (by decide)
  · refine g_iload_n 7 dMod_frame_7 rfl ?_
    refine g_if_ltN 8 30 dMod_frame_8 rfl (by omega) (fun h8 => ?_) (fun h8 => ?_)
    · exact absurd h8 (Nat.not_lt_zero _)
    · refine g_iload_n 11 dMod_frame_11 rfl ?_
      refine g_aload_n 12 dMod_frame_12 rfl ?_
      refine g_getr 13 10 2 dMod_frame_13 fs_Mod_16 rfl hS.mod hS.R_count ?_
      refine g_iload_n 16 dMod_frame_16 rfl ?_
      refine g_ialdN 17 dMod_frame_17 hS.T_count (by omega) (by decide) ?_
      refine g_top (nI ((zP A e).length)) (p2) ?_
      refine g_icmp_geN 18 30 dMod_frame_18 rfl (by omega) (by omega) (fun h18 => ?_) (fun h18 => ?_)
      · exact absurd h18 (by omega)
      · refine g_iload_n 21 dMod_frame_21 rfl ?_
        refine g_if_lt 22 30 dMod_frame_22 rfl (fun h22 => ?_) (fun h22 => ?_)
        · exact absurd h22 (by decide)
        · refine g_iload_n 25 dMod_frame_25 rfl ?_
          refine g_iconst 26 4 dMod_frame_26 rfl ?_
          refine g_icmp_le 27 32 dMod_frame_27 rfl (fun h27 => ?_) (fun h27 => ?_)
          · refine g_bipush 32 (nI 48) dMod_frame_32 rfl ?_
            refine g_iload_n 34 dMod_frame_34 rfl ?_
            refine g_imulN 35 dMod_frame_35 ?_
            refine g_aload_n 36 dMod_frame_36 rfl ?_
            refine g_getr 37 10 1 dMod_frame_37 fs_Mod_13 rfl hS.mod hS.R_head ?_
            refine g_iload_n 40 dMod_frame_40 rfl ?_
            refine g_ialdN 41 dMod_frame_41 hS.T_head (by omega) (by decide) ?_
            refine g_top (nI (h)) (p1) ?_
            refine g_iload_n 42 dMod_frame_42 rfl ?_
            refine g_iaddN 43 dMod_frame_43 ?_
            refine g_bipush 44 (nI 48) dMod_frame_44 rfl ?_
            refine g_iremN 46 dMod_frame_46 (by omega) (by decide) (by decide) ?_
            refine g_iaddN 47 dMod_frame_47 ?_
            refine g_istore 48 dMod_frame_48 (by decide) rfl ?_
            refine g_iload_n 50 dMod_frame_50 rfl ?_
            refine g_iconst 51 3 dMod_frame_51 rfl ?_
            refine g_icmp_ge 52 92 dMod_frame_52 rfl (fun h52 => ?_) (fun h52 => ?_)
            · refine g_iload_n 92 dMod_frame_92 rfl ?_
              refine g_iconst 93 3 dMod_frame_93 rfl ?_
              refine g_icmp_ne 94 113 dMod_frame_94 rfl (fun h94 => ?_) (fun h94 => ?_)
              · refine g_aload_n 113 dMod_frame_113 rfl ?_
                refine g_getr 114 10 7 dMod_frame_114 fs_Mod_32 rfl hS.mod hS.R_settings ?_
                refine g_iload 117 dMod_frame_117 rfl ?_
                refine g_ialdN 119 dMod_frame_119 hS.T_settings (by omega) (by decide) ?_
                refine g_top (0) ((hF.2.2.2.2.2.1 hk1).1) ?_
                refine g_istore 120 dMod_frame_120 (by decide) rfl ?_
                refine g_iconst 122 (nI 0) dMod_frame_122 rfl ?_
                refine g_istore 123 dMod_frame_123 (by decide) rfl ?_
                exact g_frS hS (by omega) hF hk1 f.2.2.2.2.2.2.length 0 (Nat.zero_add _)
              · exact absurd h94 (by decide)
            · exact absurd (by decide) h52
          · exact absurd (by decide) h27

theorem w_04 {w : Int32} (h0 : ¬ w < 0) (h4 : ¬ 4 < w) : w = 0 ∨ w = 1 ∨ w = 2 ∨ w = 3 ∨ w = 4 := by
  have e1 := nI_cl h0
  have b1 := w.toNatClampNeg_lt
  have h5 : w.toNatClampNeg ≤ 4 := by
    have h6 := Int32.not_lt.mp h4
    rw [← e1] at h6
    exact (nI_leI (a := w.toNatClampNeg) (b := 4) b1 (by decide)).mp h6
  have h7 : w.toNatClampNeg = 0 ∨ w.toNatClampNeg = 1 ∨ w.toNatClampNeg = 2 ∨ w.toNatClampNeg = 3 ∨ w.toNatClampNeg = 4 := by omega
  rcases h7 with q | q | q | q | q <;> rw [q] at e1 <;> rw [← e1] <;> decide
theorem pt_out {f : zF} {w : Int32} (h : w < 0 ∨ 4 < w) : ptZ f w = -1 := by
  have hn : ∀ v : Int32, (¬ v < 0 ∧ ¬ 4 < v) → ¬ w = v := fun v q q2 => by rw [q2] at h; exact h.elim q.1 q.2
  unfold ptZ
  rw [if_neg (hn 0 (by decide)), if_neg (hn 1 (by decide)), if_neg (hn 2 (by decide)), if_neg (hn 3 (by decide)), if_neg (hn 4 (by decide))]
theorem cm_frameR {X : mX} {l : Launch} {M : mM} {A : zA} {e j : Nat} {f : zF} {w : Int32} (hR : RR M A) (he : e < 2) (hj : (zP A e)[j]? = some f) : Ct X l uMod_frame (rk 1 20) [.ref 169, .int (nI e), .int (nI j), .int w] M (fun r M' => r = some (.int (ptZ f w)) ∧ M' = M) := by
  by_cases hw : w < 0 ∨ 4 < w
  · rw [pt_out hw]
    exact cm_frame_w hR.1 he hw
  · rcases w_04 (fun q => hw (Or.inl q)) (fun q => hw (Or.inr q)) with q | q | q | q | q
    · subst q
      exact cm_fr_0 hR he hj
    · subst q
      exact cm_fr_1 hR he hj
    · subst q
      exact cm_fr_2 hR he hj
    · subst q
      exact cm_fr_3 hR he hj
    · subst q
      by_cases hk1 : f.1 = 1
      · exact cm_fr_4h hR he hj hk1
      · exact cm_fr_4n hR he hj hk1
set_option maxRecDepth 100000 in
set_option maxHeartbeats 4000000 in
theorem ct_fieldR {X : mX} {l : Launch} {M : mM} {A : zA} {e k : Nat} {L : List (Int32 × Int32)} {z : Int32} (hR : RC M A) (he : e < 2) (hk : k < 12) (hz : zL A e k = some L) {j : Nat} {p : Int32 × Int32} (hj : L[j]? = some p) : Ct X l uLink_field (rk 3 64) [.ref 3, .int (nI e), .int (nI (2 * k + 1)), .int (nI j), .int z] M (fun r M' => r = some (.int (if z = 0 then p.1 else p.2)) ∧ M' = M) := by
  refine Ct.of (by decide) (Nat.le_of_ble_eq_true rfl) ?_
  show G X l uLink_field (rk 3 64) 0 0 M 0 [some (.ref 3), some (.int (nI e)), some (.int (nI (2 * k + 1))), some (.int (nI j)), some (.int z), none] [] _
  obtain ⟨a, hla, hF1, hF2, hF6, c, hc3, ⟨hT0, hn0⟩, ⟨hT1, hn1⟩, _, hall⟩ := hR.lsS he hk hz
  have hS := hR.1
  have hjl := (List.getElem?_eq_some_iff.mp hj).1
  have hwi : ¬ wi (nI j) 0 (nI L.length - 1) = 0 := by
    have e1 : nI L.length - 1 = nI (L.length - 1) := nI_sub' (a := L.length) (b := 1) (by omega)
    unfold wi
    rw [e1, if_neg (nI_nn (by omega)), if_neg (fun q => absurd ((nI_ltI (by omega) (by omega)).mp q) (by omega))]
    decide
  refine g_aload_n 0 dLink_field_0 rfl ?_
  refine g_iload_n 1 dLink_field_1 rfl ?_
  refine g_callV 2 [_] dLink_field_2 cs_Link_128 rfl (ci := 0) rfl (by decide) hS.link rfl ⟨(Nat.le_of_ble_eq_true rfl), (Nat.le_of_ble_eq_true rfl)⟩ (Nat.le_of_ble_eq_true rfl) (ct_endOf hS he) (Nat.le_of_ble_eq_true rfl) (Nat.le_of_ble_eq_true rfl) ?_
  rintro _ M2 ⟨rfl, hM2⟩
  rw [hM2]
  clear hM2 M2
  refine g_iload_n 5 dLink_field_5 rfl ?_
  refine g_callS 6 [_, _] dLink_field_6 cs_Link_58 rfl rfl ⟨(Nat.le_of_ble_eq_true rfl), (Nat.le_of_ble_eq_true rfl)⟩ (Nat.le_of_ble_eq_true rfl) (ct_streamOf hS he hk) (Nat.le_of_ble_eq_true rfl) (Nat.le_of_ble_eq_true rfl) ?_
  rintro _ M2 ⟨rfl, hM2⟩
  rw [hM2]
  clear hM2 M2
  refine g_astore 9 dLink_field_9 (by decide) rfl ?_
  refine g_aload 11 dLink_field_11 rfl ?_
  refine g_ifnull 13 dLink_field_13 ?_
  refine g_aload 16 dLink_field_16 rfl ?_
  refine g_getr 18 8 7 dLink_field_18 fs_Link_173 rfl (hS.tStr he hk) hla ?_
  refine g_ifnull 21 dLink_field_21 ?_
  refine g_iload_n 24 dLink_field_24 rfl ?_
  refine g_iconst 25 0 dLink_field_25 rfl ?_
  refine g_aload 26 dLink_field_26 rfl ?_
  refine g_getr 28 8 7 dLink_field_28 fs_Link_173 rfl (hS.tStr he hk) hla ?_
  refine g_geti 31 3 3 dLink_field_31 fs_Link_33 rfl hF1 ?_
  refine g_top (nI L.length) (hF2) ?_
  refine g_iconst 34 1 dLink_field_34 rfl ?_
  refine g_isub 35 dLink_field_35 ?_
  refine g_callS 36 [_, _, _] dLink_field_36 cs_Link_25 rfl rfl ⟨(Nat.le_of_ble_eq_true rfl), (Nat.le_of_ble_eq_true rfl)⟩ (Nat.le_of_ble_eq_true rfl) (ct_isWithin) (Nat.le_of_ble_eq_true rfl) (Nat.le_of_ble_eq_true rfl) ?_
  rintro _ M2 ⟨rfl, hM2⟩
  rw [hM2]
  clear hM2 M2
  refine g_if_ne 39 44 dLink_field_39 rfl (fun h39 => ?_) (fun h39 => ?_)
  · refine g_iload 44 dLink_field_44 rfl ?_
    refine g_if_eq 46 62 dLink_field_46 rfl (fun h46 => ?_) (fun h46 => ?_)
    · refine g_aload 62 dLink_field_62 rfl ?_
      refine g_getr 64 8 7 dLink_field_64 fs_Link_173 rfl (hS.tStr he hk) hla ?_
      refine g_getr 67 3 0 dLink_field_67 fs_Link_180 rfl hF1 hn0 ?_
      refine g_iload_n 70 dLink_field_70 rfl ?_
      refine g_ialdN 71 dLink_field_71 hT0 (by omega) (by decide) ?_
      refine g_top (p.1) ((hall j p hj).1) ?_
      exact g_iret 72 dLink_field_72 rfl ⟨by first | rw [if_pos h46] | rw [if_neg h46], rfl⟩
    · refine g_aload 49 dLink_field_49 rfl ?_
      refine g_getr 51 8 7 dLink_field_51 fs_Link_173 rfl (hS.tStr he hk) hla ?_
      refine g_getr 54 3 1 dLink_field_54 fs_Link_176 rfl hF1 hn1 ?_
      refine g_iload_n 57 dLink_field_57 rfl ?_
      refine g_ialdN 58 dLink_field_58 hT1 (by omega) (by decide) ?_
      refine g_top (p.2) ((hall j p hj).2) ?_
      refine g_goto 59 72 dLink_field_59 rfl ?_
      exact g_iret 72 dLink_field_72 rfl ⟨by first | rw [if_pos h46] | rw [if_neg h46], rfl⟩
  · exact absurd h39 hwi

set_option maxRecDepth 100000 in
set_option maxHeartbeats 4000000 in
theorem ct_fieldR_no {X : mX} {l : Launch} {M : mM} {A : zA} {e k : Nat} {L : List (Int32 × Int32)} {z : Int32} (hR : RC M A) (he : e < 2) (hk : k < 12) (hz : zL A e k = some L) {j : Int32} (hj : wi j 0 (nI L.length - 1) = 0) : Ct X l uLink_field (rk 3 64) [.ref 3, .int (nI e), .int (nI (2 * k + 1)), .int j, .int z] M (fun r M' => r = some (.int (-1)) ∧ M' = M) := by
  refine Ct.of (by decide) (Nat.le_of_ble_eq_true rfl) ?_
  show G X l uLink_field (rk 3 64) 0 0 M 0 [some (.ref 3), some (.int (nI e)), some (.int (nI (2 * k + 1))), some (.int j), some (.int z), none] [] _
  obtain ⟨a, hla, hF1, hF2, hF6, c, hc3, ⟨hT0, hn0⟩, ⟨hT1, hn1⟩, _, hall⟩ := hR.lsS he hk hz
  have hS := hR.1
  refine g_aload_n 0 dLink_field_0 rfl ?_
  refine g_iload_n 1 dLink_field_1 rfl ?_
  refine g_callV 2 [_] dLink_field_2 cs_Link_128 rfl (ci := 0) rfl (by decide) hS.link rfl ⟨(Nat.le_of_ble_eq_true rfl), (Nat.le_of_ble_eq_true rfl)⟩ (Nat.le_of_ble_eq_true rfl) (ct_endOf hS he) (Nat.le_of_ble_eq_true rfl) (Nat.le_of_ble_eq_true rfl) ?_
  rintro _ M2 ⟨rfl, hM2⟩
  rw [hM2]
  clear hM2 M2
  refine g_iload_n 5 dLink_field_5 rfl ?_
  refine g_callS 6 [_, _] dLink_field_6 cs_Link_58 rfl rfl ⟨(Nat.le_of_ble_eq_true rfl), (Nat.le_of_ble_eq_true rfl)⟩ (Nat.le_of_ble_eq_true rfl) (ct_streamOf hS he hk) (Nat.le_of_ble_eq_true rfl) (Nat.le_of_ble_eq_true rfl) ?_
  rintro _ M2 ⟨rfl, hM2⟩
  rw [hM2]
  clear hM2 M2
  refine g_astore 9 dLink_field_9 (by decide) rfl ?_
  refine g_aload 11 dLink_field_11 rfl ?_
  refine g_ifnull 13 dLink_field_13 ?_
  refine g_aload 16 dLink_field_16 rfl ?_
  refine g_getr 18 8 7 dLink_field_18 fs_Link_173 rfl (hS.tStr he hk) hla ?_
  refine g_ifnull 21 dLink_field_21 ?_
  refine g_iload_n 24 dLink_field_24 rfl ?_
  refine g_iconst 25 0 dLink_field_25 rfl ?_
  refine g_aload 26 dLink_field_26 rfl ?_
  refine g_getr 28 8 7 dLink_field_28 fs_Link_173 rfl (hS.tStr he hk) hla ?_
  refine g_geti 31 3 3 dLink_field_31 fs_Link_33 rfl hF1 ?_
  refine g_top (nI L.length) (hF2) ?_
  refine g_iconst 34 1 dLink_field_34 rfl ?_
  refine g_isub 35 dLink_field_35 ?_
  refine g_callS 36 [_, _, _] dLink_field_36 cs_Link_25 rfl rfl ⟨(Nat.le_of_ble_eq_true rfl), (Nat.le_of_ble_eq_true rfl)⟩ (Nat.le_of_ble_eq_true rfl) (ct_isWithin) (Nat.le_of_ble_eq_true rfl) (Nat.le_of_ble_eq_true rfl) ?_
  rintro _ M2 ⟨rfl, hM2⟩
  rw [hM2]
  clear hM2 M2
  refine g_if_ne 39 44 dLink_field_39 rfl (fun h39 => ?_) (fun h39 => ?_)
  · exact absurd hj h39
  · refine g_iconst 42 (-1) dLink_field_42 rfl ?_
    exact g_iret 43 dLink_field_43 rfl ⟨rfl, rfl⟩

theorem un_take {M : mM} {e k : Nat} {U : List (Int32 × Int32)} (h : UnR M e U) : ∀ n, n ≤ U.length → unA M e (nI (2 * k + 1)) n = (unrd (U.take n) k).length
  | 0, _ => rfl
  | n + 1, hn => by
    have hx : U[n]? = some U[n] := List.getElem?_eq_getElem (by omega)
    have ih := un_take (k := k) h n (by omega)
    rw [List.take_succ, hx]
    unfold unA
    rw [(h.2.2 n _ hx).1, ih]
    unfold unrd
    rw [show (some U[n]).toList = [U[n]] from rfl, List.filter_append, List.map_append, List.length_append]
    by_cases q : U[n].1 = nI (2 * k + 1)
    · rw [if_pos q, List.filter_cons_of_pos (by simp [q])]
      rfl
    · rw [if_neg q, List.filter_cons_of_neg (by simp [q])]
      rfl
theorem RR.bn {M : mM} {A : zA} {e k : Nat} (h : RR M A) (he : e < 2) : unA M e (nI (2 * k + 1)) (zU A e).length = (unrd (zU A e) k).length := by
  have := un_take (k := k) (h.un he) (zU A e).length (Nat.le_refl _)
  rw [List.take_length] at this
  exact this

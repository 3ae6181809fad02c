
/-! ===== what holds between two calls; each call on both sides ===== -/
set_option maxRecDepth 100000 in
set_option maxHeartbeats 4000000 in
theorem ct_tab_hi0 {X : mX} {l : Launch} {M : mM} {e : Nat} {j : Int32} (hS : Shp M) (he : e < 2) (hj : ¬ j < 0) (hc : mI M (15 + 80 * e) 3 ≤ j) : Ct X l uLink_table (rk 1 21) [.ref 3, .int (nI e), .int 0, .int j] M (fun r M' => r = some (.int 0) ∧ M' = M) := by
  refine Ct.of (by decide) (Nat.le_of_ble_eq_true rfl) ?_
  show G X l uLink_table (rk 1 21) 0 0 M 0 [some (.ref 3), some (.int (nI e)), some (.int 0), some (.int j), none, none] [] _
  refine g_aload_n 0 dLink_table_0 rfl ?_
  refine g_iload_n 1 dLink_table_1 rfl ?_
  refine g_callV 2 [_] dLink_table_2 cs_Link_128 rfl (ci := 0) rfl (by decide) hS.link rfl ⟨(Nat.le_of_ble_eq_true rfl), (Nat.le_of_ble_eq_true rfl)⟩ (Nat.le_of_ble_eq_true rfl) (ct_endOf hS he) (Nat.le_of_ble_eq_true rfl) (Nat.le_of_ble_eq_true rfl) ?_
  rintro _ M2 ⟨rfl, hM2⟩
  rw [hM2]
  clear hM2 M2
  refine g_astore 5 dLink_table_5 (by decide) rfl ?_
  refine g_aload 7 dLink_table_7 rfl ?_
  refine g_ifnull 9 dLink_table_9 ?_
  refine g_iload_n 12 dLink_table_12 rfl ?_
  refine g_bipush 13 (-2) dLink_table_13 rfl ?_
  refine g_icmp_ge 15 20 dLink_table_15 rfl (fun h15 => ?_) (fun h15 => ?_)
  · refine g_iload_n 20 dLink_table_20 rfl ?_
    refine g_if_eq 21 35 dLink_table_21 rfl (fun h21 => ?_) (fun h21 => ?_)
    · refine g_aload 35 dLink_table_35 rfl ?_
      refine g_getr 37 2 7 dLink_table_37 fs_Link_193 rfl (hS.tEnd he) (hS.rEnd7 he) ?_
      refine g_getr 40 4 0 dLink_table_40 fs_Link_197 rfl (hS.tEnc he) (hS.rEnc0 he) ?_
      refine g_astore 43 dLink_table_43 (by decide) rfl ?_
      refine g_iload_n 45 dLink_table_45 rfl ?_
      refine g_bipush 46 (-2) dLink_table_46 rfl ?_
      refine g_icmp_ne 48 57 dLink_table_48 rfl (fun h48 => ?_) (fun h48 => ?_)
      · refine g_iload_n 57 dLink_table_57 rfl ?_
        refine g_iconst 58 (-1) dLink_table_58 rfl ?_
        refine g_icmp_ne 59 68 dLink_table_59 rfl (fun h59 => ?_) (fun h59 => ?_)
        · refine g_iload_n 68 dLink_table_68 rfl ?_
          refine g_aload 69 dLink_table_69 rfl ?_
          refine g_geti 71 5 3 dLink_table_71 fs_Link_208 rfl (hS.tTabE he) ?_
          refine g_icmp_ge 74 87 dLink_table_74 rfl (fun h74 => ?_) (fun h74 => ?_)
          · refine g_iconst 87 0 dLink_table_87 rfl ?_
            exact g_iret 88 dLink_table_88 rfl ⟨rfl, rfl⟩
          · exact absurd hc h74
        · exact absurd (by rw [h59]; decide) hj
      · exact absurd (by rw [h48]; decide) hj
    · exact absurd rfl h21
  · exact absurd (Int32.le_trans (by decide) (Int32.not_lt.mp hj)) h15

set_option maxRecDepth 100000 in
set_option maxHeartbeats 4000000 in
theorem ct_tab_hi1 {X : mX} {l : Launch} {M : mM} {e : Nat} {j : Int32} (hS : Shp M) (he : e < 2) (hj : ¬ j < 0) (hc : mI M (20 + 80 * e) 3 ≤ j) : Ct X l uLink_table (rk 1 21) [.ref 3, .int (nI e), .int 1, .int j] M (fun r M' => r = some (.int 0) ∧ M' = M) := by
  refine Ct.of (by decide) (Nat.le_of_ble_eq_true rfl) ?_
  show G X l uLink_table (rk 1 21) 0 0 M 0 [some (.ref 3), some (.int (nI e)), some (.int 1), some (.int j), none, none] [] _
  refine g_aload_n 0 dLink_table_0 rfl ?_
  refine g_iload_n 1 dLink_table_1 rfl ?_
  refine g_callV 2 [_] dLink_table_2 cs_Link_128 rfl (ci := 0) rfl (by decide) hS.link rfl ⟨(Nat.le_of_ble_eq_true rfl), (Nat.le_of_ble_eq_true rfl)⟩ (Nat.le_of_ble_eq_true rfl) (ct_endOf hS he) (Nat.le_of_ble_eq_true rfl) (Nat.le_of_ble_eq_true rfl) ?_
  rintro _ M2 ⟨rfl, hM2⟩
  rw [hM2]
  clear hM2 M2
  refine g_astore 5 dLink_table_5 (by decide) rfl ?_
  refine g_aload 7 dLink_table_7 rfl ?_
  refine g_ifnull 9 dLink_table_9 ?_
  refine g_iload_n 12 dLink_table_12 rfl ?_
  refine g_bipush 13 (-2) dLink_table_13 rfl ?_
  refine g_icmp_ge 15 20 dLink_table_15 rfl (fun h15 => ?_) (fun h15 => ?_)
  · refine g_iload_n 20 dLink_table_20 rfl ?_
    refine g_if_eq 21 35 dLink_table_21 rfl (fun h21 => ?_) (fun h21 => ?_)
    · exact absurd h21 (by decide)
    · refine g_aload 24 dLink_table_24 rfl ?_
      refine g_getr 26 2 8 dLink_table_26 fs_Link_183 rfl (hS.tEnd he) (hS.rEnd8 he) ?_
      refine g_getr 29 6 0 dLink_table_29 fs_Link_187 rfl (hS.tDec he) (hS.rDec0 he) ?_
      refine g_goto 32 43 dLink_table_32 rfl ?_
      refine g_astore 43 dLink_table_43 (by decide) rfl ?_
      refine g_iload_n 45 dLink_table_45 rfl ?_
      refine g_bipush 46 (-2) dLink_table_46 rfl ?_
      refine g_icmp_ne 48 57 dLink_table_48 rfl (fun h48 => ?_) (fun h48 => ?_)
      · refine g_iload_n 57 dLink_table_57 rfl ?_
        refine g_iconst 58 (-1) dLink_table_58 rfl ?_
        refine g_icmp_ne 59 68 dLink_table_59 rfl (fun h59 => ?_) (fun h59 => ?_)
        · refine g_iload_n 68 dLink_table_68 rfl ?_
          refine g_aload 69 dLink_table_69 rfl ?_
          refine g_geti 71 5 3 dLink_table_71 fs_Link_208 rfl (hS.tTabD he) ?_
          refine g_icmp_ge 74 87 dLink_table_74 rfl (fun h74 => ?_) (fun h74 => ?_)
          · refine g_iconst 87 0 dLink_table_87 rfl ?_
            exact g_iret 88 dLink_table_88 rfl ⟨rfl, rfl⟩
          · exact absurd hc h74
        · exact absurd (by rw [h59]; decide) hj
      · exact absurd (by rw [h48]; decide) hj
  · exact absurd (Int32.le_trans (by decide) (Int32.not_lt.mp hj)) h15

theorem end_ro (x : Int32) : (∃ e, e < 2 ∧ x = nI e) ∨ (¬ x = 0 ∧ ¬ x = 1) := by
  by_cases h0 : x = 0
  · exact Or.inl ⟨0, by decide, h0⟩
  by_cases h1 : x = 1
  · exact Or.inl ⟨1, by decide, h1⟩
  exact Or.inr ⟨h0, h1⟩
def Jw (M : mM) : Prop := ∃ A, RC M A ∧ RR M A ∧ WfD A 0 0 12
theorem RR.farC {M M' : mM} {A : zA} (h : RR M A) (c : Chg M M' cP cP) (hS : Shp M') : RR M' A := by
  obtain ⟨h0, h1, h2, h3, h4, h5, h6, h7, h8, h9, h10, h11⟩ := h
  have hN := h0.1
  have nn : ∀ a j, cP a j → a < 169 := fun a j q => q
  exact ⟨hS, fun d hd => (h1 d hd).mv c hN fun a j q => by have := nn a j q; omega, fun d hd => (h2 d hd).mv c hN fun a j q => by have := nn a j q; omega, h3.mv c hN fun a j q => by have := nn a j q; omega, fun d hd => (h4 d hd).mv c hN fun a j q => by have := nn a j q; omega, fun d g hd hg => (h5 d g hd hg).mv c hN fun a j q => by have := nn a j q; omega, fun d g hd hg => (h6 d g hd hg).mv c hN fun a j q => by have := nn a j q; omega, fun d hd => (h7 d hd).mv c hN fun a j q => by have := nn a j q; omega, fun d g hd hg => (h8 d g hd hg).mv c hN fun a j q => by have := nn a j q; omega, fun d g hd hg => (h9 d g hd hg).mv c hN fun a j q => by have := nn a j q; omega, fun d hd => (h10 d hd).mv c hN fun a j q => by have := nn a j q; omega, fun d hd => (h11 d hd).mv c hN fun a j q => by have := nn a j q; omega⟩
theorem px_s {X : mX} {l : Launch} {uC uM : mU} {as : List Value} {M : mM} {J : mM → Prop} {rC rM : Room} {v : Int32} (h1 : rC.frames ≤ 8 ∧ rC.locals ≤ 200 ∧ rC.cells ≤ 40 ∧ rC.slots ≤ 400) (h2 : rM.frames ≤ 8 ∧ rM.locals ≤ 200 ∧ rM.cells = 0 ∧ rM.slots = 0) (hC : Ct X l uC rC (.ref 3 :: as) M (fun r M' => r = some (.int v) ∧ M' = M)) (hM : Ct X l uM rM (.ref 169 :: as) M (fun r M' => r = some (.int v) ∧ M' = M)) (hS : Shp M) (hJ : J M) : Prx X l uC uM as M J :=
  ⟨rC, rM, h1, h2, hC.post fun r M1 h => ⟨v, h.1, by rw [h.2]; exact hS, by rw [h.2]; exact hM.post fun r' M2 h' => ⟨h'.1, by rw [h'.2]; exact hJ⟩⟩⟩
theorem px_v {X : mX} {l : Launch} {uC uM : mU} {as : List Value} {M : mM} {J : mM → Prop} {rC rM : Room} {v v' : Int32} (h1 : rC.frames ≤ 8 ∧ rC.locals ≤ 200 ∧ rC.cells ≤ 40 ∧ rC.slots ≤ 400) (h2 : rM.frames ≤ 8 ∧ rM.locals ≤ 200 ∧ rM.cells = 0 ∧ rM.slots = 0) (hC : Ct X l uC rC (.ref 3 :: as) M (fun r M' => r = some (.int v) ∧ M' = M)) (hM : Ct X l uM rM (.ref 169 :: as) M (fun r M' => r = some (.int v') ∧ M' = M)) (hS : Shp M) (hJ : J M) (hv : v' = v) : Prx X l uC uM as M J := by
  subst hv
  exact px_s h1 h2 hC hM hS hJ
theorem px_c {X : mX} {l : Launch} {uC uM : mU} {as : List Value} {M : mM} {A B : zA} {rC rM : Room} {v : Int32} (h1 : rC.frames ≤ 8 ∧ rC.locals ≤ 200 ∧ rC.cells ≤ 40 ∧ rC.slots ≤ 400) (h2 : rM.frames ≤ 8 ∧ rM.locals ≤ 200 ∧ rM.cells = 0 ∧ rM.slots = 0) (hC : Ct X l uC rC (.ref 3 :: as) M (fun r M' => r = some (.int v) ∧ RC M' B ∧ Chg M M' cP cP)) (hM : ∀ M1, RR M1 A → Ct X l uM rM (.ref 169 :: as) M1 (fun r M' => r = some (.int v) ∧ RR M' B ∧ Chg M1 M' mP no2)) (hR : RR M A) (hW : WfD B 0 0 12) : Prx X l uC uM as M Jw :=
  ⟨rC, rM, h1, h2, hC.post fun r M1 h => ⟨v, h.1, h.2.1.1, (hM M1 (hR.farC h.2.2 h.2.1.1)).post fun r' M2 h' => ⟨h'.1, B, h.2.1.far h'.2.2 (fun _ _ q => q) (fun _ _ q => q), h'.2.1, hW⟩⟩⟩
theorem pl_s {X : mX} {l : Launch} {uC uM : mU} {as : List Value} {M : mM} {J : mM → Prop} {rC rM : Room} {v : Int64} (h1 : rC.frames ≤ 8 ∧ rC.locals ≤ 200 ∧ rC.cells ≤ 40 ∧ rC.slots ≤ 400) (h2 : rM.frames ≤ 8 ∧ rM.locals ≤ 200 ∧ rM.cells = 0 ∧ rM.slots = 0) (hC : Ct X l uC rC (.ref 3 :: as) M (fun r M' => r = some (.long v) ∧ M' = M)) (hM : Ct X l uM rM (.ref 169 :: as) M (fun r M' => r = some (.long v) ∧ M' = M)) (hS : Shp M) (hJ : J M) : Prl X l uC uM as M J :=
  ⟨rC, rM, h1, h2, hC.post fun r M1 h => ⟨v, h.1, by rw [h.2]; exact hS, by rw [h.2]; exact hM.post fun r' M2 h' => ⟨h'.1, by rw [h'.2]; exact hJ⟩⟩⟩
theorem pl_v {X : mX} {l : Launch} {uC uM : mU} {as : List Value} {M : mM} {J : mM → Prop} {rC rM : Room} {v v' : Int64} (h1 : rC.frames ≤ 8 ∧ rC.locals ≤ 200 ∧ rC.cells ≤ 40 ∧ rC.slots ≤ 400) (h2 : rM.frames ≤ 8 ∧ rM.locals ≤ 200 ∧ rM.cells = 0 ∧ rM.slots = 0) (hC : Ct X l uC rC (.ref 3 :: as) M (fun r M' => r = some (.long v) ∧ M' = M)) (hM : Ct X l uM rM (.ref 169 :: as) M (fun r M' => r = some (.long v') ∧ M' = M)) (hS : Shp M) (hJ : J M) (hv : v' = v) : Prl X l uC uM as M J := by
  subst hv
  exact pl_s h1 h2 hC hM hS hJ
theorem pl_c {X : mX} {l : Launch} {uC uM : mU} {as : List Value} {M : mM} {A B : zA} {rC rM : Room} {v : Int64} (h1 : rC.frames ≤ 8 ∧ rC.locals ≤ 200 ∧ rC.cells ≤ 40 ∧ rC.slots ≤ 400) (h2 : rM.frames ≤ 8 ∧ rM.locals ≤ 200 ∧ rM.cells = 0 ∧ rM.slots = 0) (hC : Ct X l uC rC (.ref 3 :: as) M (fun r M' => r = some (.long v) ∧ RC M' B ∧ Chg M M' cP cP)) (hM : ∀ M1, RR M1 A → Ct X l uM rM (.ref 169 :: as) M1 (fun r M' => r = some (.long v) ∧ RR M' B ∧ Chg M1 M' mP no2)) (hR : RR M A) (hW : WfD B 0 0 12) : Prl X l uC uM as M Jw :=
  ⟨rC, rM, h1, h2, hC.post fun r M1 h => ⟨v, h.1, h.2.1.1, (hM M1 (hR.farC h.2.2 h.2.1.1)).post fun r' M2 h' => ⟨h'.1, B, h.2.1.far h'.2.2 (fun _ _ q => q) (fun _ _ q => q), h'.2.1, hW⟩⟩⟩
theorem ms_st {A : zA} {e k : Nat} (h : ¬ msZ A e k = 0) : zI A (29 + 80 * e + 5 * k) 1 = 1 ∨ zI A (29 + 80 * e + 5 * k) 1 = 3 := by
  by_cases hs : zI A (29 + 80 * e + 5 * k) 1 = 1 ∨ zI A (29 + 80 * e + 5 * k) 1 = 3
  · exact hs
  · exact absurd (ms_0 hs) h
theorem st_n0 {v : Int32} (h : v = 1 ∨ v = 3) : ¬ v = 0 := by rcases h with q | q <;> rw [q] <;> decide
theorem ac_n0 {A : zA} {e k : Nat} (h : ¬ acZ A e k = 0) : ¬ zI A (29 + 80 * e + 5 * k) 1 = 0 := fun q => h (by unfold acZ; rw [q]; decide)
theorem nat_wi {v : Int32} {m : Nat} (hm : m < 2 ^ 31) {a : Int32} (h : ¬ wi v a (nI m) = 0) (ha : 0 ≤ a) : ∃ n : Nat, n ≤ m ∧ v = nI n := by
  obtain ⟨h1, h2⟩ := wi_in h
  have h0 : ¬ v < 0 := Int32.not_lt.mpr (Int32.le_trans ha h1)
  have e1 := nI_cl h0
  have b1 := v.toNatClampNeg_lt
  refine ⟨v.toNatClampNeg, ?_, e1.symm⟩
  rw [← e1] at h2
  exact (nI_leI b1 hm).mp h2
theorem unrd_mem {U : List (Int32 × Int32)} {k : Nat} {y : Int32} (h : y ∈ unrd U k) : ∃ p, p ∈ U ∧ p.2 = y := by
  unfold unrd at h
  obtain ⟨p, hp, rfl⟩ := List.mem_map.mp h
  exact ⟨p, (List.mem_filter.mp hp).1, rfl⟩
theorem wfE {A : zA} {e d x : Nat} (h : WfD A e 0 x) : WfD A d 0 x := wf_fo h
set_option maxRecDepth 100000 in
set_option maxHeartbeats 4000000 in
theorem pw_header {X : mX} {l : Launch} {M : mM} (hX : FX X) (hJ : Jw M) (a1 a2 a3 a4 : Int32) : Prx X l uLink_header uMod_header [.int a1, .int a2, .int a3, .int (bz a4)] M Jw := by
  have hJ0 := hJ
  obtain ⟨A, hC, hR, hW⟩ := hJ0
  rcases end_ro a1 with ⟨e, he, rfl⟩ | ⟨h0, h1⟩
  · have kd : Kdown M e = zI A (9 + 80 * e) 3 := hC.sI (sc_E (j := 3) he (by omega))
    have rd : Rdowns M e = zI A (9 + 80 * e) 3 := hR.dn he
    by_cases hu : zI A (9 + 80 * e) 3 = 0
    · have ku : Kdown M e = 0 := kd.trans hu
      have ru : Rdowns M e = 0 := rd.trans hu
      by_cases ha : wi a2 0 15 = 0
      · exact px_s (by decide) (by decide) (ct_Link_header_bad hC.1 he ku ha) (cm_header_bad hR.1 he ru ha) hC.1 hJ
      by_cases hc6 : (zK A e).length < 6
      · exact px_c (by decide) (by decide) (ct_headerR hC he hu ha hc6 (bz_z _)) (fun M1 h => cm_headerR h he hu ha hc6 (bz_z _)) hR (hW)
      · have h6 := hC.mk6 he
        exact px_s (by decide) (by decide) (ct_Link_header_full hC.1 he ku (by rw [hC.mkc he]; exact fun q => hc6 ((nI_ltI (b := 6) (by omega) (by decide)).mp q))) (cm_header_full hR.1 he ru (by rw [(hR.mk he).1]; exact fun q => hc6 ((nI_ltI (b := 6) (by omega) (by decide)).mp q))) hC.1 hJ
    · have ku : ¬ Kdown M e = 0 := by rw [kd]; exact hu
      have ru : ¬ Rdowns M e = 0 := by rw [rd]; exact hu
      exact px_s (by decide) (by decide) (ct_Link_header_dn hC.1 he ku) (cm_header_dn hR.1 he ru) hC.1 hJ
  · exact px_s (by decide) (by decide) (ct_Link_header_no hC.1 h0 h1) (cm_header_no hR.1 h0 h1) hC.1 hJ

set_option maxRecDepth 100000 in
set_option maxHeartbeats 4000000 in
theorem pw_request {X : mX} {l : Launch} {M : mM} (hX : FX X) (hJ : Jw M) (a1 : Int32) : Prx X l uLink_request uMod_request [.int (bz a1)] M Jw := by
  have hJ0 := hJ
  obtain ⟨A, hC, hR, hW⟩ := hJ0
  have kd : Kdown M 0 = zI A (9 + 80 * 0) 3 := hC.sI (sc_E (j := 3) (e := 0) (by decide) (by omega))
  have rd : Rdowns M 0 = zI A (9 + 80 * 0) 3 := hR.dn (by decide)
  by_cases hu : zI A (9 + 80 * 0) 3 = 0
  · have ku : Kdown M 0 = 0 := kd.trans hu
    have ru : Rdowns M 0 = 0 := rd.trans hu
    obtain ⟨r0, hr1, hr2, hr3⟩ := hR.2.2.2.1
    have h6 := hC.mk6 (e := 0) (by decide)
    by_cases hm : moZ A 0 = 0
    · have hd : ¬ Rrequests M < 12 ∨ Rmaking M 0 = 0 ∨ ¬ nI (cntA M 0 12) < Rtold M 1 := by
        rw [hr2, (hR.mk (e := 0) (by decide)).1, hR.cnt (e := 0) (by decide) 12 (Nat.le_refl _), show Rtold M 1 = zI A (25 + 80 * 0) 1 from (hR.se (e := 0) (by decide)).2.1.1]
        unfold moZ at hm
        rw [show zI A (9 + 80 * 0) 15 = nI (2 * r0 + 1) from hr3] at hm
        by_cases q1 : (23 : Int32) < nI (2 * r0 + 1)
        · have := (nI_ltI (a := 23) (b := 2 * r0 + 1) (by decide) (by omega)).mp q1
          exact Or.inl fun q => absurd ((nI_ltI (a := r0) (b := 12) (by omega) (by decide)).mp q) (by omega)
        · rw [if_neg q1] at hm
          by_cases q2 : nI (zK A 0).length ≤ 0
          · have := (nI_leI (a := (zK A 0).length) (b := 0) (by omega) (by decide)).mp q2
            exact Or.inr (Or.inl (by rw [show (zK A 0).length = 0 by omega]; rfl))
          · rw [if_neg q2] at hm
            by_cases q3 : zI A (25 + 80 * 0) 1 ≤ nI (cntZ A 0 12)
            · exact Or.inr (Or.inr (Int32.not_lt.mpr q3))
            · rw [if_neg q3] at hm
              exact absurd hm (by decide)
      exact px_s (by decide) (by decide) (ct_Link_request_0 hC.1 ku (by rw [hC.mo (by decide)]; exact hm)) (cm_request_0 hR.1 ru hd) hC.1 hJ
    · have hk : r0 < 12 := by
        rcases Nat.lt_or_ge r0 12 with q | q
        · exact q
        · exact absurd (by unfold moZ; rw [if_pos (by rw [show zI A (9 + 80 * 0) 15 = nI (2 * r0 + 1) from hr3]; exact (nI_ltI (a := 23) (b := 2 * r0 + 1) (by decide) (by omega)).mpr (by omega))]) hm
      by_cases hf : 30 ≤ (zP A (1 - 0)).length
      · exact px_s (by decide) (by decide) (ct_request_full hC (by decide) rfl hm hu hf) (cm_request_full hR (by decide) hk rfl hr3 hm hu hf) hC.1 hJ
      · obtain ⟨r, r1, r2, r3⟩ := hW.2.2.2
        have hrr : r = r0 := by have := (nI_eq (a := 2 * r + 1) (b := 2 * r0 + 1) (by omega) (by omega)).mp (r2.symm.trans hr3); omega
        subst hrr
        have hid := r3 r (Nat.le_refl _) hk
        obtain ⟨a1_, a2_, a3_, a4_, a5_⟩ := hW.2.2.1 0 r (by decide) hk
        obtain ⟨b1_, b2_, b3_, b4_, b5_, b6_⟩ := hW.1 0 (by decide)
        obtain ⟨mm, hmm, hmb⟩ := b2_ 0 (by decide)
        exact px_c (by decide) (by decide) (ct_requestR hC (by decide) rfl hk hX (bz_z _) hr3 hm hu (by omega)) (fun M1 h => cm_requestR h (by decide) hk rfl (bz_z _) hr3 hm hid (a3_ hid).1 b3_ hmb hmm hu (by omega)) hR (wf_opS hW hk h6 (bz_z _) hr3 hid)
  · have ku : ¬ Kdown M 0 = 0 := by rw [kd]; exact hu
    have ru : ¬ Rdowns M 0 = 0 := by rw [rd]; exact hu
    exact px_s (by decide) (by decide) (ct_Link_request_dn hC.1 ku) (cm_request_dn hR.1 ru) hC.1 hJ

set_option maxRecDepth 100000 in
set_option maxHeartbeats 4000000 in
theorem pw_respond {X : mX} {l : Launch} {M : mM} (hX : FX X) (hJ : Jw M) (a1 a2 : Int32) : Prx X l uLink_respond uMod_respond [.int a1, .int (bz a2)] M Jw := by
  have hJ0 := hJ
  obtain ⟨A, hC, hR, hW⟩ := hJ0
  have he : 1 < 2 := by decide
  have kd : Kdown M 1 = zI A (9 + 80 * 1) 3 := hC.sI (sc_E (j := 3) (e := 1) (by decide) (by omega))
  have rd : Rdowns M 1 = zI A (9 + 80 * 1) 3 := hR.dn (by decide)
  by_cases hu : zI A (9 + 80 * 1) 3 = 0
  · have ku : Kdown M 1 = 0 := kd.trans hu
    have ru : Rdowns M 1 = 0 := rd.trans hu
    by_cases hx : isStr a1
    · obtain ⟨k, hk, rfl⟩ := hx
      have h6 := hC.mk6 he
      by_cases hm : msZ A 1 k = 0
      · have hs := fun q => ms_1 (A := A) (e := 1) (k := k) q hm
        exact px_s (by decide) (by decide) (ct_Link_respond_st hC.1 ku hk (by rw [hC.ms he hk]; exact hm)) (cm_respond_0 hR.1 ru hk (Or.inr (Or.inl (by have := hR.sta (e := 1) he hk; rw [show 12 * 1 + k = 12 + k by omega] at this; rw [this]; exact ⟨fun q => hs (Or.inl q), fun q => hs (Or.inr q)⟩)))) hC.1 hJ
      have hst := ms_st hm
      by_cases h5 : zI A (29 + 80 * 1 + 5 * k) 5 = 0
      · by_cases hmk : (zK A 1).length = 0
        · exact px_s (by decide) (by decide) (ct_respond_mk hC he hk rfl hmk hu) (cm_respond_0 hR.1 ru hk (Or.inl ((hR.mk he).1.trans (by rw [hmk]; rfl)))) hC.1 hJ
        · by_cases hf : 30 ≤ (zP A (1 - 1)).length
          · exact px_s (by decide) (by decide) (ct_respond_full hC he hk rfl hm h5 hmk hu hf) (cm_respond_full hR he hk rfl hst h5 hmk hu hf) hC.1 hJ
          · obtain ⟨a1_, a2_, a3_, a4_, a5_⟩ := hW.2.2.1 1 k he hk
            obtain ⟨b1_, b2_, b3_, b4_, b5_, b6_⟩ := hW.1 1 he
            obtain ⟨mm, hmm, hmb⟩ := b2_ 0 (by decide)
            exact px_c (by decide) (by decide) (ct_respondR hC he hk rfl hX (bz_z _) hm h5 hmk hu (by omega)) (fun M1 h => cm_respondR h he hk rfl (bz_z _) hst h5 hmk (a2_ h5) b3_ hmb hmm hu (by omega)) hR (wf_sHd hW he hk h6 (bz_z _) (st_n0 hst))
      · exact px_s (by decide) (by decide) (ct_respond_hs hC he hk rfl h5 hu) (cm_respond_0 hR.1 ru hk (Or.inr (Or.inr (by have := (hR.stk (e := 1) he hk).2.2.2.1 rfl; rw [show 12 * 1 + k = 12 + k by omega] at this; rw [this]; exact h5)))) hC.1 hJ
    · exact px_s (by decide) (by decide) (ct_Link_respond_ns hC.1 ku hx) (cm_respond_ns hR.1 ru hx) hC.1 hJ
  · have ku : ¬ Kdown M 1 = 0 := by rw [kd]; exact hu
    have ru : ¬ Rdowns M 1 = 0 := by rw [rd]; exact hu
    exact px_s (by decide) (by decide) (ct_Link_respond_dn hC.1 ku) (cm_respond_dn hR.1 ru) hC.1 hJ

set_option maxRecDepth 100000 in
set_option maxHeartbeats 4000000 in
theorem pw_write {X : mX} {l : Launch} {M : mM} (hX : FX X) (hJ : Jw M) (a1 a2 a3 a4 a5 a6 : Int32) : Prx X l uLink_write uMod_write [.int a1, .int a2, .long (lng a3 a4), .int a5, .int (bz a6)] M Jw := by
  have hJ0 := hJ
  obtain ⟨A, hC, hR, hW⟩ := hJ0
  rcases end_ro a1 with ⟨e, he, rfl⟩ | ⟨h0, h1⟩
  · have kd : Kdown M e = zI A (9 + 80 * e) 3 := hC.sI (sc_E (j := 3) he (by omega))
    have rd : Rdowns M e = zI A (9 + 80 * e) 3 := hR.dn he
    by_cases hu : zI A (9 + 80 * e) 3 = 0
    · have ku : Kdown M e = 0 := kd.trans hu
      have ru : Rdowns M e = 0 := rd.trans hu
      by_cases hx : isStr a2
      · obtain ⟨k, hk, rfl⟩ := hx
        obtain ⟨a1_, a2_, a3_, a4_, a5_⟩ := hW.2.2.1 e k he hk
        by_cases hm : msZ A e k = 0
        · have hs := fun q => ms_1 (A := A) (e := e) (k := k) q hm
          exact px_s (by decide) (by decide) (ct_Link_write_st hC.1 he hk ku (by rw [hC.ms he hk]; exact hm)) (cm_write_st hR.1 he hk ru (by rw [hR.sta he hk]; exact ⟨fun q => hs (Or.inl q), fun q => hs (Or.inr q)⟩)) hC.1 hJ
        have hst := ms_st hm
        by_cases h5 : zI A (29 + 80 * e + 5 * k) 5 = 0
        · have e1 : e = 1 := by
            rcases Nat.lt_or_ge e 1 with q | q
            · exact absurd h5 (a4_ (by omega) (by omega) (st_n0 hst))
            · omega
          exact px_s (by decide) (by decide) (ct_write_hs hC he hk h5 hu) (cm_write_hs hR he hk e1 h5 hu) hC.1 hJ
        by_cases h6 : zI A (29 + 80 * e + 5 * k) 6 = 0
        · by_cases hn : wi a5 0 8 = 0
          · exact px_s (by decide) (by decide) (ct_write_bad hC he hk hn hu) (cm_write_bad hR he hk hn hu) hC.1 hJ
          · obtain ⟨N, h8, rfl⟩ := nat_wi (m := 8) (by decide) hn (by decide)
            by_cases hh : (zW A e k).length + N ≤ 32
            · exact px_c (by decide) (by decide) (ct_writeR hC he hk (bz_z _) h8 hm h5 h6 hh hu) (fun M1 h => cm_writeR h he hk (bz_z _) h8 hst (fun _ => h5) h6 hh hu) hR (wf_wr hW he hk (bz_z _) h5 (st_n0 hst))
            · exact px_s (by decide) (by decide) (ct_write_big hC he hk h8 hh hu) (cm_write_big hR he hk h8 hh hu) hC.1 hJ
        · exact px_s (by decide) (by decide) (ct_write_ls hC he hk h6 hu) (cm_write_ls hR he hk h6 hu) hC.1 hJ
      · exact px_s (by decide) (by decide) (ct_Link_write_ns hC.1 he ku hx) (cm_write_ns hR.1 he ru hx) hC.1 hJ
    · have ku : ¬ Kdown M e = 0 := by rw [kd]; exact hu
      have ru : ¬ Rdowns M e = 0 := by rw [rd]; exact hu
      exact px_s (by decide) (by decide) (ct_Link_write_dn hC.1 he ku) (cm_write_dn hR.1 he ru) hC.1 hJ
  · exact px_s (by decide) (by decide) (ct_Link_write_no hC.1 h0 h1) (cm_write_no hR.1 h0 h1) hC.1 hJ

set_option maxRecDepth 100000 in
set_option maxHeartbeats 4000000 in
theorem pw_pump {X : mX} {l : Launch} {M : mM} (hX : FX X) (hJ : Jw M) (a1 a2 : Int32) : Prx X l uLink_pump uMod_pump [.int a1, .int a2] M Jw := by
  have hJ0 := hJ
  obtain ⟨A, hC, hR, hW⟩ := hJ0
  rcases end_ro a1 with ⟨e, he, rfl⟩ | ⟨h0, h1⟩
  · have kd : Kdown M e = zI A (9 + 80 * e) 3 := hC.sI (sc_E (j := 3) he (by omega))
    have rd : Rdowns M e = zI A (9 + 80 * e) 3 := hR.dn he
    by_cases hu : zI A (9 + 80 * e) 3 = 0
    · have ku : Kdown M e = 0 := kd.trans hu
      have ru : Rdowns M e = 0 := rd.trans hu
      by_cases hn : wi a2 1 8 = 0
      · exact px_s (by decide) (by decide) (ct_Link_pump_bad hC.1 he ku hn) (cm_pump_bad hR.1 he ru hn) hC.1 hJ
      · obtain ⟨N, h8, rfl⟩ := nat_wi (m := 8) (by decide) hn (by decide)
        have hN1 : 1 ≤ N := (nI_leI (a := 1) (b := N) (by decide) (by omega)).mp (wi_in hn).1
        obtain ⟨b1_, b2_, b3_, b4_, b5_, q, hq12, hq⟩ := hW.1 e he
        have hw : pmW A e q := ⟨fun k hk => (hW.2.2.1 e k he hk).1, hq, hq12⟩
        exact px_c (by decide) (by decide) (ct_pumpR hC he hN1 h8 hw hu) (fun M1 h => cm_pumpR h he hN1 h8 hw (fun k hk => (hW.2.2.1 e k he hk).2.2.2.2) hu) hR (wf_pmp he N q A hW)
    · have ku : ¬ Kdown M e = 0 := by rw [kd]; exact hu
      have ru : ¬ Rdowns M e = 0 := by rw [rd]; exact hu
      exact px_s (by decide) (by decide) (ct_Link_pump_dn hC.1 he ku) (cm_pump_dn hR.1 he ru) hC.1 hJ
  · exact px_s (by decide) (by decide) (ct_Link_pump_no hC.1 h0 h1) (cm_pump_no hR.1 h0 h1) hC.1 hJ

set_option maxRecDepth 100000 in
set_option maxHeartbeats 4000000 in
theorem pw_read {X : mX} {l : Launch} {M : mM} (hX : FX X) (hJ : Jw M) (a1 a2 a3 : Int32) : Prl X l uLink_read uMod_read [.int a1, .int a2, .int a3] M Jw := by
  have hJ0 := hJ
  obtain ⟨A, hC, hR, hW⟩ := hJ0
  rcases end_ro a1 with ⟨e, he, rfl⟩ | ⟨h0, h1⟩
  · have kd : Kdown M e = zI A (9 + 80 * e) 3 := hC.sI (sc_E (j := 3) he (by omega))
    have rd : Rdowns M e = zI A (9 + 80 * e) 3 := hR.dn he
    by_cases hu : zI A (9 + 80 * e) 3 = 0
    · have ku : Kdown M e = 0 := kd.trans hu
      have ru : Rdowns M e = 0 := rd.trans hu
      by_cases hx : isStr a2
      · obtain ⟨k, hk, rfl⟩ := hx
        obtain ⟨a1_, a2_, a3_, a4_, a5_⟩ := hW.2.2.1 e k he hk
        by_cases hs : zI A (29 + 80 * e + 5 * k) 1 = 0
        · exact pl_s (by decide) (by decide) (ct_Link_read_st hC.1 he hk ku ((hC.sI (sc_S (j := 1) he hk (by omega) (by omega))).trans hs)) (cm_read_st hR.1 he hk ru ((hR.opn he hk).mpr hs)) hC.1 hJ
        by_cases hn : wi a3 1 7 = 0
        · exact pl_s (by decide) (by decide) (ct_read_bad hC he hk hn hu) (cm_read_bad hR he hk hn hu) hC.1 hJ
        obtain ⟨N, h7, rfl⟩ := nat_wi (m := 7) (by decide) hn (by decide)
        have hN1 : 1 ≤ N := (nI_leI (a := 1) (b := N) (by decide) (by omega)).mp (wi_in hn).1
        by_cases hf : 30 ≤ (zP A (1 - e)).length
        · exact pl_s (by decide) (by decide) (ct_read_full hC he hk hs hn hu hf) (cm_read_full hR he hk hN1 h7 hs hu hf) hC.1 hJ
        · have hb : ∀ x, x ∈ unrd (zU A e) k → bW x := fun x hx => by
            obtain ⟨p, hp, rfl⟩ := unrd_mem hx
            exact (hW.2.1 e he).2.2 p hp
          exact pl_c (by decide) (by decide) (ct_readR hC he hk hs hn ((nI_leI (a := N) (b := 8) (by omega) (by decide)).mpr (by omega)) hu (by omega)) (fun M1 h => cm_readR h he hk hN1 h7 hs hb hu (by omega)) hR (wf_fo (wf_rd (wf_fo hW) he hk))
      · exact pl_s (by decide) (by decide) (ct_Link_read_ns hC.1 he ku hx) (cm_read_ns hR.1 he ru hx) hC.1 hJ
    · have ku : ¬ Kdown M e = 0 := by rw [kd]; exact hu
      have ru : ¬ Rdowns M e = 0 := by rw [rd]; exact hu
      exact pl_s (by decide) (by decide) (ct_Link_read_dn hC.1 he ku) (cm_read_dn hR.1 he ru) hC.1 hJ
  · exact pl_s (by decide) (by decide) (ct_Link_read_no hC.1 h0 h1) (cm_read_no hR.1 h0 h1) hC.1 hJ

set_option maxRecDepth 100000 in
set_option maxHeartbeats 4000000 in
theorem pw_reset {X : mX} {l : Launch} {M : mM} (hX : FX X) (hJ : Jw M) (a1 a2 a3 : Int32) : Prx X l uLink_reset uMod_reset [.int a1, .int a2, .int a3] M Jw := by
  have hJ0 := hJ
  obtain ⟨A, hC, hR, hW⟩ := hJ0
  rcases end_ro a1 with ⟨e, he, rfl⟩ | ⟨h0, h1⟩
  · have kd : Kdown M e = zI A (9 + 80 * e) 3 := hC.sI (sc_E (j := 3) he (by omega))
    have rd : Rdowns M e = zI A (9 + 80 * e) 3 := hR.dn he
    by_cases hu : zI A (9 + 80 * e) 3 = 0
    · have ku : Kdown M e = 0 := kd.trans hu
      have ru : Rdowns M e = 0 := rd.trans hu
      by_cases hx : isStr a2
      · obtain ⟨k, hk, rfl⟩ := hx
        obtain ⟨a1_, a2_, a3_, a4_, a5_⟩ := hW.2.2.1 e k he hk
        by_cases ha : acZ A e k = 0
        · exact px_s (by decide) (by decide) (ct_Link_reset_st hC.1 he hk ku (by rw [hC.ac he hk]; exact ha)) (cm_reset_st hR.1 he hk ru (by rw [hR.ac he hk]; exact ha)) hC.1 hJ
        by_cases hn : wi a3 0 15 = 0
        · exact px_s (by decide) (by decide) (ct_reset_bad hC he hk hn hu) (cm_reset_bad hR he hk hn hu) hC.1 hJ
        by_cases hf : 30 ≤ (zP A (1 - e)).length
        · exact px_s (by decide) (by decide) (ct_reset_full hC he hk hu hf) (cm_reset_full hR he hk hu hf) hC.1 hJ
        · exact px_c (by decide) (by decide) (ct_resetR hC he hk ha hn hu (by omega)) (fun M1 h => cm_resetR h he hk ha hn hu (by omega)) hR (wf_fo (wf_rst0 (wf_fo hW) he hk (fun _ => ac_n0 ha)))
      · exact px_s (by decide) (by decide) (ct_Link_reset_ns hC.1 he ku hx) (cm_reset_ns hR.1 he ru hx) hC.1 hJ
    · have ku : ¬ Kdown M e = 0 := by rw [kd]; exact hu
      have ru : ¬ Rdowns M e = 0 := by rw [rd]; exact hu
      exact px_s (by decide) (by decide) (ct_Link_reset_dn hC.1 he ku) (cm_reset_dn hR.1 he ru) hC.1 hJ
  · exact px_s (by decide) (by decide) (ct_Link_reset_no hC.1 h0 h1) (cm_reset_no hR.1 h0 h1) hC.1 hJ

set_option maxRecDepth 100000 in
set_option maxHeartbeats 4000000 in
theorem pw_setting {X : mX} {l : Launch} {M : mM} (hX : FX X) (hJ : Jw M) (a1 a2 a3 : Int32) : Prx X l uLink_setting uMod_setting [.int a1, .int a2, .int a3] M Jw := by
  have hJ0 := hJ
  obtain ⟨A, hC, hR, hW⟩ := hJ0
  rcases end_ro a1 with ⟨e, he, rfl⟩ | ⟨h0, h1⟩
  · have kd : Kdown M e = zI A (9 + 80 * e) 3 := hC.sI (sc_E (j := 3) he (by omega))
    have rd : Rdowns M e = zI A (9 + 80 * e) 3 := hR.dn he
    by_cases hu : zI A (9 + 80 * e) 3 = 0
    · have ku : Kdown M e = 0 := kd.trans hu
      have ru : Rdowns M e = 0 := rd.trans hu
      by_cases hk : knC a2 = 0
      · exact px_s (by decide) (by decide) (ct_Link_setting_bad hC.1 he ku (Or.inl hk)) (cm_setting_bad hR.1 he ru (Or.inl hk)) hC.1 hJ
      by_cases hr : rgC a2 a3 = 0
      · exact px_s (by decide) (by decide) (ct_Link_setting_bad hC.1 he ku (Or.inr hr)) (cm_setting_bad hR.1 he ru (Or.inr hr)) hC.1 hJ
      have hd8 := hC.pd8 he
      have hpl := hR.pl (e := 1 - e) (by omega)
      by_cases h8 : (zD A e).length < 8
      · by_cases hf : (zP A (1 - e)).length < 30
        · exact px_c (by decide) (by decide) (ct_settingR hC he hk hr h8 hu hf) (fun M1 h => cm_settingR h he hk hr h8 hu hf) hR (wf_sSt hW he hk)
        · exact px_s (by decide) (by decide) (ct_Link_setting_full hC.1 he ku (Or.inr (by rw [hC.poc he]; exact fun q => hf ((nI_ltI (b := 30) (by omega) (by decide)).mp q)))) (cm_setting_full hR.1 he ru (Or.inr (by rw [hR.pc (by omega)]; exact fun q => hf ((nI_ltI (b := 30) (by omega) (by decide)).mp q)))) hC.1 hJ
      · exact px_s (by decide) (by decide) (ct_Link_setting_full hC.1 he ku (Or.inl (by rw [hC.pdc he]; exact (nI_leI (a := 8) (by decide) (by omega)).mpr (by omega)))) (cm_setting_full hR.1 he ru (Or.inl (by rw [(hR.pd he).1]; exact (nI_leI (a := 8) (by decide) (by omega)).mpr (by omega)))) hC.1 hJ
    · have ku : ¬ Kdown M e = 0 := by rw [kd]; exact hu
      have ru : ¬ Rdowns M e = 0 := by rw [rd]; exact hu
      exact px_s (by decide) (by decide) (ct_Link_setting_dn hC.1 he ku) (cm_setting_dn hR.1 he ru) hC.1 hJ
  · exact px_s (by decide) (by decide) (ct_Link_setting_no hC.1 h0 h1) (cm_setting_no hR.1 h0 h1) hC.1 hJ

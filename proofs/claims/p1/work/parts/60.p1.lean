
set_option maxRecDepth 100000 in
set_option maxHeartbeats 4000000 in
theorem p1_header {X : mX} {l : Launch} {M : mM} (hm : M = mi) (hs : Shp M) (a1 a2 a3 a4 : Int32) : Prx X l uLink_header uMod_header [.int a1, .int a2, .int a3, .int (bz a4)] M Shp := by
  rcases end_or a1 with ⟨e, he, rfl⟩ | ⟨h0, h1⟩
  · by_cases hn : wi a2 0 15 = 0
    · exact prx_mk (by decide) (by decide) (ct_Link_header_bad hs he ((f_down hm) e he) hn) hs (cm_header_bad hs he ((f_rdown hm) e he) hn) rfl hs
    · have hS1 : Shp (setI (setI (setI (setI M (11 + 80 * e) 0 a2) (12 + 80 * e) 0 a3) (13 + 80 * e) 0 (bz a4)) (10 + 80 * e) 3 (nI (0 + 1))) := hs
      have hR : ∀ x j, 169 ≤ x → mI (setI (setI (setI (setI M (11 + 80 * e) 0 a2) (12 + 80 * e) 0 a3) (13 + 80 * e) 0 (bz a4)) (10 + 80 * e) 3 (nI (0 + 1))) x j = mI M x j := fun x j hx => by
        rw [mI_setI, up2_a (by omega), mI_setI, up2_a (by omega), mI_setI, up2_a (by omega), mI_setI, up2_a (by omega)]
      exact prx_mk (by decide) (by decide) (ct_Link_header hs he ((f_down hm) e he) hn ((f_fl hm) e he) (by decide) (bz_z _)) hS1 (cm_header hS1 he ((hR _ _ (by decide)).trans ((f_rdown hm) e he)) hn (c := 0) ((hR _ _ (by decide)).trans ((f_mk hm) e he)) (by decide) (bz_z _)) rfl hS1
  · exact prx_mk (by decide) (by decide) (ct_Link_header_no hs h0 h1) hs (cm_header_no hs h0 h1) rfl hs

set_option maxRecDepth 100000 in
set_option maxHeartbeats 4000000 in
theorem p1_request {X : mX} {l : Launch} {M : mM} (hm : M = mi) (hs : Shp M) (a1 : Int32) : Prx X l uLink_request uMod_request [.int (bz a1)] M Shp := by
  exact prx_mk (by decide) (by decide) (ct_Link_request_0 hs ((f_down hm) 0 (by decide)) (f_mo hm)) hs (cm_request_0 hs ((f_rdown hm) 0 (by decide)) (Or.inr (Or.inl ((f_mk hm) 0 (by decide))))) rfl hs

set_option maxRecDepth 100000 in
set_option maxHeartbeats 4000000 in
theorem p1_respond {X : mX} {l : Launch} {M : mM} (hm : M = mi) (hs : Shp M) (a1 a2 : Int32) : Prx X l uLink_respond uMod_respond [.int a1, .int (bz a2)] M Shp := by
  by_cases hx : isStr a1
  · obtain ⟨k, hk, rfl⟩ := hx
    exact prx_mk (by decide) (by decide) (ct_Link_respond_st hs ((f_down hm) 1 (by decide)) hk ((f_ms hm) 1 (by decide) k hk)) hs (cm_respond_0 hs ((f_rdown hm) 1 (by decide)) hk (Or.inl ((f_mk hm) 1 (by decide)))) rfl hs
  · exact prx_mk (by decide) (by decide) (ct_Link_respond_ns hs ((f_down hm) 1 (by decide)) hx) hs (cm_respond_ns hs ((f_rdown hm) 1 (by decide)) hx) rfl hs

set_option maxRecDepth 100000 in
set_option maxHeartbeats 4000000 in
theorem p1_write {X : mX} {l : Launch} {M : mM} (hm : M = mi) (hs : Shp M) (a1 a2 a3 a4 a5 a6 : Int32) : Prx X l uLink_write uMod_write [.int a1, .int a2, .long (lng a3 a4), .int a5, .int (bz a6)] M Shp := by
  rcases end_or a1 with ⟨e, he, rfl⟩ | ⟨h0, h1⟩
  · by_cases hx : isStr a2
    · obtain ⟨k, hk, rfl⟩ := hx
      exact prx_mk (by decide) (by decide) (ct_Link_write_st hs he hk ((f_down hm) e he) ((f_ms hm) e he k hk)) hs (cm_write_st hs he hk ((f_rdown hm) e he) (by rw [(f_st hm) _ (by omega)]; decide)) rfl hs
    · exact prx_mk (by decide) (by decide) (ct_Link_write_ns hs he ((f_down hm) e he) hx) hs (cm_write_ns hs he ((f_rdown hm) e he) hx) rfl hs
  · exact prx_mk (by decide) (by decide) (ct_Link_write_no hs h0 h1) hs (cm_write_no hs h0 h1) rfl hs

set_option maxRecDepth 100000 in
set_option maxHeartbeats 4000000 in
theorem p1_pump {X : mX} {l : Launch} {M : mM} (hm : M = mi) (hs : Shp M) (a1 a2 : Int32) : Prx X l uLink_pump uMod_pump [.int a1, .int a2] M Shp := by
  rcases end_or a1 with ⟨e, he, rfl⟩ | ⟨h0, h1⟩
  · by_cases hn : wi a2 1 8 = 0
    · exact prx_mk (by decide) (by decide) (ct_Link_pump_bad hs he ((f_down hm) e he) hn) hs (cm_pump_bad hs he ((f_rdown hm) e he) hn) rfl hs
    · have hp : ¬ a2 ≤ 0 := fun q => hn (by unfold wi; rw [if_pos (Int32.lt_of_le_of_lt q (by decide))])
      exact prx_mk (by decide) (by decide) (ct_Link_pump_0 (q := 0) hs he ((f_down hm) e he) ((f_sd hm) e he) ((f_ls hm) e he) (by decide) hp ((f_nx hm) e he) hn) hs (cm_pump_0 (q := 0) hs he ((f_rdown hm) e he) (f_rsd hm) ((f_ld hm) e he) (by decide) hp ((f_nxA hm) e he) hn) rfl hs
  · exact prx_mk (by decide) (by decide) (ct_Link_pump_no hs h0 h1) hs (cm_pump_no hs h0 h1) rfl hs

set_option maxRecDepth 100000 in
set_option maxHeartbeats 4000000 in
theorem p1_read {X : mX} {l : Launch} {M : mM} (hm : M = mi) (hs : Shp M) (a1 a2 a3 : Int32) : Prl X l uLink_read uMod_read [.int a1, .int a2, .int a3] M Shp := by
  rcases end_or a1 with ⟨e, he, rfl⟩ | ⟨h0, h1⟩
  · by_cases hx : isStr a2
    · obtain ⟨k, hk, rfl⟩ := hx
      exact prl_mk (by decide) (by decide) (ct_Link_read_st hs he hk ((f_down hm) e he) ((f_state hm) e he k hk)) hs (cm_read_st hs he hk ((f_rdown hm) e he) ((f_op hm) _ (by omega))) rfl hs
    · exact prl_mk (by decide) (by decide) (ct_Link_read_ns hs he ((f_down hm) e he) hx) hs (cm_read_ns hs he ((f_rdown hm) e he) hx) rfl hs
  · exact prl_mk (by decide) (by decide) (ct_Link_read_no hs h0 h1) hs (cm_read_no hs h0 h1) rfl hs

set_option maxRecDepth 100000 in
set_option maxHeartbeats 4000000 in
theorem p1_reset {X : mX} {l : Launch} {M : mM} (hm : M = mi) (hs : Shp M) (a1 a2 a3 : Int32) : Prx X l uLink_reset uMod_reset [.int a1, .int a2, .int a3] M Shp := by
  rcases end_or a1 with ⟨e, he, rfl⟩ | ⟨h0, h1⟩
  · by_cases hx : isStr a2
    · obtain ⟨k, hk, rfl⟩ := hx
      exact prx_mk (by decide) (by decide) (ct_Link_reset_st hs he hk ((f_down hm) e he) ((f_ac hm) e he k hk)) hs (cm_reset_st hs he hk ((f_rdown hm) e he) ((f_acA hm) _ (by omega))) rfl hs
    · exact prx_mk (by decide) (by decide) (ct_Link_reset_ns hs he ((f_down hm) e he) hx) hs (cm_reset_ns hs he ((f_rdown hm) e he) hx) rfl hs
  · exact prx_mk (by decide) (by decide) (ct_Link_reset_no hs h0 h1) hs (cm_reset_no hs h0 h1) rfl hs

set_option maxRecDepth 100000 in
set_option maxHeartbeats 4000000 in
theorem p1_setting {X : mX} {l : Launch} {M : mM} (hm : M = mi) (hs : Shp M) (a1 a2 a3 : Int32) : Prx X l uLink_setting uMod_setting [.int a1, .int a2, .int a3] M Shp := by
  rcases end_or a1 with ⟨e, he, rfl⟩ | ⟨h0, h1⟩
  · by_cases hk : knC a2 = 0
    · exact prx_mk (by decide) (by decide) (ct_Link_setting_bad hs he ((f_down hm) e he) (Or.inl hk)) hs (cm_setting_bad hs he ((f_rdown hm) e he) (Or.inl hk)) rfl hs
    by_cases hr : rgC a2 a3 = 0
    · exact prx_mk (by decide) (by decide) (ct_Link_setting_bad hs he ((f_down hm) e he) (Or.inr hr)) hs (cm_setting_bad hs he ((f_rdown hm) e he) (Or.inr hr)) rfl hs
    have hS1 : Shp (qPut (frM (newM (setC M e 0 a2 a3) 12 7) (mN M) 4 0 a3 0 a2 none none) (1 - e) 0 0 (mN M)) := qPut_S (frN_S (M := setC M e 0 a2 a3) hs) (by omega)
    have hR : ∀ x j, 169 ≤ x → x < 223 → mI (qPut (frM (newM (setC M e 0 a2 a3) 12 7) (mN M) 4 0 a3 0 a2 none none) (1 - e) 0 0 (mN M)) x j = mI M x j := fun x j hx hy => by
      show up2 (mI (frM (newM (setC M e 0 a2 a3) 12 7) (mN M) 4 0 a3 0 a2 none none)) (4 + 2 * (1 - e)) 2 (nI (0 + 1)) x j = _
      rw [up2_a (by omega)]
      exact (frN_I (M := setC M e 0 a2 a3) (by show x ≠ mN M; rw [mM_N hm]; omega)).trans (setC_I (by omega) (by omega) (by omega))
    exact prx_mk (by decide) (by decide) (ct_Link_setting (c := 0) hs he ((f_down hm) e he) hk hr ((f_pc hm) e he) (by decide) ((f_o1 hm) e he) ((f_o2 hm) e he) (by decide) (by decide)) hS1 (cm_setting (c := 0) (h := 0) (n := 0) hS1 he ((hR _ _ (by decide) (by decide)).trans ((f_rdown hm) e he)) hk hr ((hR _ _ (by decide) (by decide)).trans ((f_opn hm) e he)) (by decide) ((hR _ _ (by decide) (by decide)).trans ((f_hd hm) _ (by omega))) ((hR _ _ (by decide) (by decide)).trans ((f_ct hm) _ (by omega))) (by decide) (by decide)) rfl hS1
  · exact prx_mk (by decide) (by decide) (ct_Link_setting_no hs h0 h1) hs (cm_setting_no hs h0 h1) rfl hs

set_option maxRecDepth 100000 in
set_option maxHeartbeats 4000000 in
theorem p1_deliver {X : mX} {l : Launch} {M : mM} (hm : M = mi) (hs : Shp M) (a1 : Int32) : Prx X l uLink_deliver uMod_deliver [.int a1] M Shp := by
  rcases end_or a1 with ⟨e, he, rfl⟩ | ⟨h0, h1⟩
  · exact prx_mk (by decide) (by decide) (ct_Link_deliver_0 hs he ((f_p2 hm) e he)) hs (cm_deliver_0 hs he ((f_ct hm) e he)) rfl hs
  · exact prx_mk (by decide) (by decide) (ct_Link_deliver_no hs h0 h1) hs (cm_deliver_no hs h0 h1) rfl hs

theorem inj_ok {X : mX} {l : Launch} {M : mM} (hm : M = mi) (hs : Shp M) {kd s x z : Int32} {e f : Nat} {F : mM} (he : e < 2) (hC : Ct X l uLink_strangeFrame (rn 3 61 6 45) [.int kd, .int s, .int x, .int z] M (fun r M' => r = some (.ref f) ∧ M' = F)) (hSF : Shp F) (hf : (mT F f).1 = 12) (hR : ∀ a j, a < 223 → mI F a j = mI M a j) (G2 : mM → mM) (hG2 : ∀ M1, Shp M1 → Shp (G2 M1)) (hM : ∀ M1, Shp M1 → Rhead M1 e = nI 0 → Rcount M1 e = nI 0 → Ct X l uMod_inject (rk 1 26) [.ref 169, .int (nI e), .int kd, .int s, .int x, .int z] M1 (fun r M' => r = some (.int 1) ∧ M' = G2 M1)) : Prx X l uLink_inject uMod_inject [.int (nI e), .int kd, .int s, .int x, .int z] M Shp := by
  have hS1 : Shp (qPut F e 0 0 f) := qPut_S hSF he
  have hq : ∀ a j, 169 ≤ a → a < 223 → mI (qPut F e 0 0 f) a j = mI M a j := fun a j h1 h2 => by
    show up2 (mI F) (4 + 2 * e) 2 (nI (0 + 1)) a j = _
    rw [up2_a (by omega)]
    exact hR a j h2
  have hM2 := hM _ hS1 ((hq _ _ (by decide) (by decide)).trans ((f_hd hm) e he)) ((hq _ _ (by decide) (by decide)).trans ((f_ct hm) e he))
  exact prx_mk (by decide) (by decide) (ct_Link_inject hs he ((f_p2 hm) e he) (by decide) hC hSF hf (by rw [hR _ _ (by omega)]; exact (f_p1 hm) e he) (by rw [hR _ _ (by omega)]; exact (f_p2 hm) e he) (by decide)) hS1 hM2 rfl (hG2 _ hS1)
theorem fr_ok {M : mM} (hm : M = mi) {kd s am fl d : Int32} {pl bl : Option Nat} (a j : Nat) (h : a < 223) : mI (frM (newM M 12 7) (mN M) kd s am fl d pl bl) a j = mI M a j := frN_I (by rw [mM_N hm]; omega)
theorem wi15 {x : Int32} (h : ¬ wi x 0 15 = 0) : ¬ x < 0 ∧ ¬ 15 < x := ⟨fun q => h (by simp [wi, q]), fun q => h (by simp [wi, q])⟩
theorem wi15' {x : Int32} (h : wi x 0 15 = 0) : x < 0 ∨ 15 < x := by
  unfold wi at h
  by_cases q : x < 0
  · exact Or.inl q
  · rw [if_neg q] at h
    by_cases q2 : 15 < x
    · exact Or.inr q2
    · rw [if_neg q2] at h
      exact absurd h (by decide)
theorem in_bz (y : Int32) : bz y = 0 ∨ bz y = 1 := bz_z y
theorem ex_Blk {N : mM} {t n : Nat} : Ex N (mkBlk N t n) (fun a => a = t) := by
  unfold mkBlk
  exact Ex.setR (Ex.new (Ex.setR (Ex.new (Ex.setR (Ex.new (Ex.setR (Ex.new (Ex.setI (Ex.setI Ex.rf (Or.inl rfl)) (Or.inl rfl))) (Or.inl rfl))) (Or.inl rfl))) (Or.inl rfl))) (Or.inl rfl)
theorem ex_b1 {M : mM} {x : Int32} : Ex M (blk1 M x) (fun _ => False) := by
  have e1 : Ex M (mkBlk (newM M 11 6) (mN M) 1) (fun _ => False) := Ex.sub (Ex.new Ex.rf) ex_Blk (fun a e => by rw [e]; exact Nat.le_refl _)
  exact Ex.setI (Ex.setI (Ex.setI (Ex.setI (Ex.setI (Ex.setI e1 (Or.inr (Nat.le_add_right _ _))) (Or.inr (Nat.le_add_right _ _))) (Or.inr (Nat.le_add_right _ _))) (Or.inr (Nat.le_add_right _ _))) (Or.inr (Nat.le_refl _))) (Or.inr (Nat.le_refl _))
/-- what only makes cells keeps the shape -/
theorem Shp.ex {M M' : mM} (h : Shp M) (hE : Ex M M' (fun _ => False)) : Shp M' := ⟨Nat.le_trans h.1 hE.1, fun a ha => (hE.2.1 a (by have := h.1; omega)).trans (h.2.1 a ha), fun a k ha hk => ((hE.2.2 a (by have := h.1; omega) id).2.2 k).trans (h.2.2 a k ha hk)⟩
theorem b1_S {M : mM} (hs : Shp M) {x : Int32} : Shp (blk1 M x) := hs.ex ex_b1
theorem b1_I {M : mM} (hm : M = mi) {x : Int32} {a i : Nat} (h : a < 223) : mI (blk1 M x) a i = mI M a i := (ex_b1.2.2 a (by rw [mM_N hm]; exact h) id).1 i
set_option maxRecDepth 100000 in
set_option maxHeartbeats 4000000 in
theorem p1_inject {X : mX} {l : Launch} {M : mM} (hm : M = mi) (hs : Shp M) (a1 a2 a3 a4 a5 : Int32) : Prx X l uLink_inject uMod_inject [.int a1, .int a2, .int a3, .int a4, .int (bz a5)] M Shp := by
  rcases end_or a1 with ⟨e, he, rfl⟩ | ⟨h0, h1⟩
  · by_cases k0 : a2 = 0
    · subst k0
      by_cases hw : wi a4 0 15 = 0
      · exact prx_mk (by decide) (by decide) (ct_Link_inject_nul hs he (sf_0n hw)) hs (cm_inject_0r hs he (wi15' hw)) rfl hs
      · obtain ⟨q0, q15⟩ := wi15 hw
        obtain ⟨j, hj, rfl⟩ := nI_of2 (x := a4) (M := 15) (n := 15) rfl q0 (Int32.not_lt.mp q15)
        have hSF : ∀ z : Int32, Shp (frM (newM (newM M 101 j) 12 7) (mN M + 1) 0 a3 (nI j) z 0 (some (mN M)) none) := fun z => frN_S (M := newM M 101 j) hs.new
        have hR : ∀ (z : Int32) (a i : Nat), a < 223 → mI (frM (newM (newM M 101 j) 12 7) (mN M + 1) 0 a3 (nI j) z 0 (some (mN M)) none) a i = mI M a i := fun z a i h => (frN_I (M := newM M 101 j) (by show a ≠ mN M + 1; rw [mM_N hm]; omega)).trans (mI_new_ne (by rw [mM_N hm]; omega))
        rcases in_bz a5 with hb | hb
        · rw [hb]
          refine inj_ok hm hs he (sf_0 hj (Or.inl rfl) hw) (hSF _) (frN_t (M := newM M 101 j)) (hR _) (fun M1 => _) (fun M1 h => ?_) (fun M1 hS q1 q2 => cm_inject_0a hS he q0 q15 q1 q2 (by decide) (by decide))
          exact h
        · rw [hb]
          refine inj_ok hm hs he (sf_0 hj (Or.inr rfl) hw) (hSF _) (frN_t (M := newM M 101 j)) (hR _) (fun M1 => _) (fun M1 h => ?_) (fun M1 hS q1 q2 => cm_inject_0b hS he q0 q15 q1 q2 (by decide) (by decide))
          exact h
    by_cases k1 : a2 = 1
    · subst k1
      have hSF : ∀ z : Int32, Shp (frM (newM (blk1 M a4) 12 7) (mN M + 5) 1 a3 (nI 1) z (0 + a4) none (some (mN M))) := fun z => frN_S (M := blk1 M a4) (b1_S hs)
      have hR : ∀ (z : Int32) (a i : Nat), a < 223 → mI (frM (newM (blk1 M a4) 12 7) (mN M + 5) 1 a3 (nI 1) z (0 + a4) none (some (mN M))) a i = mI M a i := fun z a i h => (frN_I (M := blk1 M a4) (by show a ≠ mN M + 5; rw [mM_N hm]; omega)).trans (b1_I hm h)
      rcases in_bz a5 with hb | hb
      · rw [hb]
        refine inj_ok hm hs he (sf_1 (Or.inl rfl)) (hSF _) (frN_t (M := blk1 M a4)) (hR _) (fun M1 => _) (fun M1 h => ?_) (fun M1 hS q1 q2 => cm_inject_1a hS he q1 q2 (by decide) (by decide))
        exact h
      · rw [hb]
        refine inj_ok hm hs he (sf_1 (Or.inr rfl)) (hSF _) (frN_t (M := blk1 M a4)) (hR _) (fun M1 => _) (fun M1 h => ?_) (fun M1 hS q1 q2 => cm_inject_1b hS he q1 q2 (by decide) (by decide))
        exact h
    by_cases k3 : a2 = 3
    · subst k3
      refine inj_ok hm hs he (sf_3) (frN_S hs) frN_t (fr_ok hm) (fun M1 => _) (fun M1 h => ?_) (fun M1 hS q1 q2 => cm_inject_3 hS he q1 q2 (by decide) (by decide))
      exact h
    by_cases k4 : a2 = 4
    · subst k4
      rcases in_bz a5 with hb | hb
      · rw [hb]
        refine inj_ok hm hs he (sf_4) (frN_S hs) frN_t (fr_ok hm) (fun M1 => _) (fun M1 h => ?_) (fun M1 hS q1 q2 => cm_inject_4 hS he q1 q2 (by decide) (by decide))
        exact h
      · rw [hb]
        refine inj_ok hm hs he (sf_4a) (frN_S hs) frN_t (fr_ok hm) (fun M1 => _) (fun M1 h => ?_) (fun M1 hS q1 q2 => cm_inject_4a hS he q1 q2 (by decide) (by decide))
        exact h
    by_cases k7 : a2 = 7
    · subst k7
      by_cases hw : wi a4 0 15 = 0
      · exact prx_mk (by decide) (by decide) (ct_Link_inject_nul hs he (sf_7n hw)) hs (cm_inject_7r hs he (wi15' hw)) rfl hs
      · obtain ⟨q0, q15⟩ := wi15 hw
        refine inj_ok hm hs he (sf_7 hw) (frN_S hs) frN_t (fr_ok hm) (fun M1 => _) (fun M1 h => ?_) (fun M1 hS q1 q2 => cm_inject_7 hS he q0 q15 q1 q2 (by decide) (by decide))
        exact h
    by_cases k8 : a2 = 8
    · subst k8
      refine inj_ok hm hs he (sf_8) (frN_S hs) frN_t (fr_ok hm) (fun M1 => _) (fun M1 h => ?_) (fun M1 hS q1 q2 => cm_inject_8 hS he q1 q2 (by decide) (by decide))
      exact h
    have hb : ¬ a2 = 0 ∧ ¬ a2 = 1 ∧ ¬ a2 = 3 ∧ ¬ a2 = 4 ∧ ¬ a2 = 7 ∧ ¬ a2 = 8 := ⟨k0, k1, k3, k4, k7, k8⟩
    by_cases k2 : a2 = 2
    · subst k2
      exact prx_mk (by decide) (by decide) (ct_Link_inject_nul hs he (sf_2n)) hs (cm_inject_bad hs he hb) rfl hs
    by_cases k5 : a2 = 5
    · subst k5
      exact prx_mk (by decide) (by decide) (ct_Link_inject_nul hs he (sf_5n)) hs (cm_inject_bad hs he hb) rfl hs
    by_cases k6 : a2 = 6
    · subst k6
      exact prx_mk (by decide) (by decide) (ct_Link_inject_nul hs he (sf_6n)) hs (cm_inject_bad hs he hb) rfl hs
    · have ho : a2.toInt < 0 ∨ 8 < a2.toInt := by
        have n0 := lv_neT k0 (a := 0) rfl
        have n1 := lv_neT k1 (a := 1) rfl
        have n2 := lv_neT k2 (a := 2) rfl
        have n3 := lv_neT k3 (a := 3) rfl
        have n4 := lv_neT k4 (a := 4) rfl
        have n5 := lv_neT k5 (a := 5) rfl
        have n6 := lv_neT k6 (a := 6) rfl
        have n7 := lv_neT k7 (a := 7) rfl
        have n8 := lv_neT k8 (a := 8) rfl
        omega
      exact prx_mk (by decide) (by decide) (ct_Link_inject_nul hs he (sf_out ho)) hs (cm_inject_bad hs he hb) rfl hs
  · exact prx_mk (by decide) (by decide) (ct_Link_inject_no hs h0 h1) hs (cm_inject_no hs h0 h1) rfl hs

set_option maxRecDepth 100000 in
set_option maxHeartbeats 4000000 in
theorem p1_frame {X : mX} {l : Launch} {M : mM} (hm : M = mi) (hs : Shp M) (a1 a2 a3 : Int32) : Prx X l uLink_frame uMod_frame [.int a1, .int a2, .int a3] M Shp := by
  rcases end_or a1 with ⟨e, he, rfl⟩ | ⟨h0, h1⟩
  · have hj : a2 < 0 ∨ (0 : Int32) ≤ a2 := by
      by_cases q : a2 < 0
      · exact Or.inl q
      · exact Or.inr (Int32.not_lt.mp q)
    exact prx_mk (by decide) (by decide) (ct_Link_frame_0 hs he (by rw [(f_p2 hm) e he]; exact hj)) hs (cm_frame_0 hs he (by rw [(f_ct hm) e he]; exact hj)) rfl hs
  · exact prx_mk (by decide) (by decide) (ct_Link_frame_no hs h0 h1) hs (cm_frame_no hs h0 h1) rfl hs

set_option maxRecDepth 100000 in
set_option maxHeartbeats 4000000 in
theorem p1_state {X : mX} {l : Launch} {M : mM} (hm : M = mi) (hs : Shp M) (a1 a2 : Int32) : Prx X l uLink_state uMod_state [.int a1, .int a2] M Shp := by
  rcases end_or a1 with ⟨e, he, rfl⟩ | ⟨h0, h1⟩
  · by_cases hx : isStr a2
    · obtain ⟨k, hk, rfl⟩ := hx
      exact prx_mk (by decide) (by decide) (ct_Link_state hs he hk) hs (cm_state hs he hk) (((f_st hm) _ (by omega)).trans ((f_state hm) e he k hk).symm) hs
    · exact prx_mk (by decide) (by decide) (ct_Link_state_ns hs he hx) hs (cm_state_ns hs he hx) rfl hs
  · exact prx_mk (by decide) (by decide) (ct_Link_state_no hs h0 h1) hs (cm_state_no hs h0 h1) rfl hs

set_option maxRecDepth 100000 in
set_option maxHeartbeats 4000000 in
theorem p1_window {X : mX} {l : Launch} {M : mM} (hm : M = mi) (hs : Shp M) (a1 a2 a3 : Int32) : Prx X l uLink_window uMod_window [.int a1, .int a2, .int (bz a3)] M Shp := by
  rcases end_or a1 with ⟨e, he, rfl⟩ | ⟨h0, h1⟩
  · by_cases hy : a2 = 0
    · subst hy
      obtain ⟨w1, w2, w3, w4, w5⟩ := (f_w hm) e he
      exact prx_mk (by decide) (by decide) (ct_Link_window_0 hs he) hs (cm_window_0 hs he) (by rw [w1, w2, w3, w4, w5]; split <;> decide) hs
    by_cases hx : isStr a2
    · obtain ⟨k, hk, rfl⟩ := hx
      exact prx_mk (by decide) (by decide) (ct_Link_window hs he hk) hs (cm_window hs he hk) (by rw [if_pos ((f_ac hm) e he k hk), if_pos ((f_acA hm) _ (by omega))]) hs
    · exact prx_mk (by decide) (by decide) (ct_Link_window_ns hs he hy hx) hs (cm_window_ns hs he hy hx) rfl hs
  · exact prx_mk (by decide) (by decide) (ct_Link_window_no hs h0 h1) hs (cm_window_no hs h0 h1) rfl hs

set_option maxRecDepth 100000 in
set_option maxHeartbeats 4000000 in
theorem p1_bytes {X : mX} {l : Launch} {M : mM} (hm : M = mi) (hs : Shp M) (a1 a2 a3 : Int32) : Prx X l uLink_bytes uMod_bytes [.int a1, .int a2, .int (bz a3)] M Shp := by
  rcases end_or a1 with ⟨e, he, rfl⟩ | ⟨h0, h1⟩
  · by_cases hx : isStr a2
    · obtain ⟨k, hk, rfl⟩ := hx
      exact prx_mk (by decide) (by decide) (ct_Link_bytes hs he hk) hs (cm_bytes (N := 0) hs he hk ((f_w hm) e he).2.2.2.2 (by decide)) (by rw [((f_by hm) e he k hk).1, ((f_by hm) e he k hk).2.1, ((f_by hm) e he k hk).2.2.1]; rfl) hs
    · exact prx_mk (by decide) (by decide) (ct_Link_bytes_ns hs he hx) hs (cm_bytes_ns hs he hx) rfl hs
  · exact prx_mk (by decide) (by decide) (ct_Link_bytes_no hs h0 h1) hs (cm_bytes_no hs h0 h1) rfl hs

set_option maxRecDepth 100000 in
set_option maxHeartbeats 4000000 in
theorem p1_field {X : mX} {l : Launch} {M : mM} (hm : M = mi) (hs : Shp M) (a1 a2 a3 a4 : Int32) : Prx X l uLink_field uMod_field [.int a1, .int a2, .int a3, .int (bz a4)] M Shp := by
  rcases end_or a1 with ⟨e, he, rfl⟩ | ⟨h0, h1⟩
  · by_cases hx : isStr a2
    · obtain ⟨k, hk, rfl⟩ := hx
      by_cases hj : a3 < 0
      · exact prx_mk (by decide) (by decide) (ct_Link_field_nl hs he hk ((f_li hm) e he k hk)) hs (cm_field_lo hs he hk hj) rfl hs
      · exact prx_mk (by decide) (by decide) (ct_Link_field_nl hs he hk ((f_li hm) e he k hk)) hs (cm_field_hi hs he hk (by rw [((f_by hm) e he k hk).2.2.2]; exact hj)) rfl hs
    · exact prx_mk (by decide) (by decide) (ct_Link_field_ns hs he hx) hs (cm_field_ns hs he hx) rfl hs
  · exact prx_mk (by decide) (by decide) (ct_Link_field_no hs h0 h1) hs (cm_field_no hs h0 h1) rfl hs

set_option maxRecDepth 100000 in
set_option maxHeartbeats 4000000 in
theorem p1_table {X : mX} {l : Launch} {M : mM} (hm : M = mi) (hs : Shp M) (a1 a2 a3 : Int32) : Prx X l uLink_table uMod_table [.int a1, .int (bz a2), .int a3] M Shp := by
  rcases end_or a1 with ⟨e, he, rfl⟩ | ⟨h0, h1⟩
  · rcases bz_z a2 with hb | hb
    · rw [hb]
      by_cases j2 : a3 = -2
      · subst j2
        exact prx_mk (by decide) (by decide) (ct_Link_table_m2 hs he) hs (cm_table_m2a hs he) (by rw [((f_tr hm) (2 * e + 0) (by omega)).2]; first | exact ((f_tb hm) e he).2.2.2.2.1.symm | exact ((f_tb hm) e he).2.2.2.2.2.symm) hs
      by_cases j1 : a3 = -1
      · subst j1
        exact prx_mk (by decide) (by decide) (ct_Link_table_m1 hs he) hs (cm_table_m1a (N := 0) hs he ((f_tr hm) (2 * e + 0) (by omega)).1 (by decide)) (by first | exact ((f_tb hm) e he).2.2.1.symm | exact ((f_tb hm) e he).2.2.2.1.symm) hs
      by_cases jl : -2 ≤ a3
      · have hj : ¬ a3 < 0 := by
          have n1 := lv_neT j1 (a := -1) rfl
          have n2 := lv_neT j2 (a := -2) rfl
          rw [Int32.le_iff_toInt_le] at jl
          rw [Int32.lt_iff_toInt_lt]
          have e1 : (-2 : Int32).toInt = -2 := by decide
          have e2 : (0 : Int32).toInt = 0 := by decide
          omega
        exact prx_mk (by decide) (by decide) (ct_Link_table_hi hs he hj (by rw [((f_tb hm) e he).1, ((f_tb hm) e he).2.1]; exact ⟨Int32.not_lt.mp hj, Int32.not_lt.mp hj⟩)) hs (cm_table_hia hs he hj (by rw [((f_tr hm) (2 * e + 0) (by omega)).1]; exact Int32.not_lt.mp hj)) rfl hs
      · exact prx_mk (by decide) (by decide) (ct_Link_table_lo hs he jl) hs (cm_table_lo hs he jl) rfl hs
    · rw [hb]
      by_cases j2 : a3 = -2
      · subst j2
        exact prx_mk (by decide) (by decide) (ct_Link_table_m2 hs he) hs (cm_table_m2b hs he) (by rw [((f_tr hm) (2 * e + 1) (by omega)).2]; first | exact ((f_tb hm) e he).2.2.2.2.1.symm | exact ((f_tb hm) e he).2.2.2.2.2.symm) hs
      by_cases j1 : a3 = -1
      · subst j1
        exact prx_mk (by decide) (by decide) (ct_Link_table_m1 hs he) hs (cm_table_m1b (N := 0) hs he ((f_tr hm) (2 * e + 1) (by omega)).1 (by decide)) (by first | exact ((f_tb hm) e he).2.2.1.symm | exact ((f_tb hm) e he).2.2.2.1.symm) hs
      by_cases jl : -2 ≤ a3
      · have hj : ¬ a3 < 0 := by
          have n1 := lv_neT j1 (a := -1) rfl
          have n2 := lv_neT j2 (a := -2) rfl
          rw [Int32.le_iff_toInt_le] at jl
          rw [Int32.lt_iff_toInt_lt]
          have e1 : (-2 : Int32).toInt = -2 := by decide
          have e2 : (0 : Int32).toInt = 0 := by decide
          omega
        exact prx_mk (by decide) (by decide) (ct_Link_table_hi hs he hj (by rw [((f_tb hm) e he).1, ((f_tb hm) e he).2.1]; exact ⟨Int32.not_lt.mp hj, Int32.not_lt.mp hj⟩)) hs (cm_table_hib hs he hj (by rw [((f_tr hm) (2 * e + 1) (by omega)).1]; exact Int32.not_lt.mp hj)) rfl hs
      · exact prx_mk (by decide) (by decide) (ct_Link_table_lo hs he jl) hs (cm_table_lo hs he jl) rfl hs
  · exact prx_mk (by decide) (by decide) (ct_Link_table_no hs h0 h1) hs (cm_table_no hs h0 h1) rfl hs

set_option maxRecDepth 100000 in
set_option maxHeartbeats 4000000 in
theorem p1_down {X : mX} {l : Launch} {M : mM} (hm : M = mi) (hs : Shp M) (a1 : Int32) : Prx X l uLink_down uMod_down [.int a1] M Shp := by
  rcases end_or a1 with ⟨e, he, rfl⟩ | ⟨h0, h1⟩
  · exact prx_mk (by decide) (by decide) (ct_Link_down hs he) hs (cm_down hs he) (((f_rdown hm) e he).trans ((f_down hm) e he).symm) hs
  · exact prx_mk (by decide) (by decide) (ct_Link_down_no h0 h1 hs.link) hs (cm_down_no hs h0 h1) rfl hs

theorem p1_all {X : mX} {l : Launch} {M : mM} (hm : M = mi) (hs : Shp M) : AllPr X l M Shp := ⟨p1_header hm hs, p1_request hm hs, p1_respond hm hs, p1_write hm hs, p1_pump hm hs, p1_read hm hs, p1_reset hm hs, p1_setting hm hs, p1_deliver hm hs, p1_inject hm hs, p1_frame hm hs, p1_state hm hs, p1_window hm hs, p1_bytes hm hs, p1_field hm hs, p1_table hm hs, p1_down hm hs⟩

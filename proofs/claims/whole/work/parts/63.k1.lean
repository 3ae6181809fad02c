theorem dEnd_giveBack_0 : decode uEnd_giveBack.2.1 0 = .ok (.iload_n 1, 1) := by decide +kernel
theorem dEnd_giveBack_1 : decode uEnd_giveBack.2.1 1 = .ok (.ifCond .le 25, 3) := by decide +kernel
theorem dEnd_giveBack_4 : decode uEnd_giveBack.2.1 4 = .ok (.aload_n 0, 1) := by decide +kernel
theorem dEnd_giveBack_5 : decode uEnd_giveBack.2.1 5 = .ok (.dup, 1) := by decide +kernel
theorem dEnd_giveBack_6 : decode uEnd_giveBack.2.1 6 = .ok (.getfield 18, 3) := by decide +kernel
theorem dEnd_giveBack_9 : decode uEnd_giveBack.2.1 9 = .ok (.iload_n 1, 1) := by decide +kernel
theorem dEnd_giveBack_10 : decode uEnd_giveBack.2.1 10 = .ok (.iadd, 1) := by decide +kernel
theorem dEnd_giveBack_11 : decode uEnd_giveBack.2.1 11 = .ok (.putfield 18, 3) := by decide +kernel
theorem dEnd_giveBack_14 : decode uEnd_giveBack.2.1 14 = .ok (.aload_n 0, 1) := by decide +kernel
theorem dEnd_giveBack_15 : decode uEnd_giveBack.2.1 15 = .ok (.getfield 82, 3) := by decide +kernel
theorem dEnd_giveBack_18 : decode uEnd_giveBack.2.1 18 = .ok (.iconst 0, 1) := by decide +kernel
theorem dEnd_giveBack_19 : decode uEnd_giveBack.2.1 19 = .ok (.iload_n 1, 1) := by decide +kernel
theorem dEnd_giveBack_20 : decode uEnd_giveBack.2.1 20 = .ok (.invokestatic 198, 3) := by decide +kernel
theorem dEnd_giveBack_23 : decode uEnd_giveBack.2.1 23 = .ok (.invokevirtual 134, 3) := by decide +kernel
theorem dEnd_giveBack_26 : decode uEnd_giveBack.2.1 26 = .ok (.return_, 1) := by decide +kernel
theorem dEnd_linkError_0 : decode uEnd_linkError.2.1 0 = .ok (.aload_n 0, 1) := by decide +kernel
theorem dEnd_linkError_1 : decode uEnd_linkError.2.1 1 = .ok (.getfield 82, 3) := by decide +kernel
theorem dEnd_linkError_4 : decode uEnd_linkError.2.1 4 = .ok (.iload_n 1, 1) := by decide +kernel
theorem dEnd_linkError_5 : decode uEnd_linkError.2.1 5 = .ok (.invokestatic 211, 3) := by decide +kernel
theorem dEnd_linkError_8 : decode uEnd_linkError.2.1 8 = .ok (.invokevirtual 134, 3) := by decide +kernel
theorem dEnd_linkError_11 : decode uEnd_linkError.2.1 11 = .ok (.aload_n 0, 1) := by decide +kernel
theorem dEnd_linkError_12 : decode uEnd_linkError.2.1 12 = .ok (.bipush 100, 2) := by decide +kernel
theorem dEnd_linkError_14 : decode uEnd_linkError.2.1 14 = .ok (.iload_n 1, 1) := by decide +kernel
theorem dEnd_linkError_15 : decode uEnd_linkError.2.1 15 = .ok (.iadd, 1) := by decide +kernel
theorem dEnd_linkError_16 : decode uEnd_linkError.2.1 16 = .ok (.putfield 9, 3) := by decide +kernel
theorem dEnd_linkError_19 : decode uEnd_linkError.2.1 19 = .ok (.aload_n 0, 1) := by decide +kernel
theorem dEnd_linkError_20 : decode uEnd_linkError.2.1 20 = .ok (.getfield 9, 3) := by decide +kernel
theorem dEnd_linkError_23 : decode uEnd_linkError.2.1 23 = .ok (.ireturn, 1) := by decide +kernel
theorem dStream_cut_0 : decode uStream_cut.2.1 0 = .ok (.aload_n 0, 1) := by decide +kernel
theorem dStream_cut_1 : decode uStream_cut.2.1 1 = .ok (.iconst 4, 1) := by decide +kernel
theorem dStream_cut_2 : decode uStream_cut.2.1 2 = .ok (.putfield 9, 3) := by decide +kernel
theorem dStream_cut_5 : decode uStream_cut.2.1 5 = .ok (.aload_n 0, 1) := by decide +kernel
theorem dStream_cut_6 : decode uStream_cut.2.1 6 = .ok (.iconst 1, 1) := by decide +kernel
theorem dStream_cut_7 : decode uStream_cut.2.1 7 = .ok (.putfield 15, 3) := by decide +kernel
theorem dStream_cut_10 : decode uStream_cut.2.1 10 = .ok (.aload_n 0, 1) := by decide +kernel
theorem dStream_cut_11 : decode uStream_cut.2.1 11 = .ok (.getfield 40, 3) := by decide +kernel
theorem dStream_cut_14 : decode uStream_cut.2.1 14 = .ok (.invokevirtual 50, 3) := by decide +kernel
theorem dStream_cut_17 : decode uStream_cut.2.1 17 = .ok (.pop, 1) := by decide +kernel
theorem dStream_cut_18 : decode uStream_cut.2.1 18 = .ok (.aload_n 0, 1) := by decide +kernel
theorem dStream_cut_19 : decode uStream_cut.2.1 19 = .ok (.getfield 44, 3) := by decide +kernel
theorem dStream_cut_22 : decode uStream_cut.2.1 22 = .ok (.invokevirtual 50, 3) := by decide +kernel
theorem dStream_cut_25 : decode uStream_cut.2.1 25 = .ok (.ireturn, 1) := by decide +kernel
theorem fs_End_18 : fS "InterleavedLink$End" 18 2 5 := ⟨"InterleavedLink$End", T_End, 17, cf_End, by decide, Or.inl (gW_in 309 (by decide +kernel) rfl)⟩
theorem cs_End_198 : cSt "InterleavedLink$End" 198 uFrame_ofWindow 2 := ⟨⟨Or.inl (gW_in 642 (by decide +kernel) rfl), (gW_in 76 (by decide +kernel) rfl), (gW_in 644 (by decide +kernel) rfl), ⟨by decide, by decide⟩, by decide +kernel⟩, (gW_in 643 (by decide +kernel) rfl)⟩
theorem cs_End_211 : cSt "InterleavedLink$End" 211 uFrame_ofFarewell 1 := ⟨⟨Or.inl (gW_in 711 (by decide +kernel) rfl), (gW_in 76 (by decide +kernel) rfl), (gW_in 713 (by decide +kernel) rfl), ⟨by decide, by decide⟩, by decide +kernel⟩, (gW_in 712 (by decide +kernel) rfl)⟩
theorem fs_End_9 : fS "InterleavedLink$End" 9 2 3 := ⟨"InterleavedLink$End", T_End, 17, cf_End, by decide, Or.inl (gW_in 305 (by decide +kernel) rfl)⟩
theorem fs_Stream_40 : fS "InterleavedLink$Stream" 40 8 8 := ⟨"InterleavedLink$Stream", T_Stream, 10, cf_Stream, by decide, Or.inl (gW_in 273 (by decide +kernel) rfl)⟩
theorem cs_Stream_50 : cV "InterleavedLink$Stream" 50 uBQ_dropAll 0 := ⟨⟨Or.inl (gW_in 665 (by decide +kernel) rfl), (gW_in 73 (by decide +kernel) rfl), (gW_in 668 (by decide +kernel) rfl), ⟨by decide, by decide⟩, by decide +kernel⟩, (gW_in 666 (by decide +kernel) rfl), (gW_in 667 (by decide +kernel) rfl)⟩
theorem fs_Stream_44 : fS "InterleavedLink$Stream" 44 8 9 := ⟨"InterleavedLink$Stream", T_Stream, 10, cf_Stream, by decide, Or.inl (gW_in 276 (by decide +kernel) rfl)⟩
/-! ===== the class over the state: windows given back, errors, ends of streams ===== -/
def give (A : zA) (e : Nat) (n : Int32) : zA := if n ≤ 0 then A else push (yI A (9 + 80 * e) 5 (zI A (9 + 80 * e) 5 + n)) (1 - e) (8, 0, n, 0, 0, [], [])
def lerr (A : zA) (e : Nat) (c : Int32) : zA := yI (push A (1 - e) (7, 0, c, 0, 0, [], [])) (9 + 80 * e) 3 (100 + c)
def cutA (A : zA) (e k : Nat) : zA := yU (yW (yI (yI A (29 + 80 * e + 5 * k) 1 4) (29 + 80 * e + 5 * k) 2 1) e k []) e (unU (zU A e) k)
theorem give_0 {A : zA} {e : Nat} {n : Int32} (h : n ≤ 0) : give A e n = A := if_pos h
theorem give_1 {A : zA} {e : Nat} {n : Int32} (h : ¬ n ≤ 0) : give A e n = push (yI A (9 + 80 * e) 5 (zI A (9 + 80 * e) 5 + n)) (1 - e) (8, 0, n, 0, 0, [], []) := if_neg h
theorem kI {M M1 : mM} {a k : Nat} {v : Int32} (h : Chg M M1 cP cP) (ha : a < 169) : Chg M (setI M1 a k v) cP cP := h.setI (Or.inl ha)
theorem k0 {M M1 M2 : mM} (h : Chg M M1 cP cP) (g : Chg M1 M2 no2 no2) : Chg M M2 cP cP := h.tr (g.mono (fun _ _ q => q.elim) fun _ _ q => q.elim)
theorem RC.num {M : mM} {A : zA} {e : Nat} (h : RC M A) (he : e < 2) {k : Nat} (hk : k < 12) : mI M (29 + 80 * e + 5 * k) 0 = nI (2 * k + 1) := (h.2.2.1 e he).2 k hk
theorem RC.sI {M : mM} {A : zA} (h : RC M A) {a j : Nat} (hs : sc a j) : mI M a j = zI A a j := h.2.1 a j hs
set_option maxRecDepth 100000 in
set_option maxHeartbeats 4000000 in
theorem ct_giveR {X : mX} {l : Launch} {M : mM} {A : zA} {e : Nat} (hR : RC M A) (he : e < 2) {n : Int32} (hp : (zP A (1 - e)).length < 47) : Ct X l uEnd_giveBack (rn 3 60 1 7) [.ref (9 + 80 * e), .int n] M (fun r M' => r = none ∧ RC M' (give A e n) ∧ Chg M M' cP cP) := by
  refine Ct.of (by decide) (Nat.le_of_ble_eq_true rfl) ?_
  show G X l uEnd_giveBack (rn 3 60 1 7) 1 7 M 0 [some (.ref (9 + 80 * e)), some (.int n)] [] _
  have hS := hR.1
  refine g_iload_n 0 dEnd_giveBack_0 rfl ?_
  refine g_if_le 1 26 dEnd_giveBack_1 rfl (fun h1 => ?_) (fun h1 => ?_)
  · exact g_vret 26 dEnd_giveBack_26 rfl (by first | exact ⟨rfl, by rw [give_0 h1]; exact hR, Chg.rf⟩ | exact ⟨rfl, by rw [give_1 h1]; exact hR3, hC⟩)
  · refine g_aload_n 4 dEnd_giveBack_4 rfl ?_
    refine g_dup 5 dEnd_giveBack_5 rfl ?_
    refine g_geti 6 2 5 dEnd_giveBack_6 fs_End_18 rfl (hS.tEnd he) ?_
    refine g_iload_n 9 dEnd_giveBack_9 rfl ?_
    refine g_iadd 10 dEnd_giveBack_10 ?_
    refine g_puti 11 2 5 dEnd_giveBack_11 ps_End_18 rfl (hS.tEnd he) ?_
    have hR1 := hR.yI (v := zI A (9 + 80 * e) 5 + n) (sc_E (j := 5) he (by omega))
    rw [hR.sI (sc_E (j := 5) he (by omega))]
    refine g_aload_n 14 dEnd_giveBack_14 rfl ?_
    refine g_getr 15 2 2 dEnd_giveBack_15 fs_End_82 rfl (hR1.1.tEnd he) (hR1.1.rEnd2 he) ?_
    refine g_iconst 18 0 dEnd_giveBack_18 rfl ?_
    refine g_iload_n 19 dEnd_giveBack_19 rfl ?_
    refine g_callS 20 [_, _] dEnd_giveBack_20 cs_End_198 rfl rfl ⟨(Nat.le_of_ble_eq_true rfl), (Nat.le_of_ble_eq_true rfl)⟩ (Nat.le_of_ble_eq_true rfl) (ct_ofWindow) (Nat.le_of_ble_eq_true rfl) (Nat.le_of_ble_eq_true rfl) ?_
    rintro _ _ ⟨rfl, rfl⟩
    have hR2 := hR1.grow (fr_chg (M := setI M (9 + 80 * e) 5 (zI A (9 + 80 * e) 5 + n)) (kd := 8) (s := 0) (am := n) (fl := 0) (d := 0) (pl := none) (bl := none))
    have hF := fr_new (M := setI M (9 + 80 * e) 5 (zI A (9 + 80 * e) 5 + n)) (kd := 8) (s := 0) (am := n) (fl := 0) (d := 0) (pl := none) (bl := none) (by_ := []) (S := []) hR1.1.1 (fun q => absurd q (by decide)) (fun q => absurd q (by decide))
    refine g_callV 23 [_] dEnd_giveBack_23 cs_End_134 rfl (ci := 1) rfl (by decide) (hR2.1.tPipeO he) rfl ⟨(Nat.le_of_ble_eq_true rfl), (Nat.le_of_ble_eq_true rfl)⟩ (Nat.le_of_ble_eq_true rfl) (ct_addR hR2 he hF hp) (Nat.le_of_ble_eq_true rfl) (Nat.le_of_ble_eq_true rfl) ?_
    rintro _ M3 ⟨rfl, hR3, hC3⟩
    have hC := (k0 (kI (Chg.rf (M := M)) (by omega)) fr_chg).tr hC3
    exact g_vret 26 dEnd_giveBack_26 rfl (by first | exact ⟨rfl, by rw [give_0 h1]; exact hR, Chg.rf⟩ | exact ⟨rfl, by rw [give_1 h1]; exact hR3, hC⟩)

set_option maxRecDepth 100000 in
set_option maxHeartbeats 4000000 in
theorem ct_lerrR {X : mX} {l : Launch} {M : mM} {A : zA} {e : Nat} (hR : RC M A) (he : e < 2) {c : Int32} (hp : (zP A (1 - e)).length < 47) : Ct X l uEnd_linkError (rn 3 59 1 7) [.ref (9 + 80 * e), .int c] M (fun r M' => r = some (.int (100 + c)) ∧ RC M' (lerr A e c) ∧ Chg M M' cP cP) := by
  refine Ct.of (by decide) (Nat.le_of_ble_eq_true rfl) ?_
  show G X l uEnd_linkError (rn 3 59 1 7) 1 7 M 0 [some (.ref (9 + 80 * e)), some (.int c)] [] _
  have hS := hR.1
  refine g_aload_n 0 dEnd_linkError_0 rfl ?_
  refine g_getr 1 2 2 dEnd_linkError_1 fs_End_82 rfl (hS.tEnd he) (hS.rEnd2 he) ?_
  refine g_iload_n 4 dEnd_linkError_4 rfl ?_
  refine g_callS 5 [_] dEnd_linkError_5 cs_End_211 rfl rfl ⟨(Nat.le_of_ble_eq_true rfl), (Nat.le_of_ble_eq_true rfl)⟩ (Nat.le_of_ble_eq_true rfl) (ct_ofFarewell) (Nat.le_of_ble_eq_true rfl) (Nat.le_of_ble_eq_true rfl) ?_
  rintro _ _ ⟨rfl, rfl⟩
  have hR2 := hR.grow (fr_chg (M := M) (kd := 7) (s := 0) (am := c) (fl := 0) (d := 0) (pl := none) (bl := none))
  have hF := fr_new (M := M) (kd := 7) (s := 0) (am := c) (fl := 0) (d := 0) (pl := none) (bl := none) (by_ := []) (S := []) hR.1.1 (fun q => absurd q (by decide)) (fun q => absurd q (by decide))
  refine g_callV 8 [_] dEnd_linkError_8 cs_End_134 rfl (ci := 1) rfl (by decide) (hR2.1.tPipeO he) rfl ⟨(Nat.le_of_ble_eq_true rfl), (Nat.le_of_ble_eq_true rfl)⟩ (Nat.le_of_ble_eq_true rfl) (ct_addR hR2 he hF hp) (Nat.le_of_ble_eq_true rfl) (Nat.le_of_ble_eq_true rfl) ?_
  rintro _ M3 ⟨rfl, hR3, hC3⟩
  have hC := (k0 (Chg.rf (M := M)) fr_chg).tr hC3
  refine g_aload_n 11 dEnd_linkError_11 rfl ?_
  refine g_bipush 12 100 dEnd_linkError_12 rfl ?_
  refine g_iload_n 14 dEnd_linkError_14 rfl ?_
  refine g_iadd 15 dEnd_linkError_15 ?_
  refine g_puti 16 2 3 dEnd_linkError_16 ps_End_9 rfl (hR3.1.tEnd he) ?_
  refine g_aload_n 19 dEnd_linkError_19 rfl ?_
  refine g_geti 20 2 3 dEnd_linkError_20 fs_End_9 rfl (hR3.1.tEnd he) ?_
  refine g_top (100 + c) (up2_same) ?_
  exact g_iret 23 dEnd_linkError_23 rfl ⟨rfl, hR3.yI (sc_E he (by omega)), kI hC (by omega)⟩

set_option maxRecDepth 100000 in
set_option maxHeartbeats 4000000 in
theorem ct_cutR {X : mX} {l : Launch} {M : mM} {A : zA} {e k : Nat} (hR : RC M A) (he : e < 2) (hk : k < 12) : Ct X l uStream_cut (rk 1 21) [.ref (29 + 80 * e + 5 * k)] M (fun r M' => r = some (.int (nI (unrd (zU A e) k).length)) ∧ RC M' (cutA A e k) ∧ Chg M M' cP cP) := by
  refine Ct.of (by decide) (Nat.le_of_ble_eq_true rfl) ?_
  show G X l uStream_cut (rk 1 21) 0 0 M 0 [some (.ref (29 + 80 * e + 5 * k))] [] _
  have hS := hR.1
  refine g_aload_n 0 dStream_cut_0 rfl ?_
  refine g_iconst 1 4 dStream_cut_1 rfl ?_
  refine g_puti 2 8 1 dStream_cut_2 ps_Stream_9 rfl (hS.tStr he hk) ?_
  refine g_aload_n 5 dStream_cut_5 rfl ?_
  refine g_iconst 6 1 dStream_cut_6 rfl ?_
  refine g_putz 7 8 2 dStream_cut_7 ps_Stream_15 rfl (by decide) (hS.tStr he hk) ?_
  refine g_aload_n 10 dStream_cut_10 rfl ?_
  have hR2 := (hR.yI (v := 4) (sc_S (j := 1) he hk (by omega) (by omega))).yI (v := 1) (sc_S (j := 2) he hk (by omega) (by omega))
  refine g_getr 11 8 8 dStream_cut_11 fs_Stream_40 rfl (hS.tStr he hk) (hS.rStr8 he hk) ?_
  refine g_callV 14 [] dStream_cut_14 cs_Stream_50 rfl (ci := 9) rfl (by decide) (hS.tWt he hk) rfl ⟨(Nat.le_of_ble_eq_true rfl), (Nat.le_of_ble_eq_true rfl)⟩ (Nat.le_of_ble_eq_true rfl) (ct_dropQ (hS.tWt he hk) (hR2.2.2.2.2.1 e k he hk)) (Nat.le_of_ble_eq_true rfl) (Nat.le_of_ble_eq_true rfl) ?_
  rintro _ M3 ⟨rfl, hq3, hC3⟩
  have hR3 := hR2.yW he hk (hC3.mono (fun _ _ q => Or.inl q) fun _ _ q => q) hq3
  have hC := (kI (kI (Chg.rf (M := M)) (by omega)) (by omega)).tr (hC3.mono (fun a j q => show a < 169 by omega) fun _ _ q => q.elim)
  refine g_pop 17 dStream_cut_17 rfl ?_
  refine g_aload_n 18 dStream_cut_18 rfl ?_
  refine g_getr 19 8 9 dStream_cut_19 fs_Stream_44 rfl (hR3.1.tStr he hk) (hR3.1.rStr9 he hk) ?_
  refine g_callV 22 [] dStream_cut_22 cs_Stream_50 rfl (ci := 9) rfl (by decide) (hR3.1.tUr he hk) rfl ⟨(Nat.le_of_ble_eq_true rfl), (Nat.le_of_ble_eq_true rfl)⟩ (Nat.le_of_ble_eq_true rfl) (ct_dropQ (hR3.1.tUr he hk) (hR3.2.2.2.2.2.1 e k he hk)) (Nat.le_of_ble_eq_true rfl) (Nat.le_of_ble_eq_true rfl) ?_
  rintro _ M4 ⟨rfl, hq4, hC4⟩
  have hR4 := hR3.yU he hk (U := unU (zU A e) k) (hC4.mono (fun _ _ q => Or.inl q) fun _ _ q => q) (by rw [unU_k]; exact hq4) (fun g hg hgk => unU_g hg hk hgk)
  have hC5 := hC.tr (hC4.mono (fun a j q => show a < 169 by omega) fun _ _ q => q.elim)
  exact g_iret 25 dStream_cut_25 rfl ⟨rfl, hR4, hC5⟩

theorem dLink_init_0 : decode uLink_init.2.1 0 = .ok (.aload_n 0, 1) := by decide +kernel
theorem dLink_init_1 : decode uLink_init.2.1 1 = .ok (.invokespecial 1, 3) := by decide +kernel
theorem dLink_init_4 : decode uLink_init.2.1 4 = .ok (.new 7, 3) := by decide +kernel
theorem dLink_init_7 : decode uLink_init.2.1 7 = .ok (.dup, 1) := by decide +kernel
theorem dLink_init_8 : decode uLink_init.2.1 8 = .ok (.invokespecial 9, 3) := by decide +kernel
theorem dLink_init_11 : decode uLink_init.2.1 11 = .ok (.astore_n 1, 1) := by decide +kernel
theorem dLink_init_12 : decode uLink_init.2.1 12 = .ok (.new 7, 3) := by decide +kernel
theorem dLink_init_15 : decode uLink_init.2.1 15 = .ok (.dup, 1) := by decide +kernel
theorem dLink_init_16 : decode uLink_init.2.1 16 = .ok (.invokespecial 9, 3) := by decide +kernel
theorem dLink_init_19 : decode uLink_init.2.1 19 = .ok (.astore_n 2, 1) := by decide +kernel
theorem dLink_init_20 : decode uLink_init.2.1 20 = .ok (.aload_n 0, 1) := by decide +kernel
theorem dLink_init_21 : decode uLink_init.2.1 21 = .ok (.iconst 2, 1) := by decide +kernel
theorem dLink_init_22 : decode uLink_init.2.1 22 = .ok (.anewarray 10, 3) := by decide +kernel
theorem dLink_init_25 : decode uLink_init.2.1 25 = .ok (.putfield 12, 3) := by decide +kernel
theorem dLink_init_28 : decode uLink_init.2.1 28 = .ok (.aload_n 0, 1) := by decide +kernel
theorem dLink_init_29 : decode uLink_init.2.1 29 = .ok (.getfield 12, 3) := by decide +kernel
theorem dLink_init_32 : decode uLink_init.2.1 32 = .ok (.iconst 0, 1) := by decide +kernel
theorem dLink_init_33 : decode uLink_init.2.1 33 = .ok (.new 10, 3) := by decide +kernel
theorem dLink_init_36 : decode uLink_init.2.1 36 = .ok (.dup, 1) := by decide +kernel
theorem dLink_init_37 : decode uLink_init.2.1 37 = .ok (.iconst 1, 1) := by decide +kernel
theorem dLink_init_38 : decode uLink_init.2.1 38 = .ok (.aload_n 1, 1) := by decide +kernel
theorem dLink_init_39 : decode uLink_init.2.1 39 = .ok (.aload_n 2, 1) := by decide +kernel
theorem dLink_init_40 : decode uLink_init.2.1 40 = .ok (.invokespecial 18, 3) := by decide +kernel
theorem dLink_init_43 : decode uLink_init.2.1 43 = .ok (.aastore, 1) := by decide +kernel
theorem dLink_init_44 : decode uLink_init.2.1 44 = .ok (.aload_n 0, 1) := by decide +kernel
theorem dLink_init_45 : decode uLink_init.2.1 45 = .ok (.getfield 12, 3) := by decide +kernel
theorem dLink_init_48 : decode uLink_init.2.1 48 = .ok (.iconst 1, 1) := by decide +kernel
theorem dLink_init_49 : decode uLink_init.2.1 49 = .ok (.new 10, 3) := by decide +kernel
theorem dLink_init_52 : decode uLink_init.2.1 52 = .ok (.dup, 1) := by decide +kernel
theorem dLink_init_53 : decode uLink_init.2.1 53 = .ok (.iconst 0, 1) := by decide +kernel
theorem dLink_init_54 : decode uLink_init.2.1 54 = .ok (.aload_n 2, 1) := by decide +kernel
theorem dLink_init_55 : decode uLink_init.2.1 55 = .ok (.aload_n 1, 1) := by decide +kernel
theorem dLink_init_56 : decode uLink_init.2.1 56 = .ok (.invokespecial 18, 3) := by decide +kernel
theorem dLink_init_59 : decode uLink_init.2.1 59 = .ok (.aastore, 1) := by decide +kernel
theorem dLink_init_60 : decode uLink_init.2.1 60 = .ok (.return_, 1) := by decide +kernel
theorem oi_Link_1 : Cond.methodLink "InterleavedLink" 1 Lib.objectInit ∈ gW := gW_in 85 (by decide +kernel) rfl
theorem ns_Link_7 : nS "InterleavedLink" 7 1 3 := ⟨"InterleavedLink$Pipe", T_Pipe, cf_Pipe, (gW_in 88 (by decide +kernel) rfl), (gW_in 89 (by decide +kernel) rfl), (gW_in 65 (by decide +kernel) rfl)⟩
theorem cs_Link_9 : cI "InterleavedLink" 9 uPipe_init 0 := ⟨⟨Or.inr ⟨"InterleavedLink", (gN_in 90 (by decide +kernel) rfl)⟩, (gW_in 65 (by decide +kernel) rfl), (gW_in 92 (by decide +kernel) rfl), ⟨by decide, by decide⟩, by decide +kernel⟩, (gW_in 91 (by decide +kernel) rfl), rfl, rfl⟩
theorem al_Link_10 : Cond.classLink "InterleavedLink" 10 (aoC 6) ∈ gW := gW_in 107 (by decide +kernel) rfl
theorem cfw_Link : ∀ k, k < 1 → u_lay "InterleavedLink" T_Link k ∈ gW
  | 0, _ => gW_in 362 (by decide +kernel) rfl
  | (_ + 1), h => absurd h (by omega)
theorem cf_Link : cF 0 "InterleavedLink" T_Link 1 := ⟨by decide, rfl, fun w hw => by
  obtain ⟨k, hk, rfl⟩ := List.mem_map.mp hw
  exact cfw_Link k (List.mem_range.mp hk), by decide +kernel, ty_Link, by decide +kernel⟩
theorem ps_Link_12 : pS "InterleavedLink" "<init>" 12 0 0 (.array (.object "InterleavedLink$End")) := ⟨"InterleavedLink", T_Link, 1, cf_Link, by decide, by decide +kernel, Or.inr ⟨rfl, rfl, rfl, (gW_in 361 (by decide +kernel) rfl)⟩⟩
theorem fs_Link_12 : fS "InterleavedLink" 12 0 0 := ⟨"InterleavedLink", T_Link, 1, cf_Link, by decide, Or.inl (gW_in 361 (by decide +kernel) rfl)⟩
theorem ns_Link_10 : nS "InterleavedLink" 10 2 17 := ⟨"InterleavedLink$End", T_End, cf_End, (gW_in 107 (by decide +kernel) rfl), (gW_in 109 (by decide +kernel) rfl), (gW_in 66 (by decide +kernel) rfl)⟩
theorem cs_Link_18 : cI "InterleavedLink" 18 uEnd_init 3 := ⟨⟨Or.inl (gW_in 110 (by decide +kernel) rfl), (gW_in 66 (by decide +kernel) rfl), (gW_in 112 (by decide +kernel) rfl), ⟨by decide, by decide⟩, by decide +kernel⟩, (gW_in 111 (by decide +kernel) rfl), rfl, rfl⟩
theorem Ex.sub {M M' M2 : mM} {D E : Nat → Prop} (h : Ex M M' D) (h2 : Ex M' M2 E) (hb : ∀ a, E a → mN M ≤ a) : Ex M M2 D :=
  ⟨Nat.le_trans h.1 h2.1, fun a ha => (h2.2.1 a (Nat.lt_of_lt_of_le ha h.1)).trans (h.2.1 a ha), fun a ha hd => by
    obtain ⟨i1, i2, i3⟩ := h2.2.2 a (Nat.lt_of_lt_of_le ha h.1) (fun q => absurd (hb a q) (by omega))
    obtain ⟨j1, j2, j3⟩ := h.2.2 a ha hd
    exact ⟨fun k => (i1 k).trans (j1 k), fun k => (i2 k).trans (j2 k), fun k => (i3 k).trans (j3 k)⟩⟩
theorem ex_FL {M : mM} {t : Nat} : Ex M (mkFL M t) (fun a => a = t) := by
  unfold mkFL
  exact Ex.setI (Ex.setR (Ex.new (Ex.setR (Ex.new (Ex.setR (Ex.new Ex.rf) (Or.inl rfl))) (Or.inl rfl))) (Or.inl rfl)) (Or.inl rfl)
theorem ex_Tab {M : mM} {t : Nat} : Ex M (mkTab M t) (fun a => a = t) := by
  unfold mkTab
  exact Ex.setI (Ex.setI (Ex.setI (Ex.setR (Ex.new (Ex.setR (Ex.new (Ex.setR (Ex.new Ex.rf) (Or.inl rfl))) (Or.inl rfl))) (Or.inl rfl)) (Or.inl rfl)) (Or.inl rfl)) (Or.inl rfl)
theorem ex_Enc {M : mM} {t : Nat} : Ex M (mkEnc M t) (fun a => a = t) := by
  unfold mkEnc
  exact Ex.setI (Ex.setI (Ex.setI (Ex.setR (Ex.sub (Ex.new Ex.rf) ex_Tab (fun a e => by rw [e]; exact Nat.le_refl _)) (Or.inl rfl)) (Or.inl rfl)) (Or.inl rfl)) (Or.inl rfl)
theorem ex_Dec {M : mM} {t : Nat} : Ex M (mkDec M t) (fun a => a = t) := by
  unfold mkDec
  exact Ex.setI (Ex.setR (Ex.sub (Ex.new Ex.rf) ex_Tab (fun a e => by rw [e]; exact Nat.le_refl _)) (Or.inl rfl)) (Or.inl rfl)
theorem ex_Sett {M : mM} {t : Nat} : Ex M (mkSett M t) (fun a => a = t) := by
  unfold mkSett
  exact Ex.setI (Ex.setI (Ex.setI Ex.rf (Or.inl rfl)) (Or.inl rfl)) (Or.inl rfl)
theorem ex_Pipe {M : mM} {t : Nat} : Ex M (mkPipe M t) (fun a => a = t) := by
  unfold mkPipe
  exact Ex.setI (Ex.setI (Ex.setR (Ex.new Ex.rf) (Or.inl rfl)) (Or.inl rfl)) (Or.inl rfl)
theorem le_of_eqk {n k a : Nat} (e : a = n + k) : n ≤ a := by omega
theorem ex_End9 {M : mM} {t i o : Nat} {q : Int32} : Ex M (mkEnd9 M t q i o) (fun a => a = t) := by
  have e1 : Ex M (mkEnd1 M t) (fun a => a = t) := Ex.setI (Ex.setI (Ex.setI Ex.rf (Or.inl rfl)) (Or.inl rfl)) (Or.inl rfl)
  have e2 : Ex M (mkEnd2 M t) (fun a => a = t) := Ex.setR (Ex.sub (Ex.new e1) ex_FL (fun a e => le_of_eqk (k := 0) e)) (Or.inl rfl)
  have e3 : Ex M (mkEnd3 M t) (fun a => a = t) := Ex.setR (Ex.sub (Ex.new e2) ex_Enc (fun a e => le_of_eqk e)) (Or.inl rfl)
  have e4 : Ex M (mkEnd4 M t) (fun a => a = t) := Ex.setR (Ex.sub (Ex.new e3) ex_Dec (fun a e => le_of_eqk e)) (Or.inl rfl)
  have e5 : Ex M (mkEnd5 M t) (fun a => a = t) := Ex.setR (Ex.new e4) (Or.inl rfl)
  have e6 : Ex M (mkEnd6 M t) (fun a => a = t) := Ex.setR (Ex.sub (Ex.new e5) ex_Sett (fun a e => le_of_eqk e)) (Or.inl rfl)
  have e7 : Ex M (mkEnd7 M t) (fun a => a = t) := Ex.setR (Ex.sub (Ex.new e6) ex_Sett (fun a e => le_of_eqk e)) (Or.inl rfl)
  have e8 : Ex M (mkEnd8 M t) (fun a => a = t) := Ex.setR (Ex.new (Ex.setR (Ex.new e7) (Or.inl rfl))) (Or.inl rfl)
  exact Ex.setR (Ex.setR (Ex.setI (Ex.setI (Ex.setI (Ex.setI e8 (Or.inl rfl)) (Or.inl rfl)) (Or.inl rfl)) (Or.inl rfl)) (Or.inl rfl)) (Or.inl rfl)
theorem ex_End {M : mM} {t i o : Nat} {q : Int32} : Ex M (mkEnd M t q i o) (fun a => a = t) := Ex.sub ex_End9 (ex_Strs _ _ 12) (fun a e => le_of_eqk e)
theorem mN_End {M : mM} {t i o : Nat} {q : Int32} : mN (mkEnd M t q i o) = mN M + 79 := (mN_strs _ _ 12).trans rfl
/-- the link: two pipes, the row of ends, the ends -/
def mkLink3 (M : mM) (t : Nat) : mM := setR (newM (mkPipe (newM (mkPipe (newM M 1 3) (mN M)) 1 3) (mN M + 2)) 106 2) t 0 (some (mN M + 4))
def mkLink4 (M : mM) (t : Nat) : mM := setR (mkEnd (newM (mkLink3 M t) 2 17) (mN M + 5) 1 (mN M) (mN M + 2)) (mN M + 4) 0 (some (mN M + 5))
def mkLink (M : mM) (t : Nat) : mM := setR (mkEnd (newM (mkLink4 M t) 2 17) (mN (mkLink4 M t)) 0 (mN M + 2) (mN M)) (mN M + 4) 1 (some (mN (mkLink4 M t)))
theorem lk3_T {M : mM} {t : Nat} (hlt : t < mN M) (hp : (mT M t).1 = 0) : (mT (mkLink3 M t) t).1 = 0 := oT (Nat.lt_add_right 4 hlt) (oT (Nat.lt_add_right 3 hlt) (oT (Nat.lt_add_right 2 hlt) (oT (Nat.lt_add_right 1 hlt) (oT (Nat.lt_add_right 0 hlt) hp))))
theorem lk3_A {M : mM} {t : Nat} : mT (mkLink3 M t) (mN M + 4) = (106, 2) := mT_new (mkPipe (newM (mkPipe (newM M 1 3) (mN M)) 1 3) (mN M + 2)) 106 2
theorem lk3_R {M : mM} {t : Nat} : mR (mkLink3 M t) t 0 = some (mN M + 4) := up2_same
theorem lk4_E {M : mM} {t : Nat} : Ex (newM (mkLink3 M t) 2 17) (mkLink4 M t) (fun a => a = mN M + 5 ∨ a = mN M + 4) := Ex.setR (ex_End.wide fun a _ e => Or.inl e) (Or.inl (Or.inr rfl))
theorem lk4_T {M : mM} {t : Nat} (hlt : t < mN M) (hp : (mT M t).1 = 0) : (mT (mkLink4 M t) t).1 = 0 := by
  rw [lk4_E.2.1 t (show t < mN M + 6 by omega)]
  exact oT (show t < mN M + 5 by omega) (lk3_T hlt hp)
theorem lk4_A {M : mM} {t : Nat} : mT (mkLink4 M t) (mN M + 4) = (106, 2) := by
  rw [lk4_E.2.1 (mN M + 4) (show mN M + 4 < mN M + 6 by omega)]
  exact oTT (show mN M + 4 < mN M + 5 by omega) lk3_A
theorem lk4_R {M : mM} {t : Nat} (hlt : t < mN M) : mR (mkLink4 M t) t 0 = some (mN M + 4) := by
  rw [(lk4_E.2.2 t (show t < mN M + 6 by omega) (by omega)).2.2]
  exact oR (show t < mN M + 5 by omega) lk3_R
theorem lk4_N {M : mM} {t : Nat} : mN (mkLink4 M t) = mN M + 85 := by
  show mN (mkEnd (newM (mkLink3 M t) 2 17) (mN M + 5) 1 (mN M) (mN M + 2)) = _
  rw [mN_End]
  rfl

set_option maxRecDepth 100000 in
set_option maxHeartbeats 4000000 in
theorem ct_Link_init {X : mX} {l : Launch} {M : mM} {t : Nat} (hp : (mT M t).1 = 0) : Ct X l uLink_init (rn 4 78 165 2602) [.ref t] M (fun r M' => r = none ∧ M' = mkLink M t) := by
  refine Ct.of (by decide) (Nat.le_of_ble_eq_true rfl) ?_
  show G X l uLink_init (rn 4 78 165 2602) 165 2602 M 0 [some (.ref t), none, none] [] _
  refine G.wf fun hw => ?_
  have hlt := (hw.lt (a := t) (by rw [hp]; decide)).2
  refine g_aload_n 0 dLink_init_0 rfl ?_
  refine g_objInit 1 dLink_init_1 oi_Link_1 oi_m oi_c ⟨(Nat.le_of_ble_eq_true rfl), (Nat.le_of_ble_eq_true rfl)⟩ ?_
  refine g_new 4 1 3 dLink_init_4 ns_Link_7 (Nat.le_of_ble_eq_true rfl) (Nat.le_of_ble_eq_true rfl) ?_
  refine g_dup 7 dLink_init_7 rfl ?_
  refine g_callI 8 [] dLink_init_8 cs_Link_9 rfl rfl ⟨(Nat.le_of_ble_eq_true rfl), (Nat.le_of_ble_eq_true rfl)⟩ (Nat.le_of_ble_eq_true rfl) (ct_Pipe_init nT) (Nat.le_of_ble_eq_true rfl) (Nat.le_of_ble_eq_true rfl) ?_
  rintro _ _ ⟨rfl, rfl⟩
  refine g_astore_n 11 dLink_init_11 (by decide) rfl ?_
  refine g_new 12 1 3 dLink_init_12 ns_Link_7 (Nat.le_of_ble_eq_true rfl) (Nat.le_of_ble_eq_true rfl) ?_
  refine g_dup 15 dLink_init_15 rfl ?_
  refine g_callI 16 [] dLink_init_16 cs_Link_9 rfl rfl ⟨(Nat.le_of_ble_eq_true rfl), (Nat.le_of_ble_eq_true rfl)⟩ (Nat.le_of_ble_eq_true rfl) (ct_Pipe_init nT) (Nat.le_of_ble_eq_true rfl) (Nat.le_of_ble_eq_true rfl) ?_
  rintro _ _ ⟨rfl, rfl⟩
  refine g_astore_n 19 dLink_init_19 (by decide) rfl ?_
  refine g_aload_n 20 dLink_init_20 rfl ?_
  refine g_iconst 21 2 dLink_init_21 rfl ?_
  refine g_anew 22 6 2 dLink_init_22 al_Link_10 rfl (by decide) (by decide) (by decide) (by decide) (Nat.le_of_ble_eq_true rfl) (Nat.le_of_ble_eq_true rfl) ?_
  refine g_putr 25 0 0 dLink_init_25 ps_Link_12 rfl rfl (oT (Nat.lt_add_right 4 hlt) (oT (Nat.lt_add_right 3 hlt) (oT (Nat.lt_add_right 2 hlt) (oT (Nat.lt_add_right 1 hlt) (oT (Nat.lt_add_right 0 hlt) hp))))) ?_
  refine g_aload_n 28 dLink_init_28 rfl ?_
  refine g_getr 29 0 0 dLink_init_29 fs_Link_12 rfl (lk3_T hlt hp) lk3_R ?_
  refine g_iconst 32 0 dLink_init_32 rfl ?_
  refine g_new 33 2 17 dLink_init_33 ns_Link_10 (Nat.le_of_ble_eq_true rfl) (Nat.le_of_ble_eq_true rfl) ?_
  refine g_dup 36 dLink_init_36 rfl ?_
  refine g_iconst 37 1 dLink_init_37 rfl ?_
  refine g_aload_n 38 dLink_init_38 rfl ?_
  refine g_aload_n 39 dLink_init_39 rfl ?_
  refine g_callI 40 [_, _, _] dLink_init_40 cs_Link_18 rfl rfl ⟨(Nat.le_of_ble_eq_true rfl), (Nat.le_of_ble_eq_true rfl)⟩ (Nat.le_of_ble_eq_true rfl) (ct_End_init nT (Or.inr rfl)) (Nat.le_of_ble_eq_true rfl) (Nat.le_of_ble_eq_true rfl) ?_
  rintro _ _ ⟨rfl, rfl⟩
  refine g_aast 43 6 (ci := 2) dLink_init_43 rfl (by decide) (by rw [ex_End.2.1 (mN M + 4) (show mN M + 4 < mN M + 6 by omega)]; exact oTT (show mN M + 4 < mN M + 5 by omega) lk3_A) (by unfold vp_in; decide) (by rw [ex_End.2.1 _ (show mN M + 5 < mN M + 6 by omega)]; exact nT (M := mkLink3 M t)) (by decide) rfl ?_
  refine g_aload_n 44 dLink_init_44 rfl ?_
  refine g_getr 45 0 0 dLink_init_45 fs_Link_12 rfl (lk4_T hlt hp) (lk4_R hlt) ?_
  refine g_iconst 48 1 dLink_init_48 rfl ?_
  refine g_new 49 2 17 dLink_init_49 ns_Link_10 (Nat.le_of_ble_eq_true rfl) (Nat.le_of_ble_eq_true rfl) ?_
  refine g_dup 52 dLink_init_52 rfl ?_
  refine g_iconst 53 0 dLink_init_53 rfl ?_
  refine g_aload_n 54 dLink_init_54 rfl ?_
  refine g_aload_n 55 dLink_init_55 rfl ?_
  refine g_callI 56 [_, _, _] dLink_init_56 cs_Link_18 rfl rfl ⟨(Nat.le_of_ble_eq_true rfl), (Nat.le_of_ble_eq_true rfl)⟩ (Nat.le_of_ble_eq_true rfl) (ct_End_init nT (Or.inl rfl)) (Nat.le_of_ble_eq_true rfl) (Nat.le_of_ble_eq_true rfl) ?_
  rintro _ _ ⟨rfl, rfl⟩
  refine g_aast 59 6 (ci := 2) dLink_init_59 rfl (by decide) (by rw [ex_End.2.1 (mN M + 4) (by show mN M + 4 < mN (mkLink4 M t) + 1; rw [lk4_N]; omega)]; exact oTT (M := mkLink4 M t) (by rw [lk4_N]; omega) lk4_A) (by unfold vp_in; decide) (by rw [ex_End.2.1 _ (Nat.lt_succ_self _)]; exact nT (M := mkLink4 M t)) (by decide) rfl ?_
  exact g_vret 60 dLink_init_60 rfl ⟨rfl, rfl⟩

theorem dBQ_take_0 : decode uBQ_take.2.1 0 = .ok (.iconst 0, 1) := by decide +kernel
theorem dBQ_take_1 : decode uBQ_take.2.1 1 = .ok (.iload_n 1, 1) := by decide +kernel
theorem dBQ_take_2 : decode uBQ_take.2.1 2 = .ok (.aload_n 0, 1) := by decide +kernel
theorem dBQ_take_3 : decode uBQ_take.2.1 3 = .ok (.getfield 7, 3) := by decide +kernel
theorem dBQ_take_6 : decode uBQ_take.2.1 6 = .ok (.invokestatic 17, 3) := by decide +kernel
theorem dBQ_take_9 : decode uBQ_take.2.1 9 = .ok (.invokestatic 29, 3) := by decide +kernel
theorem dBQ_take_12 : decode uBQ_take.2.1 12 = .ok (.istore_n 2, 1) := by decide +kernel
theorem dBQ_take_13 : decode uBQ_take.2.1 13 = .ok (.aload_n 0, 1) := by decide +kernel
theorem dBQ_take_14 : decode uBQ_take.2.1 14 = .ok (.getfield 13, 3) := by decide +kernel
theorem dBQ_take_17 : decode uBQ_take.2.1 17 = .ok (.iload_n 2, 1) := by decide +kernel
theorem dBQ_take_18 : decode uBQ_take.2.1 18 = .ok (.invokestatic 32, 3) := by decide +kernel
theorem dBQ_take_21 : decode uBQ_take.2.1 21 = .ok (.astore_n 3, 1) := by decide +kernel
theorem dBQ_take_22 : decode uBQ_take.2.1 22 = .ok (.aload_n 0, 1) := by decide +kernel
theorem dBQ_take_23 : decode uBQ_take.2.1 23 = .ok (.getfield 13, 3) := by decide +kernel
theorem dBQ_take_26 : decode uBQ_take.2.1 26 = .ok (.iload_n 2, 1) := by decide +kernel
theorem dBQ_take_27 : decode uBQ_take.2.1 27 = .ok (.aload_n 0, 1) := by decide +kernel
theorem dBQ_take_28 : decode uBQ_take.2.1 28 = .ok (.getfield 13, 3) := by decide +kernel
theorem dBQ_take_31 : decode uBQ_take.2.1 31 = .ok (.iconst 0, 1) := by decide +kernel
theorem dBQ_take_32 : decode uBQ_take.2.1 32 = .ok (.aload_n 0, 1) := by decide +kernel
theorem dBQ_take_33 : decode uBQ_take.2.1 33 = .ok (.getfield 7, 3) := by decide +kernel
theorem dBQ_take_36 : decode uBQ_take.2.1 36 = .ok (.iload_n 2, 1) := by decide +kernel
theorem dBQ_take_37 : decode uBQ_take.2.1 37 = .ok (.isub, 1) := by decide +kernel
theorem dBQ_take_38 : decode uBQ_take.2.1 38 = .ok (.invokestatic 23, 3) := by decide +kernel
theorem dBQ_take_41 : decode uBQ_take.2.1 41 = .ok (.aload_n 0, 1) := by decide +kernel
theorem dBQ_take_42 : decode uBQ_take.2.1 42 = .ok (.dup, 1) := by decide +kernel
theorem dBQ_take_43 : decode uBQ_take.2.1 43 = .ok (.getfield 7, 3) := by decide +kernel
theorem dBQ_take_46 : decode uBQ_take.2.1 46 = .ok (.iload_n 2, 1) := by decide +kernel
theorem dBQ_take_47 : decode uBQ_take.2.1 47 = .ok (.isub, 1) := by decide +kernel
theorem dBQ_take_48 : decode uBQ_take.2.1 48 = .ok (.putfield 7, 3) := by decide +kernel
theorem dBQ_take_51 : decode uBQ_take.2.1 51 = .ok (.aload_n 3, 1) := by decide +kernel
theorem dBQ_take_52 : decode uBQ_take.2.1 52 = .ok (.areturn, 1) := by decide +kernel
theorem dBQ_add_0 : decode uBQ_add.2.1 0 = .ok (.aload_n 1, 1) := by decide +kernel
theorem dBQ_add_1 : decode uBQ_add.2.1 1 = .ok (.arraylength, 1) := by decide +kernel
theorem dBQ_add_2 : decode uBQ_add.2.1 2 = .ok (.aload_n 0, 1) := by decide +kernel
theorem dBQ_add_3 : decode uBQ_add.2.1 3 = .ok (.getfield 13, 3) := by decide +kernel
theorem dBQ_add_6 : decode uBQ_add.2.1 6 = .ok (.arraylength, 1) := by decide +kernel
theorem dBQ_add_7 : decode uBQ_add.2.1 7 = .ok (.aload_n 0, 1) := by decide +kernel
theorem dBQ_add_8 : decode uBQ_add.2.1 8 = .ok (.getfield 7, 3) := by decide +kernel
theorem dBQ_add_11 : decode uBQ_add.2.1 11 = .ok (.isub, 1) := by decide +kernel
theorem dBQ_add_12 : decode uBQ_add.2.1 12 = .ok (.invokestatic 17, 3) := by decide +kernel
theorem dBQ_add_15 : decode uBQ_add.2.1 15 = .ok (.istore_n 2, 1) := by decide +kernel
theorem dBQ_add_16 : decode uBQ_add.2.1 16 = .ok (.aload_n 1, 1) := by decide +kernel
theorem dBQ_add_17 : decode uBQ_add.2.1 17 = .ok (.iconst 0, 1) := by decide +kernel
theorem dBQ_add_18 : decode uBQ_add.2.1 18 = .ok (.aload_n 0, 1) := by decide +kernel
theorem dBQ_add_19 : decode uBQ_add.2.1 19 = .ok (.getfield 13, 3) := by decide +kernel
theorem dBQ_add_22 : decode uBQ_add.2.1 22 = .ok (.aload_n 0, 1) := by decide +kernel
theorem dBQ_add_23 : decode uBQ_add.2.1 23 = .ok (.getfield 7, 3) := by decide +kernel
theorem dBQ_add_26 : decode uBQ_add.2.1 26 = .ok (.iload_n 2, 1) := by decide +kernel
theorem dBQ_add_27 : decode uBQ_add.2.1 27 = .ok (.invokestatic 23, 3) := by decide +kernel
theorem dBQ_add_30 : decode uBQ_add.2.1 30 = .ok (.aload_n 0, 1) := by decide +kernel
theorem dBQ_add_31 : decode uBQ_add.2.1 31 = .ok (.dup, 1) := by decide +kernel
theorem dBQ_add_32 : decode uBQ_add.2.1 32 = .ok (.getfield 7, 3) := by decide +kernel
theorem dBQ_add_35 : decode uBQ_add.2.1 35 = .ok (.iload_n 2, 1) := by decide +kernel
theorem dBQ_add_36 : decode uBQ_add.2.1 36 = .ok (.iadd, 1) := by decide +kernel
theorem dBQ_add_37 : decode uBQ_add.2.1 37 = .ok (.putfield 7, 3) := by decide +kernel
theorem dBQ_add_40 : decode uBQ_add.2.1 40 = .ok (.return_, 1) := by decide +kernel
theorem dBQ_dropAll_0 : decode uBQ_dropAll.2.1 0 = .ok (.aload_n 0, 1) := by decide +kernel
theorem dBQ_dropAll_1 : decode uBQ_dropAll.2.1 1 = .ok (.getfield 7, 3) := by decide +kernel
theorem dBQ_dropAll_4 : decode uBQ_dropAll.2.1 4 = .ok (.istore_n 1, 1) := by decide +kernel
theorem dBQ_dropAll_5 : decode uBQ_dropAll.2.1 5 = .ok (.aload_n 0, 1) := by decide +kernel
theorem dBQ_dropAll_6 : decode uBQ_dropAll.2.1 6 = .ok (.iconst 0, 1) := by decide +kernel
theorem dBQ_dropAll_7 : decode uBQ_dropAll.2.1 7 = .ok (.putfield 7, 3) := by decide +kernel
theorem dBQ_dropAll_10 : decode uBQ_dropAll.2.1 10 = .ok (.iload_n 1, 1) := by decide +kernel
theorem dBQ_dropAll_11 : decode uBQ_dropAll.2.1 11 = .ok (.ireturn, 1) := by decide +kernel
theorem fs_BQ_7 : fS "InterleavedLink$ByteQueue" 7 9 1 := ⟨"InterleavedLink$ByteQueue", T_BQ, 2, cf_BQ, by decide, Or.inl (gW_in 242 (by decide +kernel) rfl)⟩
theorem fs_BQ_13 : fS "InterleavedLink$ByteQueue" 13 9 0 := ⟨"InterleavedLink$ByteQueue", T_BQ, 2, cf_BQ, by decide, Or.inl (gW_in 241 (by decide +kernel) rfl)⟩
/-! ===== byte queues ===== -/
theorem nI_cl {n : Int32} (h : ¬ n < 0) : nI n.toNatClampNeg = n := by
  have h0 : (0 : Int) ≤ n.toInt := by
    have := Int32.not_lt.mp h
    simpa using Int32.le_iff_toInt_le.mp this
  have h1 := Int32.toInt_lt n
  have e : n.toNatClampNeg = n.toInt.toNat := rfl
  apply Int32.toInt_inj.mp
  rw [nI_toInt (by rw [e]; omega), e]
  omega
/-- how many of c bytes are taken when n are asked for -/
def tkn (n : Int32) (c : Nat) : Nat := min n.toNatClampNeg c
theorem tkn_le (n : Int32) (c : Nat) : tkn n c ≤ c := Nat.min_le_right _ _
theorem tkn_val {n : Int32} {c : Nat} (hc : c < 2 ^ 31) : (if (0 : Int32) < (if nI c < n then nI c else n) then (if nI c < n then nI c else n) else 0) = nI (tkn n c) := by
  have e : n.toNatClampNeg = n.toInt.toNat := rfl
  have z0 : (0 : Int32).toInt = 0 := rfl
  by_cases h : nI c < n
  · have h' := Int32.lt_iff_toInt_lt.mp h
    rw [nI_toInt hc] at h'
    have : tkn n c = c := by unfold tkn; rw [e]; omega
    rw [if_pos h, this]
    by_cases h2 : (0 : Int32) < nI c
    · rw [if_pos h2]
    · rw [if_neg h2]
      rw [Int32.lt_iff_toInt_lt, nI_toInt hc, z0] at h2
      have : c = 0 := by omega
      subst this
      rfl
  · have h' : ¬ nI c < n := h
    rw [Int32.lt_iff_toInt_lt, nI_toInt hc] at h'
    rw [if_neg h]
    by_cases h2 : (0 : Int32) < n
    · rw [if_pos h2]
      have h3 := Int32.lt_iff_toInt_lt.mp h2
      rw [z0] at h3
      have : tkn n c = n.toNatClampNeg := by unfold tkn; rw [e]; omega
      rw [this]
      exact (nI_cl (fun q => by have := Int32.lt_iff_toInt_lt.mp q; rw [z0] at this; omega)).symm
    · rw [if_neg h2]
      rw [Int32.lt_iff_toInt_lt, z0] at h2
      have : tkn n c = 0 := by unfold tkn; rw [e]; omega
      rw [this]
      rfl
theorem mm_n {a n : Nat} (h : n ≤ a) (ha : a < 2 ^ 31) : (if nI a < nI n then nI a else nI n) = nI n := if_neg fun q => absurd ((nI_ltI ha (by omega)).mp q) (by omega)
set_option maxRecDepth 100000 in
set_option maxHeartbeats 4000000 in
theorem ct_BQ_take {X : mX} {l : Launch} {M : mM} {q r N c : Nat} (hq : (mT M q).1 = 9) (hr : mR M q 0 = some r) (hT : mT M r = (101, N)) (hqN : q < mN M) (hrN : r < mN M) (hc : mI M q 1 = nI c) (hcN : c ≤ N) (hN : N < 2 ^ 31) {n : Int32} (h8 : tkn n c ≤ 8) (h9 : 8 < N) (hfit : ∀ i, i < c → fits .byte (.int (mI M r i)) = true) : Ct X l uBQ_take (rn 2 62 1 8) [.ref q, .int n] M (fun r' M' => r' = some (.ref (mN M)) ∧ M' = setI (cpyI (cpyI (newM M 101 (tkn n c)) r (mN M) 0 0 (tkn n c)) r r (tkn n c) 0 (c - tkn n c)) q 1 (nI (c - tkn n c))) := by
  refine Ct.of (by decide) (Nat.le_of_ble_eq_true rfl) ?_
  show G X l uBQ_take (rn 2 62 1 8) 1 8 M 0 [some (.ref q), some (.int n), none, none] [] _
  have hle := tkn_le n c
  have hqr : q ≠ r := fun e => by subst e; rw [hT] at hq; exact absurd hq (by show ¬ (101 : Nat) = 9; decide)
  have hc1 : mI (cpyI (newM M 101 (tkn n c)) r (mN M) 0 0 (tkn n c)) q 1 = nI c := by rw [mI_cpy_ne (Nat.ne_of_lt hqN), mI_new_ne (Nat.ne_of_lt hqN)]; exact hc
  have hI1 : ∀ j, mI (cpyI (newM M 101 (tkn n c)) r (mN M) 0 0 (tkn n c)) r j = mI M r j := fun j => by rw [mI_cpy_ne (Nat.ne_of_lt hrN), mI_new_ne (Nat.ne_of_lt hrN)]
  have hq1 : (mT (cpyI (newM M 101 (tkn n c)) r (mN M) 0 0 (tkn n c)) q).1 = 9 := oT (M := M) (t := 101) (n := tkn n c) hqN hq
  have hr1 : mR (cpyI (newM M 101 (tkn n c)) r (mN M) 0 0 (tkn n c)) q 0 = some r := oR (M := M) (t := 101) (n := tkn n c) hqN hr
  have hT1 : mT (cpyI (newM M 101 (tkn n c)) r (mN M) 0 0 (tkn n c)) r = (101, N) := oTT (M := M) (t := 101) (n := tkn n c) hrN hT
  refine g_iconst 0 0 dBQ_take_0 rfl ?_
  refine g_iload_n 1 dBQ_take_1 rfl ?_
  refine g_aload_n 2 dBQ_take_2 rfl ?_
  refine g_geti 3 9 1 dBQ_take_3 fs_BQ_7 rfl hq ?_
  refine g_top (nI (c)) (hc) ?_
  refine g_mmin 6 dBQ_take_6 jm_BQ_17 jm_min jm_init jm_minc ⟨(Nat.le_of_ble_eq_true rfl), (Nat.le_of_ble_eq_true rfl)⟩ ?_
  refine g_mmax 9 dBQ_take_9 jm_BQ_29 jm_max jm_init jm_maxc ⟨(Nat.le_of_ble_eq_true rfl), (Nat.le_of_ble_eq_true rfl)⟩ ?_
  refine g_top (nI (tkn n c)) (tkn_val (by omega)) ?_
  refine g_istore_n 12 dBQ_take_12 (by decide) rfl ?_
  refine g_aload_n 13 dBQ_take_13 rfl ?_
  refine g_getr 14 9 0 dBQ_take_14 fs_BQ_13 rfl hq hr ?_
  refine g_iload_n 17 dBQ_take_17 rfl ?_
  refine g_callS 18 [_, _] dBQ_take_18 cs_BQ_32 rfl rfl ⟨(Nat.le_of_ble_eq_true rfl), (Nat.le_of_ble_eq_true rfl)⟩ (Nat.le_of_ble_eq_true rfl) (ct_copyOf hT hrN (by omega) h8 hN (fun i hi => hfit i (by omega))) (Nat.le_of_ble_eq_true rfl) (Nat.le_of_ble_eq_true rfl) ?_
  rintro _ _ ⟨rfl, rfl⟩
  refine g_astore_n 21 dBQ_take_21 (by decide) rfl ?_
  refine g_aload_n 22 dBQ_take_22 rfl ?_
  refine g_getr 23 9 0 dBQ_take_23 fs_BQ_13 rfl hq1 hr1 ?_
  refine g_iload_n 26 dBQ_take_26 rfl ?_
  refine g_aload_n 27 dBQ_take_27 rfl ?_
  refine g_getr 28 9 0 dBQ_take_28 fs_BQ_13 rfl hq1 hr1 ?_
  refine g_iconst 31 (nI 0) dBQ_take_31 rfl ?_
  refine g_aload_n 32 dBQ_take_32 rfl ?_
  refine g_geti 33 9 1 dBQ_take_33 fs_BQ_7 rfl hq1 ?_
  refine g_top (nI (c)) (hc1) ?_
  refine g_iload_n 36 dBQ_take_36 rfl ?_
  refine g_isubN 37 dBQ_take_37 (by omega) ?_
  refine g_copy 38 dBQ_take_38 jc_BQ_23 jc_n jc_s jc_i hT1 hT1 (by omega) (by omega) (by omega) (by omega) (fun i hi => by rw [hI1]; exact hfit _ (by omega)) ⟨(Nat.le_of_ble_eq_true rfl), (Nat.le_of_ble_eq_true rfl)⟩ ?_
  refine g_aload_n 41 dBQ_take_41 rfl ?_
  refine g_dup 42 dBQ_take_42 rfl ?_
  refine g_geti 43 9 1 dBQ_take_43 fs_BQ_7 rfl hq1 ?_
  refine g_top (nI (c)) ((mI_cpy_ne hqr).trans hc1) ?_
  refine g_iload_n 46 dBQ_take_46 rfl ?_
  refine g_isubN 47 dBQ_take_47 (by omega) ?_
  refine g_puti 48 9 1 dBQ_take_48 ps_BQ_7 rfl hq1 ?_
  refine g_aload_n 51 dBQ_take_51 rfl ?_
  exact g_aret 52 dBQ_take_52 rfl (Or.inr ⟨_, rfl⟩) ⟨rfl, rfl⟩

set_option maxRecDepth 100000 in
set_option maxHeartbeats 4000000 in
theorem ct_BQ_add {X : mX} {l : Launch} {M : mM} {q r N c : Nat} (hq : (mT M q).1 = 9) (hr : mR M q 0 = some r) (hT : mT M r = (101, N)) (hqN : q < mN M) (hrN : r < mN M) (hc : mI M q 1 = nI c) (hcN : c ≤ N) (hN : N < 2 ^ 31) {b n : Nat} (hb : mT M b = (101, n)) (hn : c + n ≤ N) (hfit : ∀ i, i < n → fits .byte (.int (mI M b i)) = true) : Ct X l uBQ_add (rk 1 40) [.ref q, .ref b] M (fun r' M' => r' = none ∧ M' = setI (cpyI M b r 0 c n) q 1 (nI (c + n))) := by
  refine Ct.of (by decide) (Nat.le_of_ble_eq_true rfl) ?_
  show G X l uBQ_add (rk 1 40) 0 0 M 0 [some (.ref q), some (.ref b), none] [] _
  have hqr : q ≠ r := fun e => by subst e; rw [hT] at hq; exact absurd hq (by show ¬ (101 : Nat) = 9; decide)
  refine g_aload_n 0 dBQ_add_0 rfl ?_
  refine g_alen 1 1 dBQ_add_1 rfl hb ?_
  refine g_aload_n 2 dBQ_add_2 rfl ?_
  refine g_getr 3 9 0 dBQ_add_3 fs_BQ_13 rfl hq hr ?_
  refine g_alen 6 1 dBQ_add_6 rfl hT ?_
  refine g_aload_n 7 dBQ_add_7 rfl ?_
  refine g_geti 8 9 1 dBQ_add_8 fs_BQ_7 rfl hq ?_
  refine g_top (nI (c)) (hc) ?_
  refine g_isubN 11 dBQ_add_11 (by omega) ?_
  refine g_mmin 12 dBQ_add_12 jm_BQ_17 jm_min jm_init jm_minc ⟨(Nat.le_of_ble_eq_true rfl), (Nat.le_of_ble_eq_true rfl)⟩ ?_
  refine g_top (nI (n)) (mm_n (by omega) (by omega)) ?_
  refine g_istore_n 15 dBQ_add_15 (by decide) rfl ?_
  refine g_aload_n 16 dBQ_add_16 rfl ?_
  refine g_iconst 17 (nI 0) dBQ_add_17 rfl ?_
  refine g_aload_n 18 dBQ_add_18 rfl ?_
  refine g_getr 19 9 0 dBQ_add_19 fs_BQ_13 rfl hq hr ?_
  refine g_aload_n 22 dBQ_add_22 rfl ?_
  refine g_geti 23 9 1 dBQ_add_23 fs_BQ_7 rfl hq ?_
  refine g_top (nI (c)) (hc) ?_
  refine g_iload_n 26 dBQ_add_26 rfl ?_
  refine g_copy 27 dBQ_add_27 jc_BQ_23 jc_n jc_s jc_i hb hT (by omega) (by omega) (by omega) (by omega) (fun i hi => by rw [Nat.zero_add]; exact hfit i hi) ⟨(Nat.le_of_ble_eq_true rfl), (Nat.le_of_ble_eq_true rfl)⟩ ?_
  refine g_aload_n 30 dBQ_add_30 rfl ?_
  refine g_dup 31 dBQ_add_31 rfl ?_
  refine g_geti 32 9 1 dBQ_add_32 fs_BQ_7 rfl hq ?_
  refine g_top (nI (c)) ((mI_cpy_ne hqr).trans hc) ?_
  refine g_iload_n 35 dBQ_add_35 rfl ?_
  refine g_iaddN 36 dBQ_add_36 ?_
  refine g_puti 37 9 1 dBQ_add_37 ps_BQ_7 rfl hq ?_
  exact g_vret 40 dBQ_add_40 rfl ⟨rfl, rfl⟩

set_option maxRecDepth 100000 in
set_option maxHeartbeats 4000000 in
theorem ct_BQ_dropAll {X : mX} {l : Launch} {M : mM} {q : Nat} (hq : (mT M q).1 = 9) : Ct X l uBQ_dropAll (rk 0 0) [.ref q] M (fun r' M' => r' = some (.int (mI M q 1)) ∧ M' = setI M q 1 0) := by
  refine Ct.of (by decide) (Nat.le_of_ble_eq_true rfl) ?_
  show G X l uBQ_dropAll (rk 0 0) 0 0 M 0 [some (.ref q), none] [] _
  refine g_aload_n 0 dBQ_dropAll_0 rfl ?_
  refine g_geti 1 9 1 dBQ_dropAll_1 fs_BQ_7 rfl hq ?_
  refine g_istore_n 4 dBQ_dropAll_4 (by decide) rfl ?_
  refine g_aload_n 5 dBQ_dropAll_5 rfl ?_
  refine g_iconst 6 0 dBQ_dropAll_6 rfl ?_
  refine g_puti 7 9 1 dBQ_dropAll_7 ps_BQ_7 rfl hq ?_
  refine g_iload_n 10 dBQ_dropAll_10 rfl ?_
  exact g_iret 11 dBQ_dropAll_11 rfl ⟨rfl, rfl⟩

theorem dBQ_addLowest_0 : decode uBQ_addLowest.2.1 0 = .ok (.lload_n 1, 1) := by decide +kernel
theorem dBQ_addLowest_1 : decode uBQ_addLowest.2.1 1 = .ok (.lstore 4, 2) := by decide +kernel
theorem dBQ_addLowest_3 : decode uBQ_addLowest.2.1 3 = .ok (.iconst 0, 1) := by decide +kernel
theorem dBQ_addLowest_4 : decode uBQ_addLowest.2.1 4 = .ok (.istore 6, 2) := by decide +kernel
theorem dBQ_addLowest_6 : decode uBQ_addLowest.2.1 6 = .ok (.iload 6, 2) := by decide +kernel
theorem dBQ_addLowest_8 : decode uBQ_addLowest.2.1 8 = .ok (.iload_n 3, 1) := by decide +kernel
theorem dBQ_addLowest_9 : decode uBQ_addLowest.2.1 9 = .ok (.if_icmp .ge 51, 3) := by decide +kernel
theorem dBQ_addLowest_12 : decode uBQ_addLowest.2.1 12 = .ok (.aload_n 0, 1) := by decide +kernel
theorem dBQ_addLowest_13 : decode uBQ_addLowest.2.1 13 = .ok (.getfield 7, 3) := by decide +kernel
theorem dBQ_addLowest_16 : decode uBQ_addLowest.2.1 16 = .ok (.aload_n 0, 1) := by decide +kernel
theorem dBQ_addLowest_17 : decode uBQ_addLowest.2.1 17 = .ok (.getfield 13, 3) := by decide +kernel
theorem dBQ_addLowest_20 : decode uBQ_addLowest.2.1 20 = .ok (.arraylength, 1) := by decide +kernel
theorem dBQ_addLowest_21 : decode uBQ_addLowest.2.1 21 = .ok (.if_icmp .ge 39, 3) := by decide +kernel
theorem dBQ_addLowest_24 : decode uBQ_addLowest.2.1 24 = .ok (.aload_n 0, 1) := by decide +kernel
theorem dBQ_addLowest_25 : decode uBQ_addLowest.2.1 25 = .ok (.getfield 13, 3) := by decide +kernel
theorem dBQ_addLowest_28 : decode uBQ_addLowest.2.1 28 = .ok (.aload_n 0, 1) := by decide +kernel
theorem dBQ_addLowest_29 : decode uBQ_addLowest.2.1 29 = .ok (.getfield 7, 3) := by decide +kernel
theorem dBQ_addLowest_32 : decode uBQ_addLowest.2.1 32 = .ok (.lload 4, 2) := by decide +kernel
theorem dBQ_addLowest_34 : decode uBQ_addLowest.2.1 34 = .ok (.l2i, 1) := by decide +kernel
theorem dBQ_addLowest_35 : decode uBQ_addLowest.2.1 35 = .ok (.i2b, 1) := by decide +kernel
theorem dBQ_addLowest_36 : decode uBQ_addLowest.2.1 36 = .ok (.bastore, 1) := by decide +kernel
theorem dBQ_addLowest_37 : decode uBQ_addLowest.2.1 37 = .ok (.aload_n 0, 1) := by decide +kernel
theorem dBQ_addLowest_38 : decode uBQ_addLowest.2.1 38 = .ok (.dup, 1) := by decide +kernel
theorem dBQ_addLowest_39 : decode uBQ_addLowest.2.1 39 = .ok (.getfield 7, 3) := by decide +kernel
theorem dBQ_addLowest_42 : decode uBQ_addLowest.2.1 42 = .ok (.iconst 1, 1) := by decide +kernel
theorem dBQ_addLowest_43 : decode uBQ_addLowest.2.1 43 = .ok (.iadd, 1) := by decide +kernel
theorem dBQ_addLowest_44 : decode uBQ_addLowest.2.1 44 = .ok (.putfield 7, 3) := by decide +kernel
theorem dBQ_addLowest_47 : decode uBQ_addLowest.2.1 47 = .ok (.lload 4, 2) := by decide +kernel
theorem dBQ_addLowest_49 : decode uBQ_addLowest.2.1 49 = .ok (.bipush 8, 2) := by decide +kernel
theorem dBQ_addLowest_51 : decode uBQ_addLowest.2.1 51 = .ok (.lushr, 1) := by decide +kernel
theorem dBQ_addLowest_52 : decode uBQ_addLowest.2.1 52 = .ok (.lstore 4, 2) := by decide +kernel
theorem dBQ_addLowest_54 : decode uBQ_addLowest.2.1 54 = .ok (.iinc 6 1, 3) := by decide +kernel
theorem dBQ_addLowest_57 : decode uBQ_addLowest.2.1 57 = .ok (.goto (-51), 3) := by decide +kernel
theorem dBQ_addLowest_60 : decode uBQ_addLowest.2.1 60 = .ok (.return_, 1) := by decide +kernel
/-! ===== a byte queue gets the lowest bytes of a number ===== -/
def ushr (x : Int64) (y : Int32) : Int64 := (x.toUInt64 >>> (y.toInt64.toUInt64 &&& Int64.toUInt64 63)).toInt64
/-- the number without its i lowest bytes -/
def shB (b : Int64) : Nat → Int64
  | 0 => b
  | i + 1 => ushr (shB b i) 8
def adl (M : mM) (q r c : Nat) (b : Int64) : Nat → mM
  | 0 => M
  | i + 1 => setI (setI (adl M q r c b i) r (c + i) (sb (sb (shB b i).toInt32))) q 1 (nI (c + i + 1))
theorem adl_T {M : mM} {q r c : Nat} {b : Int64} : ∀ i, mT (adl M q r c b i) = mT M
  | 0 => rfl
  | i + 1 => adl_T (M := M) (q := q) (r := r) (c := c) (b := b) i
theorem adl_R {M : mM} {q r c : Nat} {b : Int64} : ∀ i, mR (adl M q r c b i) = mR M
  | 0 => rfl
  | i + 1 => adl_R (M := M) (q := q) (r := r) (c := c) (b := b) i
theorem adl_N {M : mM} {q r c : Nat} {b : Int64} : ∀ i, mN (adl M q r c b i) = mN M
  | 0 => rfl
  | i + 1 => adl_N (M := M) (q := q) (r := r) (c := c) (b := b) i
theorem adl_q {M : mM} {q r c : Nat} {b : Int64} (h : mI M q 1 = nI c) : ∀ i, mI (adl M q r c b i) q 1 = nI (c + i)
  | 0 => h
  | i + 1 => up2_same
set_option maxRecDepth 100000 in
set_option maxHeartbeats 4000000 in
theorem g_addLowest {X : mX} {l : Launch} {M : mM} {q r N c n : Nat} {b : Int64} {Q : Option Value → mM → Prop} (hq : (mT M q).1 = 9) (hr : mR M q 0 = some r) (hT : mT M r = (101, N)) (hqN : q < mN M) (hrN : r < mN M) (hc : mI M q 1 = nI c) (hcN : c ≤ N) (hN : N < 2 ^ 31) (hn : c + n ≤ N) (hQ : Q none (adl M q r c b n)) : ∀ j i, i + j = n → G X l uBQ_addLowest (rk 0 0) 0 0 (adl M q r c b i) 6 [some (.ref q), some (.long b), none, some (.int (nI n)), some (.long (shB b i)), none, some (.int (nI i))] [] Q
  | 0, i, hi => by
    have hi : i = n := by omega
    subst hi
    refine g_iload 6 dBQ_addLowest_6 rfl ?_
    refine g_iload_n 8 dBQ_addLowest_8 rfl ?_
    refine g_icmp_geN 9 60 dBQ_addLowest_9 rfl (by omega) (by omega) (fun h9 => ?_) (fun h9 => ?_)
    · exact g_vret 60 dBQ_addLowest_60 rfl hQ
    · exact absurd (Nat.le_refl _) h9
  | j + 1, i, hi => by
    have ih := g_addLowest (X := X) (l := l) hq hr hT hqN hrN hc hcN hN hn hQ j (i + 1) (by omega)
    have hqr : q ≠ r := fun e => by subst e; rw [hT] at hq; exact absurd hq (by show ¬ (101 : Nat) = 9; decide)
    have hqi : (mT (adl M q r c b i) q).1 = 9 := by rw [adl_T]; exact hq
    have hri : mR (adl M q r c b i) q 0 = some r := by rw [adl_R]; exact hr
    have hTi : mT (adl M q r c b i) r = (101, N) := by rw [adl_T]; exact hT
    have hci := adl_q (r := r) (b := b) hc i
    refine g_iload 6 dBQ_addLowest_6 rfl ?_
    refine g_iload_n 8 dBQ_addLowest_8 rfl ?_
    refine g_icmp_geN 9 60 dBQ_addLowest_9 rfl (by omega) (by omega) (fun h9 => ?_) (fun h9 => ?_)
    · exact absurd h9 (by omega)
    · refine g_aload_n 12 dBQ_addLowest_12 rfl ?_
      refine g_geti 13 9 1 dBQ_addLowest_13 fs_BQ_7 rfl hqi ?_
      refine g_top (nI (c + i)) (hci) ?_
      refine g_aload_n 16 dBQ_addLowest_16 rfl ?_
      refine g_getr 17 9 0 dBQ_addLowest_17 fs_BQ_13 rfl hqi hri ?_
      refine g_alen 20 1 dBQ_addLowest_20 rfl hTi ?_
      refine g_icmp_geN 21 60 dBQ_addLowest_21 rfl (by omega) (by omega) (fun h21 => ?_) (fun h21 => ?_)
      · exact absurd h21 (by omega)
      · refine g_aload_n 24 dBQ_addLowest_24 rfl ?_
        refine g_getr 25 9 0 dBQ_addLowest_25 fs_BQ_13 rfl hqi hri ?_
        refine g_aload_n 28 dBQ_addLowest_28 rfl ?_
        refine g_geti 29 9 1 dBQ_addLowest_29 fs_BQ_7 rfl hqi ?_
        refine g_top (nI (c + i)) (hci) ?_
        refine g_lload 32 dBQ_addLowest_32 rfl ?_
        refine g_l2i 34 dBQ_addLowest_34 ?_
        refine g_i2b 35 dBQ_addLowest_35 ?_
        refine g_bastN 36 dBQ_addLowest_36 hTi (by omega) hN ?_
        refine g_aload_n 37 dBQ_addLowest_37 rfl ?_
        refine g_dup 38 dBQ_addLowest_38 rfl ?_
        refine g_geti 39 9 1 dBQ_addLowest_39 fs_BQ_7 rfl hqi ?_
        refine g_top (nI (c + i)) ((up2_a hqr).trans hci) ?_
        refine g_iconst 42 (nI 1) dBQ_addLowest_42 rfl ?_
        refine g_iaddN 43 dBQ_addLowest_43 ?_
        refine g_puti 44 9 1 dBQ_addLowest_44 ps_BQ_7 rfl hqi ?_
        refine g_lload 47 dBQ_addLowest_47 rfl ?_
        refine g_bipush 49 (nI 8) dBQ_addLowest_49 rfl ?_
        refine g_lushr 51 dBQ_addLowest_51 ?_
        refine g_lstore 52 dBQ_addLowest_52 (by decide) rfl ?_
        refine g_iincN 54 dBQ_addLowest_54 rfl (by decide) rfl ?_
        refine g_goto 57 6 dBQ_addLowest_57 rfl ?_
        exact ih
set_option maxRecDepth 100000 in
set_option maxHeartbeats 4000000 in
theorem ct_BQ_addLowest {X : mX} {l : Launch} {M : mM} {q r N c : Nat} (hq : (mT M q).1 = 9) (hr : mR M q 0 = some r) (hT : mT M r = (101, N)) (hqN : q < mN M) (hrN : r < mN M) (hc : mI M q 1 = nI c) (hcN : c ≤ N) (hN : N < 2 ^ 31) {n : Nat} {b : Int64} (hn : c + n ≤ N) : Ct X l uBQ_addLowest (rk 0 0) [.ref q, .long b, .int (nI n)] M (fun r' M' => r' = none ∧ M' = adl M q r c b n) := by
  refine Ct.of (by decide) (Nat.le_of_ble_eq_true rfl) ?_
  show G X l uBQ_addLowest (rk 0 0) 0 0 M 0 [some (.ref q), some (.long b), none, some (.int (nI n)), none, none, none] [] _
  refine g_lload_n 0 dBQ_addLowest_0 rfl ?_
  refine g_lstore 1 dBQ_addLowest_1 (by decide) rfl ?_
  refine g_iconst 3 (nI 0) dBQ_addLowest_3 rfl ?_
  refine g_istore 4 dBQ_addLowest_4 (by decide) rfl ?_
  exact g_addLowest hq hr hT hqN hrN hc hcN hN hn ⟨rfl, rfl⟩ n 0 (by omega)

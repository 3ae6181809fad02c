theorem dPipe_isFull_0 : decode uPipe_isFull.2.1 0 = .ok (.aload_n 0, 1) := by decide +kernel
theorem dPipe_isFull_1 : decode uPipe_isFull.2.1 1 = .ok (.getfield 21, 3) := by decide +kernel
theorem dPipe_isFull_4 : decode uPipe_isFull.2.1 4 = .ok (.bipush 30, 2) := by decide +kernel
theorem dPipe_isFull_6 : decode uPipe_isFull.2.1 6 = .ok (.if_icmp .lt 7, 3) := by decide +kernel
theorem dPipe_isFull_9 : decode uPipe_isFull.2.1 9 = .ok (.iconst 1, 1) := by decide +kernel
theorem dPipe_isFull_10 : decode uPipe_isFull.2.1 10 = .ok (.goto 4, 3) := by decide +kernel
theorem dPipe_isFull_13 : decode uPipe_isFull.2.1 13 = .ok (.iconst 0, 1) := by decide +kernel
theorem dPipe_isFull_14 : decode uPipe_isFull.2.1 14 = .ok (.ireturn, 1) := by decide +kernel
theorem dPipe_add_0 : decode uPipe_add.2.1 0 = .ok (.aload_n 0, 1) := by decide +kernel
theorem dPipe_add_1 : decode uPipe_add.2.1 1 = .ok (.getfield 21, 3) := by decide +kernel
theorem dPipe_add_4 : decode uPipe_add.2.1 4 = .ok (.bipush 48, 2) := by decide +kernel
theorem dPipe_add_6 : decode uPipe_add.2.1 6 = .ok (.if_icmp .ge 31, 3) := by decide +kernel
theorem dPipe_add_9 : decode uPipe_add.2.1 9 = .ok (.aload_n 0, 1) := by decide +kernel
theorem dPipe_add_10 : decode uPipe_add.2.1 10 = .ok (.getfield 11, 3) := by decide +kernel
theorem dPipe_add_13 : decode uPipe_add.2.1 13 = .ok (.aload_n 0, 1) := by decide +kernel
theorem dPipe_add_14 : decode uPipe_add.2.1 14 = .ok (.getfield 17, 3) := by decide +kernel
theorem dPipe_add_17 : decode uPipe_add.2.1 17 = .ok (.aload_n 0, 1) := by decide +kernel
theorem dPipe_add_18 : decode uPipe_add.2.1 18 = .ok (.getfield 21, 3) := by decide +kernel
theorem dPipe_add_21 : decode uPipe_add.2.1 21 = .ok (.iadd, 1) := by decide +kernel
theorem dPipe_add_22 : decode uPipe_add.2.1 22 = .ok (.bipush 48, 2) := by decide +kernel
theorem dPipe_add_24 : decode uPipe_add.2.1 24 = .ok (.irem, 1) := by decide +kernel
theorem dPipe_add_25 : decode uPipe_add.2.1 25 = .ok (.aload_n 1, 1) := by decide +kernel
theorem dPipe_add_26 : decode uPipe_add.2.1 26 = .ok (.aastore, 1) := by decide +kernel
theorem dPipe_add_27 : decode uPipe_add.2.1 27 = .ok (.aload_n 0, 1) := by decide +kernel
theorem dPipe_add_28 : decode uPipe_add.2.1 28 = .ok (.dup, 1) := by decide +kernel
theorem dPipe_add_29 : decode uPipe_add.2.1 29 = .ok (.getfield 21, 3) := by decide +kernel
theorem dPipe_add_32 : decode uPipe_add.2.1 32 = .ok (.iconst 1, 1) := by decide +kernel
theorem dPipe_add_33 : decode uPipe_add.2.1 33 = .ok (.iadd, 1) := by decide +kernel
theorem dPipe_add_34 : decode uPipe_add.2.1 34 = .ok (.putfield 21, 3) := by decide +kernel
theorem dPipe_add_37 : decode uPipe_add.2.1 37 = .ok (.return_, 1) := by decide +kernel
theorem dPipe_get_0 : decode uPipe_get.2.1 0 = .ok (.iload_n 1, 1) := by decide +kernel
theorem dPipe_get_1 : decode uPipe_get.2.1 1 = .ok (.ifCond .lt 28, 3) := by decide +kernel
theorem dPipe_get_4 : decode uPipe_get.2.1 4 = .ok (.iload_n 1, 1) := by decide +kernel
theorem dPipe_get_5 : decode uPipe_get.2.1 5 = .ok (.aload_n 0, 1) := by decide +kernel
theorem dPipe_get_6 : decode uPipe_get.2.1 6 = .ok (.getfield 21, 3) := by decide +kernel
theorem dPipe_get_9 : decode uPipe_get.2.1 9 = .ok (.if_icmp .ge 20, 3) := by decide +kernel
theorem dPipe_get_12 : decode uPipe_get.2.1 12 = .ok (.aload_n 0, 1) := by decide +kernel
theorem dPipe_get_13 : decode uPipe_get.2.1 13 = .ok (.getfield 11, 3) := by decide +kernel
theorem dPipe_get_16 : decode uPipe_get.2.1 16 = .ok (.aload_n 0, 1) := by decide +kernel
theorem dPipe_get_17 : decode uPipe_get.2.1 17 = .ok (.getfield 17, 3) := by decide +kernel
theorem dPipe_get_20 : decode uPipe_get.2.1 20 = .ok (.iload_n 1, 1) := by decide +kernel
theorem dPipe_get_21 : decode uPipe_get.2.1 21 = .ok (.iadd, 1) := by decide +kernel
theorem dPipe_get_22 : decode uPipe_get.2.1 22 = .ok (.bipush 48, 2) := by decide +kernel
theorem dPipe_get_24 : decode uPipe_get.2.1 24 = .ok (.irem, 1) := by decide +kernel
theorem dPipe_get_25 : decode uPipe_get.2.1 25 = .ok (.aaload, 1) := by decide +kernel
theorem dPipe_get_26 : decode uPipe_get.2.1 26 = .ok (.goto 4, 3) := by decide +kernel
theorem dPipe_get_29 : decode uPipe_get.2.1 29 = .ok (.aconst_null, 1) := by decide +kernel
theorem dPipe_get_30 : decode uPipe_get.2.1 30 = .ok (.areturn, 1) := by decide +kernel
theorem cfw_Pipe : ∀ k, k < 3 → u_lay "InterleavedLink$Pipe" T_Pipe k ∈ gW
  | 0, _ => gW_in 100 (by decide +kernel) rfl
  | 1, _ => gW_in 102 (by decide +kernel) rfl
  | 2, _ => gW_in 104 (by decide +kernel) rfl
  | (_ + 3), h => absurd h (by omega)
theorem cf_Pipe : cF 1 "InterleavedLink$Pipe" T_Pipe 3 := ⟨by decide, rfl, fun w hw => by
  obtain ⟨k, hk, rfl⟩ := List.mem_map.mp hw
  exact cfw_Pipe k (List.mem_range.mp hk), by decide +kernel, ty_Pipe, by decide +kernel⟩
theorem fs_Pipe_21 : fS "InterleavedLink$Pipe" 21 1 2 := ⟨"InterleavedLink$Pipe", T_Pipe, 3, cf_Pipe, by decide, Or.inl (gW_in 98 (by decide +kernel) rfl)⟩
theorem fs_Pipe_11 : fS "InterleavedLink$Pipe" 11 1 0 := ⟨"InterleavedLink$Pipe", T_Pipe, 3, cf_Pipe, by decide, Or.inl (gW_in 96 (by decide +kernel) rfl)⟩
theorem fs_Pipe_17 : fS "InterleavedLink$Pipe" 17 1 1 := ⟨"InterleavedLink$Pipe", T_Pipe, 3, cf_Pipe, by decide, Or.inl (gW_in 97 (by decide +kernel) rfl)⟩
theorem ps_Pipe_21 {nm : String} : pS "InterleavedLink$Pipe" nm 21 1 2 .int := ⟨"InterleavedLink$Pipe", T_Pipe, 3, cf_Pipe, by decide, by decide +kernel, Or.inl ⟨rfl, Or.inl (gW_in 98 (by decide +kernel) rfl)⟩⟩
/-! ===== Pipe ===== -/
set_option maxRecDepth 100000 in
set_option maxHeartbeats 4000000 in
theorem ct_Pipe_isFull {X : mX} {l : Launch} {M : mM} {p : Nat} (hp : (mT M p).1 = 1) : Ct X l uPipe_isFull (rk 0 0) [.ref p] M (fun r M' => r = some (.int (if mI M p 2 < 30 then 0 else 1)) ∧ M' = M) := by
  refine Ct.of (by decide) (Nat.le_of_ble_eq_true rfl) ?_
  show G X l uPipe_isFull (rk 0 0) 0 0 M 0 [some (.ref p)] [] _
  refine g_aload_n 0 dPipe_isFull_0 rfl ?_
  refine g_geti 1 1 2 dPipe_isFull_1 fs_Pipe_21 rfl hp ?_
  refine g_bipush 4 30 dPipe_isFull_4 rfl ?_
  refine g_icmp_lt 6 13 dPipe_isFull_6 rfl (fun h6 => ?_) (fun h6 => ?_)
  · refine g_iconst 13 0 dPipe_isFull_13 rfl ?_
    exact g_zret 14 dPipe_isFull_14 rfl (by decide) ⟨by simp_all, rfl⟩
  · refine g_iconst 9 1 dPipe_isFull_9 rfl ?_
    refine g_goto 10 14 dPipe_isFull_10 rfl ?_
    exact g_zret 14 dPipe_isFull_14 rfl (by decide) ⟨by simp_all, rfl⟩

set_option maxRecDepth 100000 in
set_option maxHeartbeats 4000000 in
theorem ct_Pipe_add {X : mX} {l : Launch} {M : mM} {p r f i n : Nat} (hp : (mT M p).1 = 1) (hr : mR M p 0 = some r) (hrT : mT M r = (104, 48)) (hf : (mT M f).1 = 12) (h1 : mI M p 1 = nI i) (h2 : mI M p 2 = nI n) (hi : i < 48) (hn : n < 48) : Ct X l uPipe_add (rk 0 0) [.ref p, .ref f] M (fun r' M' => r' = none ∧ M' = setI (setR M r ((i + n) % 48) (some f)) p 2 (nI (n + 1))) := by
  refine Ct.of (by decide) (Nat.le_of_ble_eq_true rfl) ?_
  show G X l uPipe_add (rk 0 0) 0 0 M 0 [some (.ref p), some (.ref f)] [] _
  have hix : mI M p 1 + mI M p 2 - (mI M p 1 + mI M p 2) / 48 * 48 = nI ((i + n) % 48) := by rw [h1, h2, nI_add]; exact rem48 (by omega)
  refine g_aload_n 0 dPipe_add_0 rfl ?_
  refine g_geti 1 1 2 dPipe_add_1 fs_Pipe_21 rfl hp ?_
  refine g_bipush 4 48 dPipe_add_4 rfl ?_
  refine g_icmp_ge 6 37 dPipe_add_6 rfl (fun h6 => ?_) (fun h6 => ?_)
  · exact absurd h6 (by rw [h2]; exact nI_ge hn (by decide))
  · refine g_aload_n 9 dPipe_add_9 rfl ?_
    refine g_getr 10 1 0 dPipe_add_10 fs_Pipe_11 rfl hp hr ?_
    refine g_aload_n 13 dPipe_add_13 rfl ?_
    refine g_geti 14 1 1 dPipe_add_14 fs_Pipe_17 rfl hp ?_
    refine g_aload_n 17 dPipe_add_17 rfl ?_
    refine g_geti 18 1 2 dPipe_add_18 fs_Pipe_21 rfl hp ?_
    refine g_iadd 21 dPipe_add_21 ?_
    refine g_bipush 22 48 dPipe_add_22 rfl ?_
    refine g_irem 24 dPipe_add_24 (by decide) ?_
    refine g_aload_n 25 dPipe_add_25 rfl ?_
    refine g_aast 26 4 dPipe_add_26 rfl (by decide) hrT (by rw [hix]; exact vp_in_nI (Nat.mod_lt _ (by decide)) (by decide)) hf (by decide) rfl ?_
    refine g_aload_n 27 dPipe_add_27 rfl ?_
    refine g_dup 28 dPipe_add_28 rfl ?_
    refine g_geti 29 1 2 dPipe_add_29 fs_Pipe_21 rfl hp ?_
    refine g_iconst 32 1 dPipe_add_32 rfl ?_
    refine g_iadd 33 dPipe_add_33 ?_
    refine g_puti 34 1 2 dPipe_add_34 ps_Pipe_21 rfl hp ?_
    exact g_vret 37 dPipe_add_37 rfl ⟨rfl, by rw [hix, nI_clamp (Nat.lt_of_lt_of_le (Nat.mod_lt _ (by decide)) (by decide : 48 ≤ 2 ^ 31)), mI_setR, h2, nI_1]⟩

set_option maxRecDepth 100000 in
set_option maxHeartbeats 4000000 in
theorem ct_Pipe_get {X : mX} {l : Launch} {M : mM} {p r i n k : Nat} {o : Option Nat} (hp : (mT M p).1 = 1) (hr : mR M p 0 = some r) (hrT : mT M r = (104, 48)) (h1 : mI M p 1 = nI i) (h2 : mI M p 2 = nI n) (hi : i < 48) (hk : k < n) (hn : n ≤ 48) (ho : mR M r ((i + k) % 48) = o) : Ct X l uPipe_get (rk 0 0) [.ref p, .int (nI k)] M (fun r' M' => r' = some (va_rf o) ∧ M' = M) := by
  refine Ct.of (by decide) (Nat.le_of_ble_eq_true rfl) ?_
  show G X l uPipe_get (rk 0 0) 0 0 M 0 [some (.ref p), some (.int (nI k))] [] _
  have hix : mI M p 1 + nI k - (mI M p 1 + nI k) / 48 * 48 = nI ((i + k) % 48) := by rw [h1, nI_add]; exact rem48 (by omega)
  cases o with
  | none =>
    refine g_iload_n 0 dPipe_get_0 rfl ?_
    refine g_if_lt 1 29 dPipe_get_1 rfl (fun h1 => ?_) (fun h1 => ?_)
    · exact absurd h1 (nI_pos (by omega))
    · refine g_iload_n 4 dPipe_get_4 rfl ?_
      refine g_aload_n 5 dPipe_get_5 rfl ?_
      refine g_geti 6 1 2 dPipe_get_6 fs_Pipe_21 rfl hp ?_
      refine g_icmp_ge 9 29 dPipe_get_9 rfl (fun h9 => ?_) (fun h9 => ?_)
      · exact absurd h9 (by rw [h2]; exact nI_ge hk (by omega))
      · refine g_aload_n 12 dPipe_get_12 rfl ?_
        refine g_getr 13 1 0 dPipe_get_13 fs_Pipe_11 rfl hp hr ?_
        refine g_aload_n 16 dPipe_get_16 rfl ?_
        refine g_geti 17 1 1 dPipe_get_17 fs_Pipe_17 rfl hp ?_
        refine g_iload_n 20 dPipe_get_20 rfl ?_
        refine g_iadd 21 dPipe_get_21 ?_
        refine g_bipush 22 48 dPipe_get_22 rfl ?_
        refine g_irem 24 dPipe_get_24 (by decide) ?_
        refine g_aald 25 4 (o := none) dPipe_get_25 rfl (by decide) hrT (by rw [hix]; exact vp_in_nI (Nat.mod_lt _ (by decide)) (by decide)) (by rw [hix, nI_clamp (Nat.lt_of_lt_of_le (Nat.mod_lt _ (by decide)) (by decide : 48 ≤ 2 ^ 31))]; exact ho) ?_
        refine g_goto 26 30 dPipe_get_26 rfl ?_
        exact g_aretN 30 dPipe_get_30 rfl (Or.inl ⟨_, rfl⟩) ⟨rfl, rfl⟩
  | some b =>
    refine g_iload_n 0 dPipe_get_0 rfl ?_
    refine g_if_lt 1 29 dPipe_get_1 rfl (fun h1 => ?_) (fun h1 => ?_)
    · exact absurd h1 (nI_pos (by omega))
    · refine g_iload_n 4 dPipe_get_4 rfl ?_
      refine g_aload_n 5 dPipe_get_5 rfl ?_
      refine g_geti 6 1 2 dPipe_get_6 fs_Pipe_21 rfl hp ?_
      refine g_icmp_ge 9 29 dPipe_get_9 rfl (fun h9 => ?_) (fun h9 => ?_)
      · exact absurd h9 (by rw [h2]; exact nI_ge hk (by omega))
      · refine g_aload_n 12 dPipe_get_12 rfl ?_
        refine g_getr 13 1 0 dPipe_get_13 fs_Pipe_11 rfl hp hr ?_
        refine g_aload_n 16 dPipe_get_16 rfl ?_
        refine g_geti 17 1 1 dPipe_get_17 fs_Pipe_17 rfl hp ?_
        refine g_iload_n 20 dPipe_get_20 rfl ?_
        refine g_iadd 21 dPipe_get_21 ?_
        refine g_bipush 22 48 dPipe_get_22 rfl ?_
        refine g_irem 24 dPipe_get_24 (by decide) ?_
        refine g_aald 25 4 (o := some b) dPipe_get_25 rfl (by decide) hrT (by rw [hix]; exact vp_in_nI (Nat.mod_lt _ (by decide)) (by decide)) (by rw [hix, nI_clamp (Nat.lt_of_lt_of_le (Nat.mod_lt _ (by decide)) (by decide : 48 ≤ 2 ^ 31))]; exact ho) ?_
        refine g_goto 26 30 dPipe_get_26 rfl ?_
        exact g_aret 30 dPipe_get_30 rfl (Or.inl ⟨_, rfl⟩) ⟨rfl, rfl⟩

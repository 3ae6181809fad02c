theorem dEnd_activeCount_0 : decode uEnd_activeCount.2.1 0 = .ok (.iconst 0, 1) := by decide +kernel
theorem dEnd_activeCount_1 : decode uEnd_activeCount.2.1 1 = .ok (.istore_n 1, 1) := by decide +kernel
theorem dEnd_activeCount_2 : decode uEnd_activeCount.2.1 2 = .ok (.iconst 0, 1) := by decide +kernel
theorem dEnd_activeCount_3 : decode uEnd_activeCount.2.1 3 = .ok (.istore_n 2, 1) := by decide +kernel
theorem dEnd_activeCount_4 : decode uEnd_activeCount.2.1 4 = .ok (.iload_n 2, 1) := by decide +kernel
theorem dEnd_activeCount_5 : decode uEnd_activeCount.2.1 5 = .ok (.bipush 12, 2) := by decide +kernel
theorem dEnd_activeCount_7 : decode uEnd_activeCount.2.1 7 = .ok (.if_icmp .ge 24, 3) := by decide +kernel
theorem dEnd_activeCount_10 : decode uEnd_activeCount.2.1 10 = .ok (.aload_n 0, 1) := by decide +kernel
theorem dEnd_activeCount_11 : decode uEnd_activeCount.2.1 11 = .ok (.getfield 44, 3) := by decide +kernel
theorem dEnd_activeCount_14 : decode uEnd_activeCount.2.1 14 = .ok (.iload_n 2, 1) := by decide +kernel
theorem dEnd_activeCount_15 : decode uEnd_activeCount.2.1 15 = .ok (.aaload, 1) := by decide +kernel
theorem dEnd_activeCount_16 : decode uEnd_activeCount.2.1 16 = .ok (.invokevirtual 92, 3) := by decide +kernel
theorem dEnd_activeCount_19 : decode uEnd_activeCount.2.1 19 = .ok (.ifCond .eq 6, 3) := by decide +kernel
theorem dEnd_activeCount_22 : decode uEnd_activeCount.2.1 22 = .ok (.iinc 1 1, 3) := by decide +kernel
theorem dEnd_activeCount_25 : decode uEnd_activeCount.2.1 25 = .ok (.iinc 2 1, 3) := by decide +kernel
theorem dEnd_activeCount_28 : decode uEnd_activeCount.2.1 28 = .ok (.goto (-24), 3) := by decide +kernel
theorem dEnd_activeCount_31 : decode uEnd_activeCount.2.1 31 = .ok (.iload_n 1, 1) := by decide +kernel
theorem dEnd_activeCount_32 : decode uEnd_activeCount.2.1 32 = .ok (.ireturn, 1) := by decide +kernel
theorem dEnd_mayOpen_0 : decode uEnd_mayOpen.2.1 0 = .ok (.aload_n 0, 1) := by decide +kernel
theorem dEnd_mayOpen_1 : decode uEnd_mayOpen.2.1 1 = .ok (.getfield 68, 3) := by decide +kernel
theorem dEnd_mayOpen_4 : decode uEnd_mayOpen.2.1 4 = .ok (.bipush 23, 2) := by decide +kernel
theorem dEnd_mayOpen_6 : decode uEnd_mayOpen.2.1 6 = .ok (.if_icmp .gt 31, 3) := by decide +kernel
theorem dEnd_mayOpen_9 : decode uEnd_mayOpen.2.1 9 = .ok (.aload_n 0, 1) := by decide +kernel
theorem dEnd_mayOpen_10 : decode uEnd_mayOpen.2.1 10 = .ok (.getfield 24, 3) := by decide +kernel
theorem dEnd_mayOpen_13 : decode uEnd_mayOpen.2.1 13 = .ok (.getfield 96, 3) := by decide +kernel
theorem dEnd_mayOpen_16 : decode uEnd_mayOpen.2.1 16 = .ok (.ifCond .le 21, 3) := by decide +kernel
theorem dEnd_mayOpen_19 : decode uEnd_mayOpen.2.1 19 = .ok (.aload_n 0, 1) := by decide +kernel
theorem dEnd_mayOpen_20 : decode uEnd_mayOpen.2.1 20 = .ok (.invokevirtual 99, 3) := by decide +kernel
theorem dEnd_mayOpen_23 : decode uEnd_mayOpen.2.1 23 = .ok (.aload_n 0, 1) := by decide +kernel
theorem dEnd_mayOpen_24 : decode uEnd_mayOpen.2.1 24 = .ok (.getfield 51, 3) := by decide +kernel
theorem dEnd_mayOpen_27 : decode uEnd_mayOpen.2.1 27 = .ok (.getfield 103, 3) := by decide +kernel
theorem dEnd_mayOpen_30 : decode uEnd_mayOpen.2.1 30 = .ok (.if_icmp .ge 7, 3) := by decide +kernel
theorem dEnd_mayOpen_33 : decode uEnd_mayOpen.2.1 33 = .ok (.iconst 1, 1) := by decide +kernel
theorem dEnd_mayOpen_34 : decode uEnd_mayOpen.2.1 34 = .ok (.goto 4, 3) := by decide +kernel
theorem dEnd_mayOpen_37 : decode uEnd_mayOpen.2.1 37 = .ok (.iconst 0, 1) := by decide +kernel
theorem dEnd_mayOpen_38 : decode uEnd_mayOpen.2.1 38 = .ok (.ireturn, 1) := by decide +kernel
theorem dEnd_canSend_0 : decode uEnd_canSend.2.1 0 = .ok (.aload_n 1, 1) := by decide +kernel
theorem dEnd_canSend_1 : decode uEnd_canSend.2.1 1 = .ok (.invokevirtual 163, 3) := by decide +kernel
theorem dEnd_canSend_4 : decode uEnd_canSend.2.1 4 = .ok (.ifCond .ne 5, 3) := by decide +kernel
theorem dEnd_canSend_7 : decode uEnd_canSend.2.1 7 = .ok (.iconst 0, 1) := by decide +kernel
theorem dEnd_canSend_8 : decode uEnd_canSend.2.1 8 = .ok (.ireturn, 1) := by decide +kernel
theorem dEnd_canSend_9 : decode uEnd_canSend.2.1 9 = .ok (.aload_n 1, 1) := by decide +kernel
theorem dEnd_canSend_10 : decode uEnd_canSend.2.1 10 = .ok (.getfield 166, 3) := by decide +kernel
theorem dEnd_canSend_13 : decode uEnd_canSend.2.1 13 = .ok (.getfield 170, 3) := by decide +kernel
theorem dEnd_canSend_16 : decode uEnd_canSend.2.1 16 = .ok (.ifCond .ne 8, 3) := by decide +kernel
theorem dEnd_canSend_19 : decode uEnd_canSend.2.1 19 = .ok (.aload_n 1, 1) := by decide +kernel
theorem dEnd_canSend_20 : decode uEnd_canSend.2.1 20 = .ok (.getfield 143, 3) := by decide +kernel
theorem dEnd_canSend_23 : decode uEnd_canSend.2.1 23 = .ok (.ireturn, 1) := by decide +kernel
theorem dEnd_canSend_24 : decode uEnd_canSend.2.1 24 = .ok (.aload_n 1, 1) := by decide +kernel
theorem dEnd_canSend_25 : decode uEnd_canSend.2.1 25 = .ok (.getfield 173, 3) := by decide +kernel
theorem dEnd_canSend_28 : decode uEnd_canSend.2.1 28 = .ok (.ifCond .le 14, 3) := by decide +kernel
theorem dEnd_canSend_31 : decode uEnd_canSend.2.1 31 = .ok (.aload_n 0, 1) := by decide +kernel
theorem dEnd_canSend_32 : decode uEnd_canSend.2.1 32 = .ok (.getfield 15, 3) := by decide +kernel
theorem dEnd_canSend_35 : decode uEnd_canSend.2.1 35 = .ok (.ifCond .le 7, 3) := by decide +kernel
theorem dEnd_canSend_38 : decode uEnd_canSend.2.1 38 = .ok (.iconst 1, 1) := by decide +kernel
theorem dEnd_canSend_39 : decode uEnd_canSend.2.1 39 = .ok (.goto 4, 3) := by decide +kernel
theorem dEnd_canSend_42 : decode uEnd_canSend.2.1 42 = .ok (.iconst 0, 1) := by decide +kernel
theorem dEnd_canSend_43 : decode uEnd_canSend.2.1 43 = .ok (.ireturn, 1) := by decide +kernel
theorem dEnd_nextSender_0 : decode uEnd_nextSender.2.1 0 = .ok (.iconst 1, 1) := by decide +kernel
theorem dEnd_nextSender_1 : decode uEnd_nextSender.2.1 1 = .ok (.istore_n 1, 1) := by decide +kernel
theorem dEnd_nextSender_2 : decode uEnd_nextSender.2.1 2 = .ok (.iload_n 1, 1) := by decide +kernel
theorem dEnd_nextSender_3 : decode uEnd_nextSender.2.1 3 = .ok (.bipush 12, 2) := by decide +kernel
theorem dEnd_nextSender_5 : decode uEnd_nextSender.2.1 5 = .ok (.if_icmp .gt 34, 3) := by decide +kernel
theorem dEnd_nextSender_8 : decode uEnd_nextSender.2.1 8 = .ok (.aload_n 0, 1) := by decide +kernel
theorem dEnd_nextSender_9 : decode uEnd_nextSender.2.1 9 = .ok (.getfield 71, 3) := by decide +kernel
theorem dEnd_nextSender_12 : decode uEnd_nextSender.2.1 12 = .ok (.iload_n 1, 1) := by decide +kernel
theorem dEnd_nextSender_13 : decode uEnd_nextSender.2.1 13 = .ok (.iadd, 1) := by decide +kernel
theorem dEnd_nextSender_14 : decode uEnd_nextSender.2.1 14 = .ok (.bipush 12, 2) := by decide +kernel
theorem dEnd_nextSender_16 : decode uEnd_nextSender.2.1 16 = .ok (.irem, 1) := by decide +kernel
theorem dEnd_nextSender_17 : decode uEnd_nextSender.2.1 17 = .ok (.istore_n 2, 1) := by decide +kernel
theorem dEnd_nextSender_18 : decode uEnd_nextSender.2.1 18 = .ok (.aload_n 0, 1) := by decide +kernel
theorem dEnd_nextSender_19 : decode uEnd_nextSender.2.1 19 = .ok (.aload_n 0, 1) := by decide +kernel
theorem dEnd_nextSender_20 : decode uEnd_nextSender.2.1 20 = .ok (.getfield 44, 3) := by decide +kernel
theorem dEnd_nextSender_23 : decode uEnd_nextSender.2.1 23 = .ok (.iload_n 2, 1) := by decide +kernel
theorem dEnd_nextSender_24 : decode uEnd_nextSender.2.1 24 = .ok (.aaload, 1) := by decide +kernel
theorem dEnd_nextSender_25 : decode uEnd_nextSender.2.1 25 = .ok (.invokevirtual 159, 3) := by decide +kernel
theorem dEnd_nextSender_28 : decode uEnd_nextSender.2.1 28 = .ok (.ifCond .eq 5, 3) := by decide +kernel
theorem dEnd_nextSender_31 : decode uEnd_nextSender.2.1 31 = .ok (.iload_n 2, 1) := by decide +kernel
theorem dEnd_nextSender_32 : decode uEnd_nextSender.2.1 32 = .ok (.ireturn, 1) := by decide +kernel
theorem dEnd_nextSender_33 : decode uEnd_nextSender.2.1 33 = .ok (.iinc 1 1, 3) := by decide +kernel
theorem dEnd_nextSender_36 : decode uEnd_nextSender.2.1 36 = .ok (.goto (-34), 3) := by decide +kernel
theorem dEnd_nextSender_39 : decode uEnd_nextSender.2.1 39 = .ok (.iconst (-1), 1) := by decide +kernel
theorem dEnd_nextSender_40 : decode uEnd_nextSender.2.1 40 = .ok (.ireturn, 1) := by decide +kernel
theorem dEnd_sendWaiting_0 : decode uEnd_sendWaiting.2.1 0 = .ok (.iconst 0, 1) := by decide +kernel
theorem dEnd_sendWaiting_1 : decode uEnd_sendWaiting.2.1 1 = .ok (.istore_n 2, 1) := by decide +kernel
theorem dEnd_sendWaiting_2 : decode uEnd_sendWaiting.2.1 2 = .ok (.iload_n 2, 1) := by decide +kernel
theorem dEnd_sendWaiting_3 : decode uEnd_sendWaiting.2.1 3 = .ok (.iload_n 1, 1) := by decide +kernel
theorem dEnd_sendWaiting_4 : decode uEnd_sendWaiting.2.1 4 = .ok (.if_icmp .ge 45, 3) := by decide +kernel
theorem dEnd_sendWaiting_7 : decode uEnd_sendWaiting.2.1 7 = .ok (.aload_n 0, 1) := by decide +kernel
theorem dEnd_sendWaiting_8 : decode uEnd_sendWaiting.2.1 8 = .ok (.getfield 82, 3) := by decide +kernel
theorem dEnd_sendWaiting_11 : decode uEnd_sendWaiting.2.1 11 = .ok (.invokevirtual 149, 3) := by decide +kernel
theorem dEnd_sendWaiting_14 : decode uEnd_sendWaiting.2.1 14 = .ok (.ifCond .ne 35, 3) := by decide +kernel
theorem dEnd_sendWaiting_17 : decode uEnd_sendWaiting.2.1 17 = .ok (.aload_n 0, 1) := by decide +kernel
theorem dEnd_sendWaiting_18 : decode uEnd_sendWaiting.2.1 18 = .ok (.invokevirtual 152, 3) := by decide +kernel
theorem dEnd_sendWaiting_21 : decode uEnd_sendWaiting.2.1 21 = .ok (.istore_n 3, 1) := by decide +kernel
theorem dEnd_sendWaiting_22 : decode uEnd_sendWaiting.2.1 22 = .ok (.iload_n 3, 1) := by decide +kernel
theorem dEnd_sendWaiting_23 : decode uEnd_sendWaiting.2.1 23 = .ok (.ifCond .ge 5, 3) := by decide +kernel
theorem dEnd_sendWaiting_26 : decode uEnd_sendWaiting.2.1 26 = .ok (.iload_n 2, 1) := by decide +kernel
theorem dEnd_sendWaiting_27 : decode uEnd_sendWaiting.2.1 27 = .ok (.ireturn, 1) := by decide +kernel
theorem dEnd_sendWaiting_28 : decode uEnd_sendWaiting.2.1 28 = .ok (.aload_n 0, 1) := by decide +kernel
theorem dEnd_sendWaiting_29 : decode uEnd_sendWaiting.2.1 29 = .ok (.iload_n 3, 1) := by decide +kernel
theorem dEnd_sendWaiting_30 : decode uEnd_sendWaiting.2.1 30 = .ok (.putfield 71, 3) := by decide +kernel
theorem dEnd_sendWaiting_33 : decode uEnd_sendWaiting.2.1 33 = .ok (.aload_n 0, 1) := by decide +kernel
theorem dEnd_sendWaiting_34 : decode uEnd_sendWaiting.2.1 34 = .ok (.aload_n 0, 1) := by decide +kernel
theorem dEnd_sendWaiting_35 : decode uEnd_sendWaiting.2.1 35 = .ok (.getfield 44, 3) := by decide +kernel
theorem dEnd_sendWaiting_38 : decode uEnd_sendWaiting.2.1 38 = .ok (.iload_n 3, 1) := by decide +kernel
theorem dEnd_sendWaiting_39 : decode uEnd_sendWaiting.2.1 39 = .ok (.aaload, 1) := by decide +kernel
theorem dEnd_sendWaiting_40 : decode uEnd_sendWaiting.2.1 40 = .ok (.invokevirtual 155, 3) := by decide +kernel
theorem dEnd_sendWaiting_43 : decode uEnd_sendWaiting.2.1 43 = .ok (.iinc 2 1, 3) := by decide +kernel
theorem dEnd_sendWaiting_46 : decode uEnd_sendWaiting.2.1 46 = .ok (.goto (-44), 3) := by decide +kernel
theorem dEnd_sendWaiting_49 : decode uEnd_sendWaiting.2.1 49 = .ok (.iload_n 2, 1) := by decide +kernel
theorem dEnd_sendWaiting_50 : decode uEnd_sendWaiting.2.1 50 = .ok (.ireturn, 1) := by decide +kernel
theorem cs_End_92 : cV "InterleavedLink$End" 92 uStream_isActive 0 := ⟨⟨Or.inl (gW_in 396 (by decide +kernel) rfl), (gW_in 72 (by decide +kernel) rfl), (gW_in 399 (by decide +kernel) rfl), ⟨by decide, by decide⟩, by decide +kernel⟩, (gW_in 397 (by decide +kernel) rfl), (gW_in 398 (by decide +kernel) rfl)⟩
theorem fs_End_68 : fS "InterleavedLink$End" 68 2 15 := ⟨"InterleavedLink$End", T_End, 17, cf_End, by decide, Or.inl (gW_in 324 (by decide +kernel) rfl)⟩
theorem fs_End_24 : fS "InterleavedLink$End" 24 2 6 := ⟨"InterleavedLink$End", T_End, 17, cf_End, by decide, Or.inl (gW_in 311 (by decide +kernel) rfl)⟩
theorem fs_End_96 : fS "InterleavedLink$End" 96 3 3 := ⟨"InterleavedLink$FieldList", T_FList, 4, cf_FList, by decide, Or.inl (gW_in 131 (by decide +kernel) rfl)⟩
theorem cs_End_99 : cV "InterleavedLink$End" 99 uEnd_activeCount 0 := ⟨⟨Or.inl (gW_in 392 (by decide +kernel) rfl), (gW_in 66 (by decide +kernel) rfl), (gW_in 395 (by decide +kernel) rfl), ⟨by decide, by decide⟩, by decide +kernel⟩, (gW_in 394 (by decide +kernel) rfl), (gW_in 2 (by decide +kernel) rfl)⟩
theorem fs_End_51 : fS "InterleavedLink$End" 51 2 10 := ⟨"InterleavedLink$End", T_End, 17, cf_End, by decide, Or.inl (gW_in 318 (by decide +kernel) rfl)⟩
theorem fs_End_103 : fS "InterleavedLink$End" 103 7 1 := ⟨"InterleavedLink$Settings", T_Sett, 3, cf_Sett, by decide, Or.inl (gW_in 220 (by decide +kernel) rfl)⟩
theorem cs_End_163 : cV "InterleavedLink$End" 163 uStream_maySend 0 := ⟨⟨Or.inl (gW_in 594 (by decide +kernel) rfl), (gW_in 72 (by decide +kernel) rfl), (gW_in 567 (by decide +kernel) rfl), ⟨by decide, by decide⟩, by decide +kernel⟩, (gW_in 565 (by decide +kernel) rfl), (gW_in 566 (by decide +kernel) rfl)⟩
theorem fs_End_166 : fS "InterleavedLink$End" 166 8 8 := ⟨"InterleavedLink$Stream", T_Stream, 10, cf_Stream, by decide, Or.inl (gW_in 275 (by decide +kernel) rfl)⟩
theorem fs_End_170 : fS "InterleavedLink$End" 170 9 1 := ⟨"InterleavedLink$ByteQueue", T_BQ, 2, cf_BQ, by decide, Or.inl (gW_in 244 (by decide +kernel) rfl)⟩
theorem fs_End_173 : fS "InterleavedLink$End" 173 8 3 := ⟨"InterleavedLink$Stream", T_Stream, 10, cf_Stream, by decide, Or.inl (gW_in 259 (by decide +kernel) rfl)⟩
theorem fs_End_15 : fS "InterleavedLink$End" 15 2 4 := ⟨"InterleavedLink$End", T_End, 17, cf_End, by decide, Or.inl (gW_in 307 (by decide +kernel) rfl)⟩
theorem fs_End_143 : fS "InterleavedLink$End" 143 8 6 := ⟨"InterleavedLink$Stream", T_Stream, 10, cf_Stream, by decide, Or.inl (gW_in 269 (by decide +kernel) rfl)⟩
theorem fs_End_71 : fS "InterleavedLink$End" 71 2 16 := ⟨"InterleavedLink$End", T_End, 17, cf_End, by decide, Or.inl (gW_in 325 (by decide +kernel) rfl)⟩
theorem cs_End_159 : cV "InterleavedLink$End" 159 uEnd_canSend 1 := ⟨⟨Or.inl (gW_in 590 (by decide +kernel) rfl), (gW_in 66 (by decide +kernel) rfl), (gW_in 593 (by decide +kernel) rfl), ⟨by decide, by decide⟩, by decide +kernel⟩, (gW_in 592 (by decide +kernel) rfl), (gW_in 7 (by decide +kernel) rfl)⟩
theorem fs_End_82 : fS "InterleavedLink$End" 82 2 2 := ⟨"InterleavedLink$End", T_End, 17, cf_End, by decide, Or.inl (gW_in 303 (by decide +kernel) rfl)⟩
theorem cs_End_149 : cV "InterleavedLink$End" 149 uPipe_isFull 0 := ⟨⟨Or.inl (gW_in 585 (by decide +kernel) rfl), (gW_in 65 (by decide +kernel) rfl), (gW_in 403 (by decide +kernel) rfl), ⟨by decide, by decide⟩, by decide +kernel⟩, (gW_in 401 (by decide +kernel) rfl), (gW_in 402 (by decide +kernel) rfl)⟩
theorem cs_End_152 : cV "InterleavedLink$End" 152 uEnd_nextSender 0 := ⟨⟨Or.inl (gW_in 586 (by decide +kernel) rfl), (gW_in 66 (by decide +kernel) rfl), (gW_in 589 (by decide +kernel) rfl), ⟨by decide, by decide⟩, by decide +kernel⟩, (gW_in 588 (by decide +kernel) rfl), (gW_in 6 (by decide +kernel) rfl)⟩
theorem cs_Link_89 : cV "InterleavedLink" 89 uEnd_sendWaiting 1 := ⟨⟨Or.inl (gW_in 581 (by decide +kernel) rfl), (gW_in 66 (by decide +kernel) rfl), (gW_in 584 (by decide +kernel) rfl), ⟨by decide, by decide⟩, by decide +kernel⟩, (gW_in 582 (by decide +kernel) rfl), (gW_in 583 (by decide +kernel) rfl)⟩
theorem cs_Link_43 : cV "InterleavedLink" 43 uEnd_mayOpen 0 := ⟨⟨Or.inl (gW_in 388 (by decide +kernel) rfl), (gW_in 66 (by decide +kernel) rfl), (gW_in 391 (by decide +kernel) rfl), ⟨by decide, by decide⟩, by decide +kernel⟩, (gW_in 389 (by decide +kernel) rfl), (gW_in 390 (by decide +kernel) rfl)⟩
theorem cs_Link_39 : cV "InterleavedLink" 39 uFList_add 3 := ⟨⟨Or.inl (gW_in 380 (by decide +kernel) rfl), (gW_in 67 (by decide +kernel) rfl), (gW_in 383 (by decide +kernel) rfl), ⟨by decide, by decide⟩, by decide +kernel⟩, (gW_in 381 (by decide +kernel) rfl), (gW_in 382 (by decide +kernel) rfl)⟩
/-! ===== the class: who may open, who may send ===== -/
def cntC (M : mM) (e : Nat) : Nat → Nat
  | 0 => 0
  | k + 1 => if acC M e k = 0 then cntC M e k else cntC M e k + 1
theorem cntC_le (M : mM) (e : Nat) : ∀ k, cntC M e k ≤ k
  | 0 => Nat.le_refl _
  | k + 1 => by have := cntC_le M e k; unfold cntC; split <;> omega
def moC (M : mM) (e : Nat) : Int32 := if 23 < mI M (9 + 80 * e) 15 then 0 else if mI M (10 + 80 * e) 3 ≤ 0 then 0 else if mI M (25 + 80 * e) 1 ≤ nI (cntC M e 12) then 0 else 1
def csC (M : mM) (e k : Nat) : Int32 := if msC M e k = 0 then 0 else if mI M (30 + 80 * e + 5 * k) 1 = 0 then mI M (29 + 80 * e + 5 * k) 6 else if mI M (29 + 80 * e + 5 * k) 3 ≤ 0 then 0 else if mI M (9 + 80 * e) 4 ≤ 0 then 0 else 1
/-- the first place whose turn it is, from step n on, j steps -/
def nxF (c : Nat → Int32) (q : Nat) : Nat → Nat → Option Nat
  | 0, _ => none
  | j + 1, n => if c ((q + n - 1) % 12) = 0 then nxF c q j (n + 1) else some ((q + n - 1) % 12)
def oI (o : Option Nat) : Int32 := match o with
  | none => -1
  | some p => nI p
theorem nI_lst {q n : Nat} (hn : 1 ≤ n) : nI q - 1 + nI n = nI (q + n - 1) := by
  obtain ⟨m, rfl⟩ : ∃ m, n = m + 1 := ⟨n - 1, by omega⟩
  rw [← nI_1, show q + (m + 1) - 1 = q + m by omega, ← nI_add]
  rw [← Int32.add_assoc, Int32.sub_eq_add_neg, Int32.add_assoc (nI q) (-1) (nI m), Int32.add_comm (-1) (nI m), ← Int32.add_assoc, Int32.add_assoc, show (-1 : Int32) + 1 = 0 by decide, Int32.add_zero]
set_option maxRecDepth 100000 in
set_option maxHeartbeats 4000000 in
theorem g_activeCount {X : mX} {l : Launch} {M : mM} {e : Nat} {Q : Option Value → mM → Prop} (hS : Shp M) (he : e < 2) (hq : Q (some (.int (nI (cntC M e 12)))) M) : ∀ (j n : Nat), n + j = 12 → G X l uEnd_activeCount (rk 1 20) 0 0 M 4 [some (.ref (9 + 80 * e)), some (.int (nI (cntC M e n))), some (.int (nI n))] [] Q
  | 0, n, hn => by
    have hn : n = 12 := by omega
    subst hn
    refine g_iload_n 4 dEnd_activeCount_4 rfl ?_
    refine g_bipush 5 (nI 12) dEnd_activeCount_5 rfl ?_
    refine g_icmp_geN 7 31 dEnd_activeCount_7 rfl (by omega) (by omega) (fun h7 => ?_) (fun h7 => ?_)
    · refine g_iload_n 31 dEnd_activeCount_31 rfl ?_
      exact g_iret 32 dEnd_activeCount_32 rfl hq
    · exact absurd (Nat.le_refl 12) h7
  | j + 1, n, hn => by
    have hc := cntC_le M e n
    have hk : n < 12 := by omega
    have ih := g_activeCount (X := X) (l := l) hS he hq j (n + 1) (by omega)
    refine g_iload_n 4 dEnd_activeCount_4 rfl ?_
    refine g_bipush 5 (nI 12) dEnd_activeCount_5 rfl ?_
    refine g_icmp_geN 7 31 dEnd_activeCount_7 rfl (by omega) (by omega) (fun h7 => ?_) (fun h7 => ?_)
    · exact absurd h7 (by omega)
    · refine g_aload_n 10 dEnd_activeCount_10 rfl ?_
      refine g_getr 11 2 9 dEnd_activeCount_11 fs_End_44 rfl (hS.tEnd he) (hS.rEnd9 he) ?_
      refine g_iload_n 14 dEnd_activeCount_14 rfl ?_
      refine g_aaldN 15 5 (o := some _) dEnd_activeCount_15 rfl (by decide) (hS.TStrs he) (by omega) (by decide) (hS.rStrs he hk) ?_
      refine g_callV 16 [] dEnd_activeCount_16 cs_End_92 rfl (ci := 8) rfl (by decide) (hS.tStr he hk) rfl ⟨(Nat.le_of_ble_eq_true rfl), (Nat.le_of_ble_eq_true rfl)⟩ (Nat.le_of_ble_eq_true rfl) (ct_Str_isActive hS he hk) (Nat.le_of_ble_eq_true rfl) (Nat.le_of_ble_eq_true rfl) ?_
      rintro _ M2 ⟨rfl, hM2⟩
      rw [hM2]
      clear hM2 M2
      refine g_if_eq 19 25 dEnd_activeCount_19 rfl (fun h19 => ?_) (fun h19 => ?_)
      · have hc2 : cntC M e (n + 1) = cntC M e n := by simp [cntC, h19]
        refine g_iincN 25 dEnd_activeCount_25 rfl (by decide) rfl ?_
        refine g_goto 28 4 dEnd_activeCount_28 rfl ?_
        rw [hc2] at ih
        exact ih
      · have hc2 : cntC M e (n + 1) = cntC M e n + 1 := by simp [cntC, h19]
        refine g_iincN 22 dEnd_activeCount_22 rfl (by decide) rfl ?_
        refine g_iincN 25 dEnd_activeCount_25 rfl (by decide) rfl ?_
        refine g_goto 28 4 dEnd_activeCount_28 rfl ?_
        rw [hc2] at ih
        exact ih
set_option maxRecDepth 100000 in
set_option maxHeartbeats 4000000 in
theorem ct_activeCount {X : mX} {l : Launch} {M : mM} {e : Nat} (hS : Shp M) (he : e < 2) : Ct X l uEnd_activeCount (rk 1 20) [.ref (9 + 80 * e)] M (fun r M' => r = some (.int (nI (cntC M e 12))) ∧ M' = M) := by
  refine Ct.of (by decide) (Nat.le_of_ble_eq_true rfl) ?_
  show G X l uEnd_activeCount (rk 1 20) 0 0 M 0 [some (.ref (9 + 80 * e)), none, none] [] _
  refine g_iconst 0 (nI 0) dEnd_activeCount_0 rfl ?_
  refine g_istore_n 1 dEnd_activeCount_1 (by decide) rfl ?_
  refine g_iconst 2 (nI 0) dEnd_activeCount_2 rfl ?_
  refine g_istore_n 3 dEnd_activeCount_3 (by decide) rfl ?_
  exact g_activeCount hS he ⟨rfl, rfl⟩ 12 0 rfl

set_option maxRecDepth 100000 in
set_option maxHeartbeats 4000000 in
theorem ct_mayOpen {X : mX} {l : Launch} {M : mM} {e : Nat} (hS : Shp M) (he : e < 2) : Ct X l uEnd_mayOpen (rk 2 42) [.ref (9 + 80 * e)] M (fun r M' => r = some (.int (moC M e)) ∧ M' = M) := by
  refine Ct.of (by decide) (Nat.le_of_ble_eq_true rfl) ?_
  show G X l uEnd_mayOpen (rk 2 42) 0 0 M 0 [some (.ref (9 + 80 * e))] [] _
  refine g_aload_n 0 dEnd_mayOpen_0 rfl ?_
  refine g_geti 1 2 15 dEnd_mayOpen_1 fs_End_68 rfl (hS.tEnd he) ?_
  refine g_bipush 4 23 dEnd_mayOpen_4 rfl ?_
  refine g_icmp_gt 6 37 dEnd_mayOpen_6 rfl (fun h6 => ?_) (fun h6 => ?_)
  · refine g_iconst 37 0 dEnd_mayOpen_37 rfl ?_
    exact g_zret 38 dEnd_mayOpen_38 rfl (by decide) ⟨by first | (simp only [moC, *, if_true, if_false, not_true_eq_false, not_false_eq_true, and_true, true_and, and_false, false_and, and_self, reduceIte]; done) | (simp_all [moC]; done), rfl⟩
  · refine g_aload_n 9 dEnd_mayOpen_9 rfl ?_
    refine g_getr 10 2 6 dEnd_mayOpen_10 fs_End_24 rfl (hS.tEnd he) (hS.rEnd6 he) ?_
    refine g_geti 13 3 3 dEnd_mayOpen_13 fs_End_96 rfl (hS.tFL he) ?_
    refine g_if_le 16 37 dEnd_mayOpen_16 rfl (fun h16 => ?_) (fun h16 => ?_)
    · refine g_iconst 37 0 dEnd_mayOpen_37 rfl ?_
      exact g_zret 38 dEnd_mayOpen_38 rfl (by decide) ⟨by first | (simp only [moC, *, if_true, if_false, not_true_eq_false, not_false_eq_true, and_true, true_and, and_false, false_and, and_self, reduceIte]; done) | (simp_all [moC]; done), rfl⟩
    · refine g_aload_n 19 dEnd_mayOpen_19 rfl ?_
      refine g_callV 20 [] dEnd_mayOpen_20 cs_End_99 rfl (ci := 2) rfl (by decide) (hS.tEnd he) rfl ⟨(Nat.le_of_ble_eq_true rfl), (Nat.le_of_ble_eq_true rfl)⟩ (Nat.le_of_ble_eq_true rfl) (ct_activeCount hS he) (Nat.le_of_ble_eq_true rfl) (Nat.le_of_ble_eq_true rfl) ?_
      rintro _ M2 ⟨rfl, hM2⟩
      rw [hM2]
      clear hM2 M2
      refine g_aload_n 23 dEnd_mayOpen_23 rfl ?_
      refine g_getr 24 2 10 dEnd_mayOpen_24 fs_End_51 rfl (hS.tEnd he) (hS.rEnd10 he) ?_
      refine g_geti 27 7 1 dEnd_mayOpen_27 fs_End_103 rfl (hS.tTold he) ?_
      refine g_icmp_ge 30 37 dEnd_mayOpen_30 rfl (fun h30 => ?_) (fun h30 => ?_)
      · refine g_iconst 37 0 dEnd_mayOpen_37 rfl ?_
        exact g_zret 38 dEnd_mayOpen_38 rfl (by decide) ⟨by first | (simp only [moC, *, if_true, if_false, not_true_eq_false, not_false_eq_true, and_true, true_and, and_false, false_and, and_self, reduceIte]; done) | (simp_all [moC]; done), rfl⟩
      · refine g_iconst 33 1 dEnd_mayOpen_33 rfl ?_
        refine g_goto 34 38 dEnd_mayOpen_34 rfl ?_
        exact g_zret 38 dEnd_mayOpen_38 rfl (by decide) ⟨by first | (simp only [moC, *, if_true, if_false, not_true_eq_false, not_false_eq_true, and_true, true_and, and_false, false_and, and_self, reduceIte]; done) | (simp_all [moC]; done), rfl⟩

set_option maxRecDepth 100000 in
set_option maxHeartbeats 4000000 in
theorem ct_canSend {X : mX} {l : Launch} {M : mM} {e k : Nat} (hS : Shp M) (he : e < 2) (hk : k < 12) (hb : mI M (29 + 80 * e + 5 * k) 6 = 0 ∨ mI M (29 + 80 * e + 5 * k) 6 = 1) : Ct X l uEnd_canSend (rk 1 20) [.ref (9 + 80 * e), .ref (29 + 80 * e + 5 * k)] M (fun r M' => r = some (.int (csC M e k)) ∧ M' = M) := by
  refine Ct.of (by decide) (Nat.le_of_ble_eq_true rfl) ?_
  show G X l uEnd_canSend (rk 1 20) 0 0 M 0 [some (.ref (9 + 80 * e)), some (.ref (29 + 80 * e + 5 * k))] [] _
  refine g_aload_n 0 dEnd_canSend_0 rfl ?_
  refine g_callV 1 [] dEnd_canSend_1 cs_End_163 rfl (ci := 8) rfl (by decide) (hS.tStr he hk) rfl ⟨(Nat.le_of_ble_eq_true rfl), (Nat.le_of_ble_eq_true rfl)⟩ (Nat.le_of_ble_eq_true rfl) (ct_Str_maySend hS he hk) (Nat.le_of_ble_eq_true rfl) (Nat.le_of_ble_eq_true rfl) ?_
  rintro _ M2 ⟨rfl, hM2⟩
  rw [hM2]
  clear hM2 M2
  refine g_if_ne 4 9 dEnd_canSend_4 rfl (fun h4 => ?_) (fun h4 => ?_)
  · refine g_aload_n 9 dEnd_canSend_9 rfl ?_
    refine g_getr 10 8 8 dEnd_canSend_10 fs_End_166 rfl (hS.tStr he hk) (hS.rStr8 he hk) ?_
    refine g_geti 13 9 1 dEnd_canSend_13 fs_End_170 rfl (hS.tWt he hk) ?_
    refine g_if_ne 16 24 dEnd_canSend_16 rfl (fun h16 => ?_) (fun h16 => ?_)
    · refine g_aload_n 24 dEnd_canSend_24 rfl ?_
      refine g_geti 25 8 3 dEnd_canSend_25 fs_End_173 rfl (hS.tStr he hk) ?_
      refine g_if_le 28 42 dEnd_canSend_28 rfl (fun h28 => ?_) (fun h28 => ?_)
      · refine g_iconst 42 0 dEnd_canSend_42 rfl ?_
        exact g_zret 43 dEnd_canSend_43 rfl (by decide) ⟨by first | (simp only [csC, *, if_true, if_false, not_true_eq_false, not_false_eq_true, and_true, true_and, and_false, false_and, and_self, reduceIte]; done) | (simp_all [csC]; done), rfl⟩
      · refine g_aload_n 31 dEnd_canSend_31 rfl ?_
        refine g_geti 32 2 4 dEnd_canSend_32 fs_End_15 rfl (hS.tEnd he) ?_
        refine g_if_le 35 42 dEnd_canSend_35 rfl (fun h35 => ?_) (fun h35 => ?_)
        · refine g_iconst 42 0 dEnd_canSend_42 rfl ?_
          exact g_zret 43 dEnd_canSend_43 rfl (by decide) ⟨by first | (simp only [csC, *, if_true, if_false, not_true_eq_false, not_false_eq_true, and_true, true_and, and_false, false_and, and_self, reduceIte]; done) | (simp_all [csC]; done), rfl⟩
        · refine g_iconst 38 1 dEnd_canSend_38 rfl ?_
          refine g_goto 39 43 dEnd_canSend_39 rfl ?_
          exact g_zret 43 dEnd_canSend_43 rfl (by decide) ⟨by first | (simp only [csC, *, if_true, if_false, not_true_eq_false, not_false_eq_true, and_true, true_and, and_false, false_and, and_self, reduceIte]; done) | (simp_all [csC]; done), rfl⟩
    · refine g_aload_n 19 dEnd_canSend_19 rfl ?_
      refine g_geti 20 8 6 dEnd_canSend_20 fs_End_143 rfl (hS.tStr he hk) ?_
      exact g_zret 23 dEnd_canSend_23 rfl hb ⟨by first | (simp only [csC, *, if_true, if_false, not_true_eq_false, not_false_eq_true, and_true, true_and, and_false, false_and, and_self, reduceIte]; done) | (simp_all [csC]; done), rfl⟩
  · refine g_iconst 7 0 dEnd_canSend_7 rfl ?_
    exact g_zret 8 dEnd_canSend_8 rfl (by decide) ⟨by first | (simp only [csC, *, if_true, if_false, not_true_eq_false, not_false_eq_true, and_true, true_and, and_false, false_and, and_self, reduceIte]; done) | (simp_all [csC]; done), rfl⟩

set_option maxRecDepth 100000 in
set_option maxHeartbeats 4000000 in
theorem g_nextSender {X : mX} {l : Launch} {M : mM} {e q : Nat} {v : Option Value} {Q : Option Value → mM → Prop} (hS : Shp M) (he : e < 2) (hb : ∀ k, k < 12 → mI M (29 + 80 * e + 5 * k) 6 = 0 ∨ mI M (29 + 80 * e + 5 * k) 6 = 1) (hl : mI M (9 + 80 * e) 16 = nI q - 1) (hq12 : q ≤ 12) : ∀ (j n : Nat) (w : Option Value), n + j = 13 → 1 ≤ n → Q (some (.int (oI (nxF (csC M e) q j n)))) M → (w = none ∨ ∃ z : Int32, w = some (.int z)) → G X l uEnd_nextSender (rk 2 41) 0 0 M 2 [some (.ref (9 + 80 * e)), some (.int (nI n)), w] [] Q
  | 0, n, w, hn, h1, hq, hw => by
    have hn : n = 13 := by omega
    subst hn
    refine g_iload_n 2 dEnd_nextSender_2 rfl ?_
    refine g_bipush 3 (nI 12) dEnd_nextSender_3 rfl ?_
    refine g_icmp_gtN 5 39 dEnd_nextSender_5 rfl (by omega) (by omega) (fun h5 => ?_) (fun h5 => ?_)
    · refine g_iconst 39 (-1) dEnd_nextSender_39 rfl ?_
      exact g_iret 40 dEnd_nextSender_40 rfl hq
    · exact absurd (by decide : 12 < 13) h5
  | j + 1, n, w, hn, h1, hq, hw => by
    have hk : (q + n - 1) % 12 < 12 := Nat.mod_lt _ (by decide)
    have ih := g_nextSender (X := X) (l := l) (v := v) (Q := Q) hS he hb hl hq12 j (n + 1)
    refine g_iload_n 2 dEnd_nextSender_2 rfl ?_
    refine g_bipush 3 (nI 12) dEnd_nextSender_3 rfl ?_
    refine g_icmp_gtN 5 39 dEnd_nextSender_5 rfl (by omega) (by omega) (fun h5 => ?_) (fun h5 => ?_)
    · exact absurd h5 (by omega)
    · refine g_aload_n 8 dEnd_nextSender_8 rfl ?_
      refine g_geti 9 2 16 dEnd_nextSender_9 fs_End_71 rfl (hS.tEnd he) ?_
      refine g_iload_n 12 dEnd_nextSender_12 rfl ?_
      refine g_iadd 13 dEnd_nextSender_13 ?_
      refine g_top (nI (q + n - 1)) (by rw [hl]; exact nI_lst h1) ?_
      refine g_bipush 14 (nI 12) dEnd_nextSender_14 rfl ?_
      refine g_iremN 16 dEnd_nextSender_16 (by omega) (by decide) (by decide) ?_
      refine g_istore_n 17 dEnd_nextSender_17 (by decide) rfl ?_
      refine g_aload_n 18 dEnd_nextSender_18 rfl ?_
      refine g_aload_n 19 dEnd_nextSender_19 rfl ?_
      refine g_getr 20 2 9 dEnd_nextSender_20 fs_End_44 rfl (hS.tEnd he) (hS.rEnd9 he) ?_
      refine g_iload_n 23 dEnd_nextSender_23 rfl ?_
      refine g_aaldN 24 5 (o := some _) dEnd_nextSender_24 rfl (by decide) (hS.TStrs he) (by omega) (by decide) (hS.rStrs he hk) ?_
      refine g_callV 25 [_] dEnd_nextSender_25 cs_End_159 rfl (ci := 2) rfl (by decide) (hS.tEnd he) rfl ⟨(Nat.le_of_ble_eq_true rfl), (Nat.le_of_ble_eq_true rfl)⟩ (Nat.le_of_ble_eq_true rfl) (ct_canSend hS he hk (hb _ hk)) (Nat.le_of_ble_eq_true rfl) (Nat.le_of_ble_eq_true rfl) ?_
      rintro _ M2 ⟨rfl, hM2⟩
      rw [hM2]
      clear hM2 M2
      refine g_if_eq 28 33 dEnd_nextSender_28 rfl (fun h28 => ?_) (fun h28 => ?_)
      · have hx : nxF (csC M e) q (j + 1) n = nxF (csC M e) q j (n + 1) := by simp [nxF, h28]
        refine g_iincN 33 dEnd_nextSender_33 rfl (by decide) rfl ?_
        refine g_goto 36 2 dEnd_nextSender_36 rfl ?_
        rw [hx] at hq
        exact ih _ (by omega) (by omega) hq (Or.inr ⟨_, rfl⟩)
      · have hx : nxF (csC M e) q (j + 1) n = some ((q + n - 1) % 12) := by simp [nxF, h28]
        refine g_iload_n 31 dEnd_nextSender_31 rfl ?_
        exact g_iret 32 dEnd_nextSender_32 rfl (by rw [hx] at hq; exact hq)
set_option maxRecDepth 100000 in
set_option maxHeartbeats 4000000 in
theorem ct_nextSender {X : mX} {l : Launch} {M : mM} {e q : Nat} (hS : Shp M) (he : e < 2) (hb : ∀ k, k < 12 → mI M (29 + 80 * e + 5 * k) 6 = 0 ∨ mI M (29 + 80 * e + 5 * k) 6 = 1) (hl : mI M (9 + 80 * e) 16 = nI q - 1) (hq12 : q ≤ 12) : Ct X l uEnd_nextSender (rk 2 41) [.ref (9 + 80 * e)] M (fun r M' => r = some (.int (oI (nxF (csC M e) q 12 1))) ∧ M' = M) := by
  refine Ct.of (by decide) (Nat.le_of_ble_eq_true rfl) ?_
  show G X l uEnd_nextSender (rk 2 41) 0 0 M 0 [some (.ref (9 + 80 * e)), none, none] [] _
  refine g_iconst 0 (nI 1) dEnd_nextSender_0 rfl ?_
  refine g_istore_n 1 dEnd_nextSender_1 (by decide) rfl ?_
  exact g_nextSender (v := none) hS he hb hl hq12 12 1 none rfl (Nat.le_refl _) ⟨rfl, rfl⟩ (Or.inl rfl)

set_option maxRecDepth 100000 in
set_option maxHeartbeats 4000000 in
theorem ct_sendWaiting_0 {X : mX} {l : Launch} {M : mM} {e q : Nat} {n : Int32} (hS : Shp M) (he : e < 2) (hb : ∀ k, k < 12 → mI M (29 + 80 * e + 5 * k) 6 = 0 ∨ mI M (29 + 80 * e + 5 * k) 6 = 1) (hl : mI M (9 + 80 * e) 16 = nI q - 1) (hq12 : q ≤ 12) (hn : ¬ n ≤ 0) (hx : nxF (csC M e) q 12 1 = none) : Ct X l uEnd_sendWaiting (rk 4 109) [.ref (9 + 80 * e), .int n] M (fun r M' => r = some (.int 0) ∧ M' = M) := by
  refine Ct.of (by decide) (Nat.le_of_ble_eq_true rfl) ?_
  show G X l uEnd_sendWaiting (rk 4 109) 0 0 M 0 [some (.ref (9 + 80 * e)), some (.int n), none, none] [] _
  refine g_iconst 0 0 dEnd_sendWaiting_0 rfl ?_
  refine g_istore_n 1 dEnd_sendWaiting_1 (by decide) rfl ?_
  refine g_iload_n 2 dEnd_sendWaiting_2 rfl ?_
  refine g_iload_n 3 dEnd_sendWaiting_3 rfl ?_
  refine g_icmp_ge 4 49 dEnd_sendWaiting_4 rfl (fun h4 => ?_) (fun h4 => ?_)
  · exact absurd h4 hn
  · refine g_aload_n 7 dEnd_sendWaiting_7 rfl ?_
    refine g_getr 8 2 2 dEnd_sendWaiting_8 fs_End_82 rfl (hS.tEnd he) (hS.rEnd2 he) ?_
    refine g_callV 11 [] dEnd_sendWaiting_11 cs_End_149 rfl (ci := 1) rfl (by decide) (hS.tPipeO he) rfl ⟨(Nat.le_of_ble_eq_true rfl), (Nat.le_of_ble_eq_true rfl)⟩ (Nat.le_of_ble_eq_true rfl) (ct_Pipe_isFull (hS.tPipeO he)) (Nat.le_of_ble_eq_true rfl) (Nat.le_of_ble_eq_true rfl) ?_
    rintro _ M2 ⟨rfl, hM2⟩
    rw [hM2]
    clear hM2 M2
    refine g_if_ne 14 49 dEnd_sendWaiting_14 rfl (fun h14 => ?_) (fun h14 => ?_)
    · refine g_iload_n 49 dEnd_sendWaiting_49 rfl ?_
      exact g_iret 50 dEnd_sendWaiting_50 rfl ⟨rfl, rfl⟩
    · refine g_aload_n 17 dEnd_sendWaiting_17 rfl ?_
      refine g_callV 18 [] dEnd_sendWaiting_18 cs_End_152 rfl (ci := 2) rfl (by decide) (hS.tEnd he) rfl ⟨(Nat.le_of_ble_eq_true rfl), (Nat.le_of_ble_eq_true rfl)⟩ (Nat.le_of_ble_eq_true rfl) (ct_nextSender hS he hb hl hq12) (Nat.le_of_ble_eq_true rfl) (Nat.le_of_ble_eq_true rfl) ?_
      rintro _ M2 ⟨rfl, hM2⟩
      rw [hM2, hx]
      clear hM2 M2
      refine g_istore_n 21 dEnd_sendWaiting_21 (by decide) rfl ?_
      refine g_iload_n 22 dEnd_sendWaiting_22 rfl ?_
      refine g_if_ge 23 28 dEnd_sendWaiting_23 rfl (fun h23 => ?_) (fun h23 => ?_)
      · exact absurd h23 (by decide)
      · refine g_iload_n 26 dEnd_sendWaiting_26 rfl ?_
        exact g_iret 27 dEnd_sendWaiting_27 rfl ⟨rfl, rfl⟩

set_option maxRecDepth 100000 in
set_option maxHeartbeats 4000000 in
theorem ct_Link_pump_0 {X : mX} {l : Launch} {M : mM} {e q : Nat} {n : Int32} (hS : Shp M) (he : e < 2) (hu : Kdown M e = 0) (hb : ∀ k, k < 12 → mI M (29 + 80 * e + 5 * k) 6 = 0 ∨ mI M (29 + 80 * e + 5 * k) 6 = 1) (hl : mI M (9 + 80 * e) 16 = nI q - 1) (hq12 : q ≤ 12) (hn : ¬ n ≤ 0) (hx : nxF (csC M e) q 12 1 = none) (hw : ¬ wi n 1 8 = 0) : Ct X l uLink_pump (rk 5 132) [.ref 3, .int (nI e), .int n] M (fun r M' => r = some (.int 0) ∧ M' = M) := by
  refine Ct.of (by decide) (Nat.le_of_ble_eq_true rfl) ?_
  show G X l uLink_pump (rk 5 132) 0 0 M 0 [some (.ref 3), some (.int (nI e)), some (.int n), none] [] _
  refine g_aload_n 0 dLink_pump_0 rfl ?_
  refine g_iload_n 1 dLink_pump_1 rfl ?_
  refine g_callV 2 [_] dLink_pump_2 cs_Link_21 rfl (ci := 0) rfl (by decide) hS.link rfl ⟨(Nat.le_of_ble_eq_true rfl), (Nat.le_of_ble_eq_true rfl)⟩ (Nat.le_of_ble_eq_true rfl) (ct_upEndOf hS he hu) (Nat.le_of_ble_eq_true rfl) (Nat.le_of_ble_eq_true rfl) ?_
  rintro _ M2 ⟨rfl, hM2⟩
  rw [hM2]
  clear hM2 M2
  refine g_astore_n 5 dLink_pump_5 (by decide) rfl ?_
  refine g_aload_n 6 dLink_pump_6 rfl ?_
  refine g_ifnull 7 dLink_pump_7 ?_
  refine g_iload_n 10 dLink_pump_10 rfl ?_
  refine g_iconst 11 1 dLink_pump_11 rfl ?_
  refine g_bipush 12 8 dLink_pump_12 rfl ?_
  refine g_callS 14 [_, _, _] dLink_pump_14 cs_Link_25 rfl rfl ⟨(Nat.le_of_ble_eq_true rfl), (Nat.le_of_ble_eq_true rfl)⟩ (Nat.le_of_ble_eq_true rfl) (ct_isWithin) (Nat.le_of_ble_eq_true rfl) (Nat.le_of_ble_eq_true rfl) ?_
  rintro _ M2 ⟨rfl, hM2⟩
  rw [hM2]
  clear hM2 M2
  refine g_if_ne 17 22 dLink_pump_17 rfl (fun h17 => ?_) (fun h17 => ?_)
  · refine g_aload_n 22 dLink_pump_22 rfl ?_
    refine g_iload_n 23 dLink_pump_23 rfl ?_
    refine g_callV 24 [_] dLink_pump_24 cs_Link_89 rfl (ci := 2) rfl (by decide) (hS.tEnd he) rfl ⟨(Nat.le_of_ble_eq_true rfl), (Nat.le_of_ble_eq_true rfl)⟩ (Nat.le_of_ble_eq_true rfl) (ct_sendWaiting_0 hS he hb hl hq12 hn hx) (Nat.le_of_ble_eq_true rfl) (Nat.le_of_ble_eq_true rfl) ?_
    rintro _ M2 ⟨rfl, hM2⟩
    rw [hM2]
    clear hM2 M2
    exact g_iret 27 dLink_pump_27 rfl ⟨rfl, rfl⟩
  · exact absurd h17 hw

set_option maxRecDepth 100000 in
set_option maxHeartbeats 4000000 in
theorem ct_Link_request_0 {X : mX} {l : Launch} {M : mM} (hS : Shp M) (hu : Kdown M 0 = 0) {z : Int32} (hm : moC M 0 = 0) : Ct X l uLink_request (rk 7 157) [.ref 3, .int z] M (fun r M' => r = some (.int (-1)) ∧ M' = M) := by
  refine Ct.of (by decide) (Nat.le_of_ble_eq_true rfl) ?_
  show G X l uLink_request (rk 7 157) 0 0 M 0 [some (.ref 3), some (.int z), none] [] _
  refine g_aload_n 0 dLink_request_0 rfl ?_
  refine g_iconst 1 (nI 0) dLink_request_1 rfl ?_
  refine g_callV 2 [_] dLink_request_2 cs_Link_21 rfl (ci := 0) rfl (by decide) hS.link rfl ⟨(Nat.le_of_ble_eq_true rfl), (Nat.le_of_ble_eq_true rfl)⟩ (Nat.le_of_ble_eq_true rfl) (ct_upEndOf hS (e := 0) (by decide) hu) (Nat.le_of_ble_eq_true rfl) (Nat.le_of_ble_eq_true rfl) ?_
  rintro _ M2 ⟨rfl, hM2⟩
  rw [hM2]
  clear hM2 M2
  refine g_astore_n 5 dLink_request_5 (by decide) rfl ?_
  refine g_aload_n 6 dLink_request_6 rfl ?_
  refine g_ifnull 7 dLink_request_7 ?_
  refine g_aload_n 10 dLink_request_10 rfl ?_
  refine g_callV 11 [] dLink_request_11 cs_Link_43 rfl (ci := 2) rfl (by decide) (hS.tEnd (e := 0) (by decide)) rfl ⟨(Nat.le_of_ble_eq_true rfl), (Nat.le_of_ble_eq_true rfl)⟩ (Nat.le_of_ble_eq_true rfl) (ct_mayOpen hS (e := 0) (by decide)) (Nat.le_of_ble_eq_true rfl) (Nat.le_of_ble_eq_true rfl) ?_
  rintro _ M2 ⟨rfl, hM2⟩
  rw [hM2]
  clear hM2 M2
  refine g_if_ne 14 19 dLink_request_14 rfl (fun h14 => ?_) (fun h14 => ?_)
  · exact absurd hm h14
  · refine g_iconst 17 (-1) dLink_request_17 rfl ?_
    exact g_iret 18 dLink_request_18 rfl ⟨rfl, rfl⟩

set_option maxRecDepth 100000 in
set_option maxHeartbeats 4000000 in
theorem ct_Link_respond_st {X : mX} {l : Launch} {M : mM} {k : Nat} (hS : Shp M) (hu : Kdown M 1 = 0) (hk : k < 12) {z : Int32} (hm : msC M 1 k = 0) : Ct X l uLink_respond (rk 6 135) [.ref 3, .int (nI (2 * k + 1)), .int z] M (fun r M' => r = some (.int (-1)) ∧ M' = M) := by
  refine Ct.of (by decide) (Nat.le_of_ble_eq_true rfl) ?_
  show G X l uLink_respond (rk 6 135) 0 0 M 0 [some (.ref 3), some (.int (nI (2 * k + 1))), some (.int z), none, none, none] [] _
  refine g_aload_n 0 dLink_respond_0 rfl ?_
  refine g_iconst 1 (nI 1) dLink_respond_1 rfl ?_
  refine g_callV 2 [_] dLink_respond_2 cs_Link_21 rfl (ci := 0) rfl (by decide) hS.link rfl ⟨(Nat.le_of_ble_eq_true rfl), (Nat.le_of_ble_eq_true rfl)⟩ (Nat.le_of_ble_eq_true rfl) (ct_upEndOf hS (e := 1) (by decide) hu) (Nat.le_of_ble_eq_true rfl) (Nat.le_of_ble_eq_true rfl) ?_
  rintro _ M2 ⟨rfl, hM2⟩
  rw [hM2]
  clear hM2 M2
  refine g_astore_n 5 dLink_respond_5 (by decide) rfl ?_
  refine g_aload_n 6 dLink_respond_6 rfl ?_
  refine g_iload_n 7 dLink_respond_7 rfl ?_
  refine g_callS 8 [_, _] dLink_respond_8 cs_Link_58 rfl rfl ⟨(Nat.le_of_ble_eq_true rfl), (Nat.le_of_ble_eq_true rfl)⟩ (Nat.le_of_ble_eq_true rfl) (ct_streamOf hS (e := 1) (by decide) hk) (Nat.le_of_ble_eq_true rfl) (Nat.le_of_ble_eq_true rfl) ?_
  rintro _ M2 ⟨rfl, hM2⟩
  rw [hM2]
  clear hM2 M2
  refine g_astore 11 dLink_respond_11 (by decide) rfl ?_
  refine g_aload_n 13 dLink_respond_13 rfl ?_
  refine g_ifnull 14 dLink_respond_14 ?_
  refine g_aload 17 dLink_respond_17 rfl ?_
  refine g_ifnull 19 dLink_respond_19 ?_
  refine g_aload 22 dLink_respond_22 rfl ?_
  refine g_callV 24 [] dLink_respond_24 cs_Link_62 rfl (ci := 8) rfl (by decide) (hS.tStr (e := 1) (by decide) hk) rfl ⟨(Nat.le_of_ble_eq_true rfl), (Nat.le_of_ble_eq_true rfl)⟩ (Nat.le_of_ble_eq_true rfl) (ct_Str_maySend hS (e := 1) (by decide) hk) (Nat.le_of_ble_eq_true rfl) (Nat.le_of_ble_eq_true rfl) ?_
  rintro _ M2 ⟨rfl, hM2⟩
  rw [hM2]
  clear hM2 M2
  refine g_if_eq 27 48 dLink_respond_27 rfl (fun h27 => ?_) (fun h27 => ?_)
  · refine g_iconst 48 (-1) dLink_respond_48 rfl ?_
    exact g_iret 49 dLink_respond_49 rfl ⟨rfl, rfl⟩
  · exact absurd hm h27

set_option maxRecDepth 100000 in
set_option maxHeartbeats 4000000 in
theorem ct_Link_header {X : mX} {l : Launch} {M : mM} {e : Nat} (hS : Shp M) (he : e < 2) (hu : Kdown M e = 0) {a b z : Int32} {c : Nat} (ha : ¬ wi a 0 15 = 0) (hc : mI M (10 + 80 * e) 3 = nI c) (hc6 : c < 6) (hz : z = 0 ∨ z = 1) : Ct X l uLink_header (rk 2 43) [.ref 3, .int (nI e), .int a, .int b, .int z] M (fun r M' => r = some (.int (nI (c + 1))) ∧ M' = setI (setI (setI (setI M (11 + 80 * e) c a) (12 + 80 * e) c b) (13 + 80 * e) c z) (10 + 80 * e) 3 (nI (c + 1))) := by
  refine Ct.of (by decide) (Nat.le_of_ble_eq_true rfl) ?_
  show G X l uLink_header (rk 2 43) 0 0 M 0 [some (.ref 3), some (.int (nI e)), some (.int a), some (.int b), some (.int z), none] [] _
  refine g_aload_n 0 dLink_header_0 rfl ?_
  refine g_iload_n 1 dLink_header_1 rfl ?_
  refine g_callV 2 [_] dLink_header_2 cs_Link_21 rfl (ci := 0) rfl (by decide) hS.link rfl ⟨(Nat.le_of_ble_eq_true rfl), (Nat.le_of_ble_eq_true rfl)⟩ (Nat.le_of_ble_eq_true rfl) (ct_upEndOf hS he hu) (Nat.le_of_ble_eq_true rfl) (Nat.le_of_ble_eq_true rfl) ?_
  rintro _ M2 ⟨rfl, hM2⟩
  rw [hM2]
  clear hM2 M2
  refine g_astore 5 dLink_header_5 (by decide) rfl ?_
  refine g_aload 7 dLink_header_7 rfl ?_
  refine g_ifnull 9 dLink_header_9 ?_
  refine g_iload_n 12 dLink_header_12 rfl ?_
  refine g_iconst 13 0 dLink_header_13 rfl ?_
  refine g_bipush 14 15 dLink_header_14 rfl ?_
  refine g_callS 16 [_, _, _] dLink_header_16 cs_Link_25 rfl rfl ⟨(Nat.le_of_ble_eq_true rfl), (Nat.le_of_ble_eq_true rfl)⟩ (Nat.le_of_ble_eq_true rfl) (ct_isWithin) (Nat.le_of_ble_eq_true rfl) (Nat.le_of_ble_eq_true rfl) ?_
  rintro _ M2 ⟨rfl, hM2⟩
  rw [hM2]
  clear hM2 M2
  refine g_if_eq 19 35 dLink_header_19 rfl (fun h19 => ?_) (fun h19 => ?_)
  · exact absurd h19 ha
  · refine g_aload 22 dLink_header_22 rfl ?_
    refine g_getr 24 2 6 dLink_header_24 fs_Link_29 rfl (hS.tEnd he) (hS.rEnd6 he) ?_
    refine g_geti 27 3 3 dLink_header_27 fs_Link_33 rfl (hS.tFL he) ?_
    refine g_bipush 30 6 dLink_header_30 rfl ?_
    refine g_icmp_lt 32 37 dLink_header_32 rfl (fun h32 => ?_) (fun h32 => ?_)
    · refine g_aload 37 dLink_header_37 rfl ?_
      refine g_getr 39 2 6 dLink_header_39 fs_Link_29 rfl (hS.tEnd he) (hS.rEnd6 he) ?_
      refine g_iload_n 42 dLink_header_42 rfl ?_
      refine g_iload_n 43 dLink_header_43 rfl ?_
      refine g_iload 44 dLink_header_44 rfl ?_
      refine g_callV 46 [_, _, _] dLink_header_46 cs_Link_39 rfl (ci := 3) rfl (by decide) (hS.tFL he) rfl ⟨(Nat.le_of_ble_eq_true rfl), (Nat.le_of_ble_eq_true rfl)⟩ (Nat.le_of_ble_eq_true rfl) (ct_FL_add (hS.tFL he) (hS.rFL0 he) (hS.rFL1 he) (hS.rFL2 he) (hS.TFLn he) (hS.TFLv he) (hS.TFLs he) hc hc6 hz) (Nat.le_of_ble_eq_true rfl) (Nat.le_of_ble_eq_true rfl) ?_
      rintro _ _ ⟨rfl, rfl⟩
      refine g_aload 49 dLink_header_49 rfl ?_
      refine g_getr 51 2 6 dLink_header_51 fs_Link_29 rfl (hS.tEnd he) (hS.rEnd6 he) ?_
      refine g_geti 54 3 3 dLink_header_54 fs_Link_33 rfl (hS.tFL he) ?_
      refine g_top (nI (c + 1)) (by rw [mI_setI, up2_same]) ?_
      exact g_iret 57 dLink_header_57 rfl ⟨rfl, rfl⟩
    · exact absurd (by rw [hc]; exact nI_lt hc6 (by decide)) h32

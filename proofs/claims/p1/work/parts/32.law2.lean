theorem ns_Law_7 : nS "InterleavedLinkLaw" 7 0 1 := ⟨"InterleavedLink", T_Link, cf_Link, (gW_in 80 (by decide +kernel) rfl), (gW_in 81 (by decide +kernel) rfl), (gW_in 64 (by decide +kernel) rfl)⟩
theorem ns_Law_10 : nS "InterleavedLinkLaw" 10 10 56 := ⟨"InterleavedLinkModel", T_Mod, cf_Mod, (gW_in 855 (by decide +kernel) rfl), (gW_in 856 (by decide +kernel) rfl), (gW_in 74 (by decide +kernel) rfl)⟩
theorem cs_Law_9 : cI "InterleavedLinkLaw" 9 uLink_init 0 := ⟨⟨Or.inl (gW_in 82 (by decide +kernel) rfl), (gW_in 64 (by decide +kernel) rfl), (gW_in 84 (by decide +kernel) rfl), ⟨by decide, by decide⟩, by decide +kernel⟩, (gW_in 83 (by decide +kernel) rfl), rfl, rfl⟩
theorem cs_Law_12 : cI "InterleavedLinkLaw" 12 uMod_init 0 := ⟨⟨Or.inl (gW_in 857 (by decide +kernel) rfl), (gW_in 74 (by decide +kernel) rfl), (gW_in 859 (by decide +kernel) rfl), ⟨by decide, by decide⟩, by decide +kernel⟩, (gW_in 858 (by decide +kernel) rfl), rfl, rfl⟩
/-- every pair of calls that the law can make at M -/
def AllPr (X : mX) (l : Launch) (M : mM) (J : mM → Prop) : Prop := (∀ a1 a2 a3 a4 : Int32, Prx X l uLink_header uMod_header [.int a1, .int a2, .int a3, .int (bz a4)] M J) ∧ (∀ a1 : Int32, Prx X l uLink_request uMod_request [.int (bz a1)] M J) ∧ (∀ a1 a2 : Int32, Prx X l uLink_respond uMod_respond [.int a1, .int (bz a2)] M J) ∧ (∀ a1 a2 a3 a4 a5 a6 : Int32, Prx X l uLink_write uMod_write [.int a1, .int a2, .long (lng a3 a4), .int a5, .int (bz a6)] M J) ∧ (∀ a1 a2 : Int32, Prx X l uLink_pump uMod_pump [.int a1, .int a2] M J) ∧ (∀ a1 a2 a3 : Int32, Prl X l uLink_read uMod_read [.int a1, .int a2, .int a3] M J) ∧ (∀ a1 a2 a3 : Int32, Prx X l uLink_reset uMod_reset [.int a1, .int a2, .int a3] M J) ∧ (∀ a1 a2 a3 : Int32, Prx X l uLink_setting uMod_setting [.int a1, .int a2, .int a3] M J) ∧ (∀ a1 : Int32, Prx X l uLink_deliver uMod_deliver [.int a1] M J) ∧ (∀ a1 a2 a3 a4 a5 : Int32, Prx X l uLink_inject uMod_inject [.int a1, .int a2, .int a3, .int a4, .int (bz a5)] M J) ∧ (∀ a1 a2 a3 : Int32, Prx X l uLink_frame uMod_frame [.int a1, .int a2, .int a3] M J) ∧ (∀ a1 a2 : Int32, Prx X l uLink_state uMod_state [.int a1, .int a2] M J) ∧ (∀ a1 a2 a3 : Int32, Prx X l uLink_window uMod_window [.int a1, .int a2, .int (bz a3)] M J) ∧ (∀ a1 a2 a3 : Int32, Prx X l uLink_bytes uMod_bytes [.int a1, .int a2, .int (bz a3)] M J) ∧ (∀ a1 a2 a3 a4 : Int32, Prx X l uLink_field uMod_field [.int a1, .int a2, .int a3, .int (bz a4)] M J) ∧ (∀ a1 a2 a3 : Int32, Prx X l uLink_table uMod_table [.int a1, .int (bz a2), .int a3] M J) ∧ (∀ a1 : Int32, Prx X l uLink_down uMod_down [.int a1] M J)
theorem cmp7 {L i : Nat} (hL : L < 2 ^ 30) (hi : i < 2 ^ 30) : nI L - nI 7 < nI i ↔ L < i + 7 := by
  rw [Int32.lt_iff_toInt_lt, pk_sub_toInt hL (by decide), nI_toInt (by omega)]
  omega
theorem nI7 (n : Nat) : nI (7 * n) + 7 = nI (7 * (n + 1)) := by
  show nI (7 * n) + nI 7 = _
  rw [nI_add]
  rfl
set_option maxRecDepth 100000 in
set_option maxHeartbeats 4000000 in
theorem law_loop {X : mX} {l : Launch} {J : Nat → mM → Prop} (hJS : ∀ n M, J n M → Shp M) (hDef : ∀ n M, 7 * n + 7 ≤ xL X 0 → J n M → J (n + 1) M) (hP : ∀ n M, 7 * n + 7 ≤ xL X 0 → J n M → AllPr X l M (J (n + 1))) (hL : xL X 0 ≤ 3584) : ∀ (q n : Nat) (M : mM), n + q = 512 → J n M → G X l uLaw room_1 (40 * q) (400 * q) M 18 [some (.ref 0), some (.ref 3), some (.ref 169), some (.int (nI (7 * n)))] [] (fun r _ => r = some (.int 1)) := by
  intro q
  induction q with
  | zero =>
    intro n M hn hJ
    refine g_iload_n 18 dLaw_law_18 rfl ?_
    refine g_aload_n 19 dLaw_law_19 rfl ?_
    refine g_olen 20 (by decide) dLaw_law_20 ?_
    refine g_bipush 21 (nI 7) dLaw_law_21 rfl ?_
    refine g_isub 23 dLaw_law_23 ?_
    refine g_icmp_gt 24 1000 dLaw_law_24 rfl (fun h => ?_) (fun h => ?_)
    · refine g_iconst 1000 1 dLaw_law_1000 rfl ?_
      exact g_zret 1001 dLaw_law_1001 rfl (by decide) rfl
    · exact absurd ((cmp7 (by omega) (by omega)).mpr (by omega)) h
  | succ q IH =>
    intro n M hn hJ
    have ih : ∀ M2, J (n + 1) M2 → G X l uLaw room_1 (40 * q) (400 * q) M2 994 [some (.ref 0), some (.ref 3), some (.ref 169), some (.int (nI (7 * n)))] [] (fun r _ => r = some (.int 1)) := by
      intro M2 hJ2
      refine g_iinc 994 7 dLaw_law_994 rfl rfl (by decide) rfl ?_
      refine g_goto 997 18 dLaw_law_997 rfl ?_
      have := IH (n + 1) M2 (by omega) hJ2
      rw [nI7]
      exact this
    refine g_iload_n 18 dLaw_law_18 rfl ?_
    refine g_aload_n 19 dLaw_law_19 rfl ?_
    refine g_olen 20 (by decide) dLaw_law_20 ?_
    refine g_bipush 21 (nI 7) dLaw_law_21 rfl ?_
    refine g_isub 23 dLaw_law_23 ?_
    refine g_icmp_gt 24 1000 dLaw_law_24 rfl (fun h => ?_) (fun h => ?_)
    · refine g_iconst 1000 1 dLaw_law_1000 rfl ?_
      exact g_zret 1001 dLaw_law_1001 rfl (by decide) rfl
    have hle : 7 * n + 7 ≤ xL X 0 := Nat.le_of_not_lt fun z => h ((cmp7 (by omega) (by omega)).mpr z)
    have hA := hP n M hle hJ
    refine g_aload_n 27 dLaw_law_27 rfl ?_
    refine g_iload_n 28 dLaw_law_28 rfl ?_
    refine g_oaldN 29 (by decide) dLaw_law_29 (by omega) (by omega) ?_
    refine g_bipush 30 31 dLaw_law_30 rfl ?_
    refine g_iand 32 dLaw_law_32 ?_
    obtain ⟨j, hj, ej⟩ := pk_andE (xI X 0 (7 * n)) (m := 31) 5 rfl
    rw [ej]
    by_cases h16 : 16 < j
    · refine g_tableOut 33 994 dLaw_law_33 (Or.inr (by rw [nI_toInt (by omega)]; omega)) rfl ?_
      exact G.bud (40 * q) (400 * q) (by omega) (by omega) (ih M (hDef n M hle hJ))
    rcases (by omega : j = 0 ∨ j = 1 ∨ j = 2 ∨ j = 3 ∨ j = 4 ∨ j = 5 ∨ j = 6 ∨ j = 7 ∨ j = 8 ∨ j = 9 ∨ j = 10 ∨ j = 11 ∨ j = 12 ∨ j = 13 ∨ j = 14 ∨ j = 15 ∨ j = 16) with rfl | rfl | rfl | rfl | rfl | rfl | rfl | rfl | rfl | rfl | rfl | rfl | rfl | rfl | rfl | rfl | rfl
    · refine g_tableIn 33 116 dLaw_law_33 (by decide) (by decide) rfl rfl ?_
      exact g_law_0 (bc0 := 40 * q) (bs0 := 400 * q) hL (by omega) (by omega) (by omega) (hJS n M hJ) (hA.1 _ _ _ _) ih
    · refine g_tableIn 33 185 dLaw_law_33 (by decide) (by decide) rfl rfl ?_
      exact g_law_1 (bc0 := 40 * q) (bs0 := 400 * q) hL (by omega) (by omega) (by omega) (hJS n M hJ) (hA.2.1 _) ih
    · refine g_tableIn 33 224 dLaw_law_33 (by decide) (by decide) rfl rfl ?_
      exact g_law_2 (bc0 := 40 * q) (bs0 := 400 * q) hL (by omega) (by omega) (by omega) (hJS n M hJ) (hA.2.2.1 _ _) ih
    · refine g_tableIn 33 273 dLaw_law_33 (by decide) (by decide) rfl rfl ?_
      exact g_law_3 (bc0 := 40 * q) (bs0 := 400 * q) hL (by omega) (by omega) (by omega) (hJS n M hJ) (hA.2.2.2.1 _ _ _ _ _ _) ih
    · refine g_tableIn 33 384 dLaw_law_33 (by decide) (by decide) rfl rfl ?_
      exact g_law_4 (bc0 := 40 * q) (bs0 := 400 * q) hL (by omega) (by omega) (by omega) (hJS n M hJ) (hA.2.2.2.2.1 _ _) ih
    · refine g_tableIn 33 417 dLaw_law_33 (by decide) (by decide) rfl rfl ?_
      exact g_law_5 (bc0 := 40 * q) (bs0 := 400 * q) hL (by omega) (by omega) (by omega) (hJS n M hJ) (hA.2.2.2.2.2.1 _ _ _) ih
    · refine g_tableIn 33 461 dLaw_law_33 (by decide) (by decide) rfl rfl ?_
      exact g_law_6 (bc0 := 40 * q) (bs0 := 400 * q) hL (by omega) (by omega) (by omega) (hJS n M hJ) (hA.2.2.2.2.2.2.1 _ _ _) ih
    · refine g_tableIn 33 504 dLaw_law_33 (by decide) (by decide) rfl rfl ?_
      exact g_law_7 (bc0 := 40 * q) (bs0 := 400 * q) hL (by omega) (by omega) (by omega) (hJS n M hJ) (hA.2.2.2.2.2.2.2.1 _ _ _) ih
    · refine g_tableIn 33 547 dLaw_law_33 (by decide) (by decide) rfl rfl ?_
      exact g_law_8 (bc0 := 40 * q) (bs0 := 400 * q) hL (by omega) (by omega) (by omega) (hJS n M hJ) (hA.2.2.2.2.2.2.2.2.1 _) ih
    · refine g_tableIn 33 570 dLaw_law_33 (by decide) (by decide) rfl rfl ?_
      exact g_law_9 (bc0 := 40 * q) (bs0 := 400 * q) hL (by omega) (by omega) (by omega) (hJS n M hJ) (hA.2.2.2.2.2.2.2.2.2.1 _ _ _ _ _) ih
    · refine g_tableIn 33 649 dLaw_law_33 (by decide) (by decide) rfl rfl ?_
      exact g_law_10 (bc0 := 40 * q) (bs0 := 400 * q) hL (by omega) (by omega) (by omega) (hJS n M hJ) (hA.2.2.2.2.2.2.2.2.2.2.1 _ _ _) ih
    · refine g_tableIn 33 692 dLaw_law_33 (by decide) (by decide) rfl rfl ?_
      exact g_law_11 (bc0 := 40 * q) (bs0 := 400 * q) hL (by omega) (by omega) (by omega) (hJS n M hJ) (hA.2.2.2.2.2.2.2.2.2.2.2.1 _ _) ih
    · refine g_tableIn 33 725 dLaw_law_33 (by decide) (by decide) rfl rfl ?_
      exact g_law_12 (bc0 := 40 * q) (bs0 := 400 * q) hL (by omega) (by omega) (by omega) (hJS n M hJ) (hA.2.2.2.2.2.2.2.2.2.2.2.2.1 _ _ _) ih
    · refine g_tableIn 33 784 dLaw_law_33 (by decide) (by decide) rfl rfl ?_
      exact g_law_13 (bc0 := 40 * q) (bs0 := 400 * q) hL (by omega) (by omega) (by omega) (hJS n M hJ) (hA.2.2.2.2.2.2.2.2.2.2.2.2.2.1 _ _ _) ih
    · refine g_tableIn 33 843 dLaw_law_33 (by decide) (by decide) rfl rfl ?_
      exact g_law_14 (bc0 := 40 * q) (bs0 := 400 * q) hL (by omega) (by omega) (by omega) (hJS n M hJ) (hA.2.2.2.2.2.2.2.2.2.2.2.2.2.2.1 _ _ _ _) ih
    · refine g_tableIn 33 912 dLaw_law_33 (by decide) (by decide) rfl rfl ?_
      exact g_law_15 (bc0 := 40 * q) (bs0 := 400 * q) hL (by omega) (by omega) (by omega) (hJS n M hJ) (hA.2.2.2.2.2.2.2.2.2.2.2.2.2.2.2.1 _ _ _) ih
    · refine g_tableIn 33 971 dLaw_law_33 (by decide) (by decide) rfl rfl ?_
      exact g_law_16 (bc0 := 40 * q) (bs0 := 400 * q) hL (by omega) (by omega) (by omega) (hJS n M hJ) (hA.2.2.2.2.2.2.2.2.2.2.2.2.2.2.2.2 _) ih
set_option maxRecDepth 100000 in
theorem e169 : mN (mkLink (newM m00 0 1) 3) = 169 := by decide +kernel
set_option maxRecDepth 100000 in
set_option maxHeartbeats 4000000 in
theorem law_g {X : mX} {l : Launch} {J : Nat → mM → Prop} (hJS : ∀ n M, J n M → Shp M) (hDef : ∀ n M, 7 * n + 7 ≤ xL X 0 → J n M → J (n + 1) M) (hP : ∀ n M, 7 * n + 7 ≤ xL X 0 → J n M → AllPr X l M (J (n + 1))) (hL : xL X 0 ≤ 3584) (h0 : J 0 mi) : G X l uLaw room_1 600000 7302250 m00 0 [some (.ref 0), none, none, none] [] (fun r _ => r = some (.int 1)) := by
  refine g_new 0 0 1 dLaw_law_0 ns_Law_7 (Nat.le_of_ble_eq_true rfl) (Nat.le_of_ble_eq_true rfl) ?_
  refine g_dup 3 dLaw_law_3 rfl ?_
  refine g_callI 4 [] dLaw_law_4 cs_Law_9 rfl rfl ⟨(Nat.le_of_ble_eq_true rfl), (Nat.le_of_ble_eq_true rfl)⟩ (Nat.le_of_ble_eq_true rfl) (ct_Link_init nT) (Nat.le_of_ble_eq_true rfl) (Nat.le_of_ble_eq_true rfl) ?_
  rintro _ _ ⟨rfl, rfl⟩
  refine g_astore_n 7 dLaw_law_7 (by decide) rfl ?_
  refine g_new 8 10 56 dLaw_law_8 ns_Law_10 (Nat.le_of_ble_eq_true rfl) (Nat.le_of_ble_eq_true rfl) ?_
  refine g_dup 11 dLaw_law_11 rfl ?_
  refine g_callI 12 [] dLaw_law_12 cs_Law_12 rfl rfl ⟨(Nat.le_of_ble_eq_true rfl), (Nat.le_of_ble_eq_true rfl)⟩ (Nat.le_of_ble_eq_true rfl) (ct_Mod_init nT) (Nat.le_of_ble_eq_true rfl) (Nat.le_of_ble_eq_true rfl) ?_
  rintro _ _ ⟨rfl, rfl⟩
  refine g_astore_n 15 dLaw_law_15 (by decide) rfl ?_
  refine g_iconst 16 (nI (7 * 0)) dLaw_law_16 rfl ?_
  refine g_istore_n 17 dLaw_law_17 (by decide) rfl ?_
  refine G.bud (40 * 512) (400 * 512) (Nat.le_of_ble_eq_true rfl) (Nat.le_of_ble_eq_true rfl) ?_
  show G X l uLaw room_1 (40 * 512) (400 * 512) (mkMod (newM (mkLink (newM m00 0 1) 3) 10 56) (mN (mkLink (newM m00 0 1) 3))) 18 [some (.ref 0), some (.ref 3), some (.ref (mN (mkLink (newM m00 0 1) 3))), some (.int (nI (7 * 0)))] [] (fun r _ => r = some (.int 1))
  rw [e169]
  exact law_loop hJS hDef hP hL 512 0 mi rfl h0
/-! THE CLAIM OUT OF ONE WALK OF THE LAW'S BODY. Your part is whole_start (and what it stands on); all else here is the same for every law, but numbers. -/
def R_law : String := "InterleavedLinkLaw"
def lw_P (b : Addr) (xs : List Int32) (args : Array Value) (s : State) : Prop := args = #[.ref b] ∧ s.IntsAt b xs ∧ xs.length ≤ 7 ∧ (Jvm.Cond.and given_1 narrow_1).before args s = true
def lw_Q (_ : Array Value) (s : State) (o : Outcome) (t : State) : Prop := o = .returned (some (.int 1)) ∧ Framed s o t [] 600000 7302250
def lw_Z (below : List Frame) (a : Array Value) (s : State) : State → Prop := fun t => ∃ o, t.status = .running ∧ Ended t below o ∧ lw_Q a s o t
/-- the law's own end, with 1 on the stack, nothing written that was there before, its room as the claim has it -/
theorem lw_ret {p : Program} {l : Launch} {e : Env} {s : State} {m : MethodId} {below : List Frame} {meth : Method} {c : Code} {b : Nat} (hx : p.tables.exec = Jvm.exec) (hb : c.code = code) (hr : meth.sig.returnType = ret) (hlocks : meth.locks = false) {pc : Nat} {H : Heap} {ls : Array Slot} (hdg : decode code pc = .ok (.ireturn, 1)) : W p l e room_1 s m #[Value.ref b] below meth c H [] 600000 7302250 (lw_Z below #[Value.ref b] s) (F0 m pc ls [.int 1]) := by
  intro T hT X
  obtain ⟨fs, hret, hrun, hended, hW, hframe⟩ := X.leave (v := some (.int 1)) (hlocks := hlocks) (fun h => by rw [hr] at h; cases h)
  have hmeth' : T.vm.method? m = some meth := X.method'
  refine ⟨T.setFrames fs, ?_, .returned (some (.int 1)), hrun, hended, rfl, ⟨_, rfl⟩, hW, hframe⟩
  jvm_step X.here [X.here.top, hx, hb, hdg, hmeth', hr, ret, narrow_b1]
  (try refine ⟨rfl, ?_⟩); (try refine ⟨rfl, ?_⟩)
  first | (intro acts; rw [hret _ acts rfl rfl rfl]) | rw [hret _ _ rfl rfl rfl]
  exact Steps.refl _
/-- what holds at the law's entry: the machine, the code, the tables' words (any of lw_tbl by 'hts w (by decide +kernel)'), the script of L ints xs at the cell b, what the Statement gives of the start (any of its parts by flat_of_before) -/
def lw_At (p : Program) (s : State) (m : MethodId) (meth : Method) (c : Code) (b L : Nat) (xs : Nat → Int32) : Prop :=
  p.tables.exec = Jvm.exec ∧ c.code = code ∧ meth.sig.returnType = ret ∧ c.maxLocals = 4 ∧ s.vm.findClass R_law = some m.cls ∧ (∀ w ∈ lw_tbl, w.before #[Value.ref b] s = true) ∧ va_X b L xs s s.heap ∧ b < s.heap.size ∧ meth.locks = false ∧ (Jvm.Cond.and given_1 narrow_1).before #[Value.ref b] s = true ∧ (Jvm.Cond.code x code maxLocals ret).before #[Value.ref b] s = true ∧ meth.name = "law"
set_option maxRecDepth 100000 in
set_option maxHeartbeats 4000000 in
/-- the law comes to its end with true, if every pair of calls answers alike -/
theorem whole_start_open {p : Program} {e : Env} {s : State} {m : MethodId} {below : List Frame} {meth : Method} {c : Code} (l : Launch) {b L : Nat} {xs : Nat → Int32} (hL : L ≤ 7) {J : Nat → mM → Prop} (hJS : ∀ n M, J n M → Shp M) (hDef : ∀ n M, 7 * n + 7 ≤ L → J n M → J (n + 1) M) (hP : ∀ X : mX, xL X 1 = 6 → xI X 1 = fixN → xL X 2 = 6 → xI X 2 = fixV → ∀ n M, 7 * n + 7 ≤ L → J n M → AllPr X l M (J (n + 1))) (h0 : J 0 mi) (C0 : lw_At p s m meth c b L xs) : W p l e room_1 s m #[Value.ref b] below meth c s.heap [] 0 0 (lw_Z below #[Value.ref b] s) (entryFrame m ([Value.ref b] : List Value).toArray 4) := by
  obtain ⟨hx, hb, hr, hml, hown, hts, hX, hbl, hlk, hgv, hcw, hnm⟩ := C0
  obtain ⟨X, F, hM, hB, hO, hXL, hXI, x1, x2, x3, x4⟩ := st_env hx hb hr hml hown hts hcw hX hbl hlk hnm hgv
  have g := law_g (X := X) (l := l) hJS (fun n M hn => hDef n M (by rw [← hXL]; exact hn)) (fun n M hn => hP X x1 x2 x3 x4 n M (by rw [← hXL]; exact hn)) (by rw [hXL]; omega) h0
  rw [lg_entry_eq]
  have hl := LR.entry X [.ref 0] 4 (Nat.le_of_ble_eq_true rfl)
  have hb0 : rel X (.ref 0) = .ref b := by show Value.ref (adr X 0) = _; rw [adr_old X (by decide), hO]
  have hmap : ([Value.ref 0] : List Value).map (rel X) = [.ref b] := by show [rel X (.ref 0)] = _; rw [hb0]
  rw [hmap] at hl
  have w := g p e s m #[Value.ref b] below meth c s.heap [] 0 0 _ F hM va_S.rf (Nat.le_refl _) (Nat.le_refl _) hl
  intro T hT S
  obtain ⟨t, st, o, h1, h2, ⟨⟨⟨r, M', ho, hq, -, -⟩, -⟩, L', hE, hL'⟩⟩ := w T hT S
  subst hq
  refine ⟨t, st, o, h1, h2, ho, ?_⟩
  exact ⟨hE.1, hE.2.1, hE.2.2.weaken (fun y hy hlt => absurd hlt (Nat.not_lt.mpr (by rw [← hB]; exact hL' y hy))) (Nat.le_refl _) (Nat.le_refl _)⟩

theorem dPipe_init_0 : decode uPipe_init.2.1 0 = .ok (.aload_n 0, 1) := by decide +kernel
theorem dPipe_init_1 : decode uPipe_init.2.1 1 = .ok (.invokespecial 3, 3) := by decide +kernel
theorem dPipe_init_4 : decode uPipe_init.2.1 4 = .ok (.aload_n 0, 1) := by decide +kernel
theorem dPipe_init_5 : decode uPipe_init.2.1 5 = .ok (.bipush 48, 2) := by decide +kernel
theorem dPipe_init_7 : decode uPipe_init.2.1 7 = .ok (.anewarray 9, 3) := by decide +kernel
theorem dPipe_init_10 : decode uPipe_init.2.1 10 = .ok (.putfield 11, 3) := by decide +kernel
theorem dPipe_init_13 : decode uPipe_init.2.1 13 = .ok (.aload_n 0, 1) := by decide +kernel
theorem dPipe_init_14 : decode uPipe_init.2.1 14 = .ok (.iconst 0, 1) := by decide +kernel
theorem dPipe_init_15 : decode uPipe_init.2.1 15 = .ok (.putfield 17, 3) := by decide +kernel
theorem dPipe_init_18 : decode uPipe_init.2.1 18 = .ok (.aload_n 0, 1) := by decide +kernel
theorem dPipe_init_19 : decode uPipe_init.2.1 19 = .ok (.iconst 0, 1) := by decide +kernel
theorem dPipe_init_20 : decode uPipe_init.2.1 20 = .ok (.putfield 21, 3) := by decide +kernel
theorem dPipe_init_23 : decode uPipe_init.2.1 23 = .ok (.return_, 1) := by decide +kernel
theorem dFList_init_0 : decode uFList_init.2.1 0 = .ok (.aload_n 0, 1) := by decide +kernel
theorem dFList_init_1 : decode uFList_init.2.1 1 = .ok (.invokespecial 3, 3) := by decide +kernel
theorem dFList_init_4 : decode uFList_init.2.1 4 = .ok (.aload_n 0, 1) := by decide +kernel
theorem dFList_init_5 : decode uFList_init.2.1 5 = .ok (.bipush 6, 2) := by decide +kernel
theorem dFList_init_7 : decode uFList_init.2.1 7 = .ok (.newarray .int, 2) := by decide +kernel
theorem dFList_init_9 : decode uFList_init.2.1 9 = .ok (.putfield 9, 3) := by decide +kernel
theorem dFList_init_12 : decode uFList_init.2.1 12 = .ok (.aload_n 0, 1) := by decide +kernel
theorem dFList_init_13 : decode uFList_init.2.1 13 = .ok (.bipush 6, 2) := by decide +kernel
theorem dFList_init_15 : decode uFList_init.2.1 15 = .ok (.newarray .int, 2) := by decide +kernel
theorem dFList_init_17 : decode uFList_init.2.1 17 = .ok (.putfield 15, 3) := by decide +kernel
theorem dFList_init_20 : decode uFList_init.2.1 20 = .ok (.aload_n 0, 1) := by decide +kernel
theorem dFList_init_21 : decode uFList_init.2.1 21 = .ok (.bipush 6, 2) := by decide +kernel
theorem dFList_init_23 : decode uFList_init.2.1 23 = .ok (.newarray .boolean, 2) := by decide +kernel
theorem dFList_init_25 : decode uFList_init.2.1 25 = .ok (.putfield 18, 3) := by decide +kernel
theorem dFList_init_28 : decode uFList_init.2.1 28 = .ok (.aload_n 0, 1) := by decide +kernel
theorem dFList_init_29 : decode uFList_init.2.1 29 = .ok (.iconst 0, 1) := by decide +kernel
theorem dFList_init_30 : decode uFList_init.2.1 30 = .ok (.putfield 22, 3) := by decide +kernel
theorem dFList_init_33 : decode uFList_init.2.1 33 = .ok (.return_, 1) := by decide +kernel
theorem dTable_init_0 : decode uTable_init.2.1 0 = .ok (.aload_n 0, 1) := by decide +kernel
theorem dTable_init_1 : decode uTable_init.2.1 1 = .ok (.invokespecial 3, 3) := by decide +kernel
theorem dTable_init_4 : decode uTable_init.2.1 4 = .ok (.aload_n 0, 1) := by decide +kernel
theorem dTable_init_5 : decode uTable_init.2.1 5 = .ok (.iconst 5, 1) := by decide +kernel
theorem dTable_init_6 : decode uTable_init.2.1 6 = .ok (.newarray .int, 2) := by decide +kernel
theorem dTable_init_8 : decode uTable_init.2.1 8 = .ok (.putfield 9, 3) := by decide +kernel
theorem dTable_init_11 : decode uTable_init.2.1 11 = .ok (.aload_n 0, 1) := by decide +kernel
theorem dTable_init_12 : decode uTable_init.2.1 12 = .ok (.iconst 5, 1) := by decide +kernel
theorem dTable_init_13 : decode uTable_init.2.1 13 = .ok (.newarray .int, 2) := by decide +kernel
theorem dTable_init_15 : decode uTable_init.2.1 15 = .ok (.putfield 15, 3) := by decide +kernel
theorem dTable_init_18 : decode uTable_init.2.1 18 = .ok (.aload_n 0, 1) := by decide +kernel
theorem dTable_init_19 : decode uTable_init.2.1 19 = .ok (.iconst 5, 1) := by decide +kernel
theorem dTable_init_20 : decode uTable_init.2.1 20 = .ok (.newarray .int, 2) := by decide +kernel
theorem dTable_init_22 : decode uTable_init.2.1 22 = .ok (.putfield 18, 3) := by decide +kernel
theorem dTable_init_25 : decode uTable_init.2.1 25 = .ok (.aload_n 0, 1) := by decide +kernel
theorem dTable_init_26 : decode uTable_init.2.1 26 = .ok (.iconst 0, 1) := by decide +kernel
theorem dTable_init_27 : decode uTable_init.2.1 27 = .ok (.putfield 21, 3) := by decide +kernel
theorem dTable_init_30 : decode uTable_init.2.1 30 = .ok (.aload_n 0, 1) := by decide +kernel
theorem dTable_init_31 : decode uTable_init.2.1 31 = .ok (.iconst 0, 1) := by decide +kernel
theorem dTable_init_32 : decode uTable_init.2.1 32 = .ok (.putfield 25, 3) := by decide +kernel
theorem dTable_init_35 : decode uTable_init.2.1 35 = .ok (.aload_n 0, 1) := by decide +kernel
theorem dTable_init_36 : decode uTable_init.2.1 36 = .ok (.bipush 100, 2) := by decide +kernel
theorem dTable_init_38 : decode uTable_init.2.1 38 = .ok (.putfield 30, 3) := by decide +kernel
theorem dTable_init_41 : decode uTable_init.2.1 41 = .ok (.return_, 1) := by decide +kernel
theorem dSett_init_0 : decode uSett_init.2.1 0 = .ok (.aload_n 0, 1) := by decide +kernel
theorem dSett_init_1 : decode uSett_init.2.1 1 = .ok (.invokespecial 3, 3) := by decide +kernel
theorem dSett_init_4 : decode uSett_init.2.1 4 = .ok (.aload_n 0, 1) := by decide +kernel
theorem dSett_init_5 : decode uSett_init.2.1 5 = .ok (.bipush 100, 2) := by decide +kernel
theorem dSett_init_7 : decode uSett_init.2.1 7 = .ok (.putfield 11, 3) := by decide +kernel
theorem dSett_init_10 : decode uSett_init.2.1 10 = .ok (.aload_n 0, 1) := by decide +kernel
theorem dSett_init_11 : decode uSett_init.2.1 11 = .ok (.bipush 12, 2) := by decide +kernel
theorem dSett_init_13 : decode uSett_init.2.1 13 = .ok (.putfield 15, 3) := by decide +kernel
theorem dSett_init_16 : decode uSett_init.2.1 16 = .ok (.aload_n 0, 1) := by decide +kernel
theorem dSett_init_17 : decode uSett_init.2.1 17 = .ok (.bipush 16, 2) := by decide +kernel
theorem dSett_init_19 : decode uSett_init.2.1 19 = .ok (.putfield 18, 3) := by decide +kernel
theorem dSett_init_22 : decode uSett_init.2.1 22 = .ok (.return_, 1) := by decide +kernel
theorem dBQ_init_0 : decode uBQ_init.2.1 0 = .ok (.aload_n 0, 1) := by decide +kernel
theorem dBQ_init_1 : decode uBQ_init.2.1 1 = .ok (.invokespecial 1, 3) := by decide +kernel
theorem dBQ_init_4 : decode uBQ_init.2.1 4 = .ok (.aload_n 0, 1) := by decide +kernel
theorem dBQ_init_5 : decode uBQ_init.2.1 5 = .ok (.iconst 0, 1) := by decide +kernel
theorem dBQ_init_6 : decode uBQ_init.2.1 6 = .ok (.putfield 7, 3) := by decide +kernel
theorem dBQ_init_9 : decode uBQ_init.2.1 9 = .ok (.aload_n 0, 1) := by decide +kernel
theorem dBQ_init_10 : decode uBQ_init.2.1 10 = .ok (.iload_n 1, 1) := by decide +kernel
theorem dBQ_init_11 : decode uBQ_init.2.1 11 = .ok (.newarray .byte, 2) := by decide +kernel
theorem dBQ_init_13 : decode uBQ_init.2.1 13 = .ok (.putfield 13, 3) := by decide +kernel
theorem dBQ_init_16 : decode uBQ_init.2.1 16 = .ok (.return_, 1) := by decide +kernel
theorem oi_Pipe_3 : Cond.methodLink "InterleavedLink$Pipe" 3 Lib.objectInit ∈ gW := gW_in 93 (by decide +kernel) rfl
theorem oi_m : Cond.instanceMethod Lib.objectInit ∈ gW := gW_in 86 (by decide +kernel) rfl
theorem oi_c : Cond.code Lib.objectInit ⟨#[0xb1]⟩ 1 none ∈ gW := gW_in 87 (by decide +kernel) rfl
theorem al_Pipe_9 : Cond.classLink "InterleavedLink$Pipe" 9 (aoC 4) ∈ gW := gW_in 94 (by decide +kernel) rfl
theorem ps_Pipe_11 : pS "InterleavedLink$Pipe" "<init>" 11 1 0 (.array (.object "InterleavedLink$Frame")) := ⟨"InterleavedLink$Pipe", T_Pipe, 3, cf_Pipe, by decide, by decide +kernel, Or.inr ⟨rfl, rfl, rfl, (gW_in 96 (by decide +kernel) rfl)⟩⟩
theorem ps_Pipe_17 {nm : String} : pS "InterleavedLink$Pipe" nm 17 1 1 .int := ⟨"InterleavedLink$Pipe", T_Pipe, 3, cf_Pipe, by decide, by decide +kernel, Or.inl ⟨rfl, Or.inl (gW_in 97 (by decide +kernel) rfl)⟩⟩
theorem oi_FList_3 : Cond.methodLink "InterleavedLink$FieldList" 3 Lib.objectInit ∈ gW := gW_in 119 (by decide +kernel) rfl
theorem aw_int : Cond.arrayClass .int ∈ gW := gW_in 141 (by decide +kernel) rfl
theorem cfw_FList : ∀ k, k < 4 → u_lay "InterleavedLink$FieldList" T_FList k ∈ gW
  | 0, _ => gW_in 132 (by decide +kernel) rfl
  | 1, _ => gW_in 134 (by decide +kernel) rfl
  | 2, _ => gW_in 136 (by decide +kernel) rfl
  | 3, _ => gW_in 138 (by decide +kernel) rfl
  | (_ + 4), h => absurd h (by omega)
theorem cf_FList : cF 3 "InterleavedLink$FieldList" T_FList 4 := ⟨by decide, rfl, fun w hw => by
  obtain ⟨k, hk, rfl⟩ := List.mem_map.mp hw
  exact cfw_FList k (List.mem_range.mp hk), by decide +kernel, ty_FList, by decide +kernel⟩
theorem ps_FList_9 : pS "InterleavedLink$FieldList" "<init>" 9 3 0 (.array .int) := ⟨"InterleavedLink$FieldList", T_FList, 4, cf_FList, by decide, by decide +kernel, Or.inr ⟨rfl, rfl, rfl, (gW_in 120 (by decide +kernel) rfl)⟩⟩
theorem ps_FList_15 : pS "InterleavedLink$FieldList" "<init>" 15 3 1 (.array .int) := ⟨"InterleavedLink$FieldList", T_FList, 4, cf_FList, by decide, by decide +kernel, Or.inr ⟨rfl, rfl, rfl, (gW_in 123 (by decide +kernel) rfl)⟩⟩
theorem aw_boolean : Cond.arrayClass .boolean ∈ gW := gW_in 142 (by decide +kernel) rfl
theorem ps_FList_18 : pS "InterleavedLink$FieldList" "<init>" 18 3 2 (.array .boolean) := ⟨"InterleavedLink$FieldList", T_FList, 4, cf_FList, by decide, by decide +kernel, Or.inr ⟨rfl, rfl, rfl, (gW_in 126 (by decide +kernel) rfl)⟩⟩
theorem ps_FList_22 {nm : String} : pS "InterleavedLink$FieldList" nm 22 3 3 .int := ⟨"InterleavedLink$FieldList", T_FList, 4, cf_FList, by decide, by decide +kernel, Or.inl ⟨rfl, Or.inl (gW_in 128 (by decide +kernel) rfl)⟩⟩
theorem oi_Table_3 : Cond.methodLink "InterleavedLink$Table" 3 Lib.objectInit ∈ gW := gW_in 154 (by decide +kernel) rfl
theorem cfw_Table : ∀ k, k < 6 → u_lay "InterleavedLink$Table" T_Table k ∈ gW
  | 0, _ => gW_in 166 (by decide +kernel) rfl
  | 1, _ => gW_in 168 (by decide +kernel) rfl
  | 2, _ => gW_in 170 (by decide +kernel) rfl
  | 3, _ => gW_in 172 (by decide +kernel) rfl
  | 4, _ => gW_in 174 (by decide +kernel) rfl
  | 5, _ => gW_in 176 (by decide +kernel) rfl
  | (_ + 6), h => absurd h (by omega)
theorem cf_Table : cF 5 "InterleavedLink$Table" T_Table 6 := ⟨by decide, rfl, fun w hw => by
  obtain ⟨k, hk, rfl⟩ := List.mem_map.mp hw
  exact cfw_Table k (List.mem_range.mp hk), by decide +kernel, ty_Table, by decide +kernel⟩
theorem ps_Table_9 : pS "InterleavedLink$Table" "<init>" 9 5 0 (.array .int) := ⟨"InterleavedLink$Table", T_Table, 6, cf_Table, by decide, by decide +kernel, Or.inr ⟨rfl, rfl, rfl, (gW_in 155 (by decide +kernel) rfl)⟩⟩
theorem ps_Table_15 : pS "InterleavedLink$Table" "<init>" 15 5 1 (.array .int) := ⟨"InterleavedLink$Table", T_Table, 6, cf_Table, by decide, by decide +kernel, Or.inr ⟨rfl, rfl, rfl, (gW_in 156 (by decide +kernel) rfl)⟩⟩
theorem ps_Table_18 : pS "InterleavedLink$Table" "<init>" 18 5 2 (.array .int) := ⟨"InterleavedLink$Table", T_Table, 6, cf_Table, by decide, by decide +kernel, Or.inr ⟨rfl, rfl, rfl, (gW_in 158 (by decide +kernel) rfl)⟩⟩
theorem ps_Table_21 {nm : String} : pS "InterleavedLink$Table" nm 21 5 3 .int := ⟨"InterleavedLink$Table", T_Table, 6, cf_Table, by decide, by decide +kernel, Or.inl ⟨rfl, Or.inl (gW_in 159 (by decide +kernel) rfl)⟩⟩
theorem ps_Table_25 {nm : String} : pS "InterleavedLink$Table" nm 25 5 4 .int := ⟨"InterleavedLink$Table", T_Table, 6, cf_Table, by decide, by decide +kernel, Or.inl ⟨rfl, Or.inl (gW_in 161 (by decide +kernel) rfl)⟩⟩
theorem ps_Table_30 {nm : String} : pS "InterleavedLink$Table" nm 30 5 5 .int := ⟨"InterleavedLink$Table", T_Table, 6, cf_Table, by decide, by decide +kernel, Or.inl ⟨rfl, Or.inl (gW_in 163 (by decide +kernel) rfl)⟩⟩
theorem oi_Sett_3 : Cond.methodLink "InterleavedLink$Settings" 3 Lib.objectInit ∈ gW := gW_in 216 (by decide +kernel) rfl
theorem cfw_Sett : ∀ k, k < 3 → u_lay "InterleavedLink$Settings" T_Sett k ∈ gW
  | 0, _ => gW_in 223 (by decide +kernel) rfl
  | 1, _ => gW_in 225 (by decide +kernel) rfl
  | 2, _ => gW_in 227 (by decide +kernel) rfl
  | (_ + 3), h => absurd h (by omega)
theorem cf_Sett : cF 7 "InterleavedLink$Settings" T_Sett 3 := ⟨by decide, rfl, fun w hw => by
  obtain ⟨k, hk, rfl⟩ := List.mem_map.mp hw
  exact cfw_Sett k (List.mem_range.mp hk), by decide +kernel, ty_Sett, by decide +kernel⟩
theorem ps_Sett_11 {nm : String} : pS "InterleavedLink$Settings" nm 11 7 0 .int := ⟨"InterleavedLink$Settings", T_Sett, 3, cf_Sett, by decide, by decide +kernel, Or.inl ⟨rfl, Or.inl (gW_in 217 (by decide +kernel) rfl)⟩⟩
theorem ps_Sett_15 {nm : String} : pS "InterleavedLink$Settings" nm 15 7 1 .int := ⟨"InterleavedLink$Settings", T_Sett, 3, cf_Sett, by decide, by decide +kernel, Or.inl ⟨rfl, Or.inl (gW_in 219 (by decide +kernel) rfl)⟩⟩
theorem ps_Sett_18 {nm : String} : pS "InterleavedLink$Settings" nm 18 7 2 .int := ⟨"InterleavedLink$Settings", T_Sett, 3, cf_Sett, by decide, by decide +kernel, Or.inl ⟨rfl, Or.inl (gW_in 221 (by decide +kernel) rfl)⟩⟩
theorem oi_BQ_1 : Cond.methodLink "InterleavedLink$ByteQueue" 1 Lib.objectInit ∈ gW := gW_in 240 (by decide +kernel) rfl
theorem cfw_BQ : ∀ k, k < 2 → u_lay "InterleavedLink$ByteQueue" T_BQ k ∈ gW
  | 0, _ => gW_in 245 (by decide +kernel) rfl
  | 1, _ => gW_in 247 (by decide +kernel) rfl
  | (_ + 2), h => absurd h (by omega)
theorem cf_BQ : cF 9 "InterleavedLink$ByteQueue" T_BQ 2 := ⟨by decide, rfl, fun w hw => by
  obtain ⟨k, hk, rfl⟩ := List.mem_map.mp hw
  exact cfw_BQ k (List.mem_range.mp hk), by decide +kernel, ty_BQ, by decide +kernel⟩
theorem ps_BQ_7 {nm : String} : pS "InterleavedLink$ByteQueue" nm 7 9 1 .int := ⟨"InterleavedLink$ByteQueue", T_BQ, 2, cf_BQ, by decide, by decide +kernel, Or.inl ⟨rfl, Or.inl (gW_in 242 (by decide +kernel) rfl)⟩⟩
theorem aw_byte : Cond.arrayClass .byte ∈ gW := gW_in 250 (by decide +kernel) rfl
theorem ps_BQ_13 : pS "InterleavedLink$ByteQueue" "<init>" 13 9 0 (.array .byte) := ⟨"InterleavedLink$ByteQueue", T_BQ, 2, cf_BQ, by decide, by decide +kernel, Or.inr ⟨rfl, rfl, rfl, (gW_in 241 (by decide +kernel) rfl)⟩⟩
/-! ===== constructors: what each leaves, as a function of the memory ===== -/
def mkPipe (M : mM) (t : Nat) : mM := setI (setI (setR (newM M 104 48) t 0 (some (mN M))) t 1 0) t 2 0
def mkFL (M : mM) (t : Nat) : mM := setI (setR (newM (setR (newM (setR (newM M 100 6) t 0 (some (mN M))) 100 6) t 1 (some (mN M + 1))) 102 6) t 2 (some (mN M + 2))) t 3 0
def mkTab (M : mM) (t : Nat) : mM := setI (setI (setI (setR (newM (setR (newM (setR (newM M 100 5) t 0 (some (mN M))) 100 5) t 1 (some (mN M + 1))) 100 5) t 2 (some (mN M + 2))) t 3 0) t 4 0) t 5 100
def mkEnc (M : mM) (t : Nat) : mM := setI (setI (setI (setR (mkTab (newM M 5 6) (mN M)) t 0 (some (mN M))) t 1 0) t 2 0) t 3 0
def mkDec (M : mM) (t : Nat) : mM := setI (setR (mkTab (newM M 5 6) (mN M)) t 0 (some (mN M))) t 1 0
def mkSett (M : mM) (t : Nat) : mM := setI (setI (setI M t 0 100) t 1 12) t 2 16
def mkBQ (M : mM) (t n : Nat) : mM := setR (newM (setI M t 1 0) 101 n) t 0 (some (mN M))
def mkStr (M : mM) (t : Nat) (x : Int32) : mM := setI (setR (mkBQ (newM (setR (mkBQ (newM (setR (setI (setI (setI (setI (setI (setI M t 1 0) t 2 0) t 3 0) t 4 0) t 5 0) t 6 0) t 7 none) 9 2) (mN M) 32) t 8 (some (mN M))) 9 2) (mN M + 2) 40) t 9 (some (mN M + 2))) t 0 x
set_option maxRecDepth 100000 in
set_option maxHeartbeats 4000000 in
theorem ct_Pipe_init {X : mX} {l : Launch} {M : mM} {t : Nat} (hp : (mT M t).1 = 1) : Ct X l uPipe_init (rn 1 12 1 48) [.ref t] M (fun r M' => r = none ∧ M' = mkPipe M t) := by
  refine Ct.of (by decide) (Nat.le_of_ble_eq_true rfl) ?_
  show G X l uPipe_init (rn 1 12 1 48) 1 48 M 0 [some (.ref t)] [] _
  refine G.wf fun hw => ?_
  have hlt := (hw.lt (a := t) (by rw [hp]; decide)).2
  refine g_aload_n 0 dPipe_init_0 rfl ?_
  refine g_objInit 1 dPipe_init_1 oi_Pipe_3 oi_m oi_c ⟨(Nat.le_of_ble_eq_true rfl), (Nat.le_of_ble_eq_true rfl)⟩ ?_
  refine g_aload_n 4 dPipe_init_4 rfl ?_
  refine g_bipush 5 48 dPipe_init_5 rfl ?_
  refine g_anew 7 4 48 dPipe_init_7 al_Pipe_9 rfl (by decide) (by decide) (by decide) (by decide) (Nat.le_of_ble_eq_true rfl) (Nat.le_of_ble_eq_true rfl) ?_
  refine g_putr 10 1 0 dPipe_init_10 ps_Pipe_11 rfl rfl (oT (Nat.lt_add_right 0 hlt) hp) ?_
  refine g_aload_n 13 dPipe_init_13 rfl ?_
  refine g_iconst 14 0 dPipe_init_14 rfl ?_
  refine g_puti 15 1 1 dPipe_init_15 ps_Pipe_17 rfl (oT (Nat.lt_add_right 0 hlt) hp) ?_
  refine g_aload_n 18 dPipe_init_18 rfl ?_
  refine g_iconst 19 0 dPipe_init_19 rfl ?_
  refine g_puti 20 1 2 dPipe_init_20 ps_Pipe_21 rfl (oT (Nat.lt_add_right 0 hlt) hp) ?_
  exact g_vret 23 dPipe_init_23 rfl ⟨rfl, rfl⟩

set_option maxRecDepth 100000 in
set_option maxHeartbeats 4000000 in
theorem ct_FL_init {X : mX} {l : Launch} {M : mM} {t : Nat} (hp : (mT M t).1 = 3) : Ct X l uFList_init (rn 1 12 3 18) [.ref t] M (fun r M' => r = none ∧ M' = mkFL M t) := by
  refine Ct.of (by decide) (Nat.le_of_ble_eq_true rfl) ?_
  show G X l uFList_init (rn 1 12 3 18) 3 18 M 0 [some (.ref t)] [] _
  refine G.wf fun hw => ?_
  have hlt := (hw.lt (a := t) (by rw [hp]; decide)).2
  refine g_aload_n 0 dFList_init_0 rfl ?_
  refine g_objInit 1 dFList_init_1 oi_FList_3 oi_m oi_c ⟨(Nat.le_of_ble_eq_true rfl), (Nat.le_of_ble_eq_true rfl)⟩ ?_
  refine g_aload_n 4 dFList_init_4 rfl ?_
  refine g_bipush 5 6 dFList_init_5 rfl ?_
  refine g_newa 7 0 6 dFList_init_7 aw_int rfl rfl (fun _ => rfl) (fun _ _ h => h) (by decide) (by decide) (by decide) (by decide) (Nat.le_of_ble_eq_true rfl) (Nat.le_of_ble_eq_true rfl) ?_
  refine g_putr 9 3 0 dFList_init_9 ps_FList_9 rfl rfl (oT (Nat.lt_add_right 0 hlt) hp) ?_
  refine g_aload_n 12 dFList_init_12 rfl ?_
  refine g_bipush 13 6 dFList_init_13 rfl ?_
  refine g_newa 15 0 6 dFList_init_15 aw_int rfl rfl (fun _ => rfl) (fun _ _ h => h) (by decide) (by decide) (by decide) (by decide) (Nat.le_of_ble_eq_true rfl) (Nat.le_of_ble_eq_true rfl) ?_
  refine g_putr 17 3 1 dFList_init_17 ps_FList_15 rfl rfl (oT (Nat.lt_add_right 1 hlt) (oT (Nat.lt_add_right 0 hlt) hp)) ?_
  refine g_aload_n 20 dFList_init_20 rfl ?_
  refine g_bipush 21 6 dFList_init_21 rfl ?_
  refine g_newa 23 2 6 dFList_init_23 aw_boolean rfl rfl (fun _ => rfl) (fun _ _ h => h) (by decide) (by decide) (by decide) (by decide) (Nat.le_of_ble_eq_true rfl) (Nat.le_of_ble_eq_true rfl) ?_
  refine g_putr 25 3 2 dFList_init_25 ps_FList_18 rfl rfl (oT (Nat.lt_add_right 2 hlt) (oT (Nat.lt_add_right 1 hlt) (oT (Nat.lt_add_right 0 hlt) hp))) ?_
  refine g_aload_n 28 dFList_init_28 rfl ?_
  refine g_iconst 29 0 dFList_init_29 rfl ?_
  refine g_puti 30 3 3 dFList_init_30 ps_FList_22 rfl (oT (Nat.lt_add_right 2 hlt) (oT (Nat.lt_add_right 1 hlt) (oT (Nat.lt_add_right 0 hlt) hp))) ?_
  exact g_vret 33 dFList_init_33 rfl ⟨rfl, rfl⟩

set_option maxRecDepth 100000 in
set_option maxHeartbeats 4000000 in
theorem ct_Tab_init {X : mX} {l : Launch} {M : mM} {t : Nat} (hp : (mT M t).1 = 5) : Ct X l uTable_init (rn 1 12 3 15) [.ref t] M (fun r M' => r = none ∧ M' = mkTab M t) := by
  refine Ct.of (by decide) (Nat.le_of_ble_eq_true rfl) ?_
  show G X l uTable_init (rn 1 12 3 15) 3 15 M 0 [some (.ref t)] [] _
  refine G.wf fun hw => ?_
  have hlt := (hw.lt (a := t) (by rw [hp]; decide)).2
  refine g_aload_n 0 dTable_init_0 rfl ?_
  refine g_objInit 1 dTable_init_1 oi_Table_3 oi_m oi_c ⟨(Nat.le_of_ble_eq_true rfl), (Nat.le_of_ble_eq_true rfl)⟩ ?_
  refine g_aload_n 4 dTable_init_4 rfl ?_
  refine g_iconst 5 5 dTable_init_5 rfl ?_
  refine g_newa 6 0 5 dTable_init_6 aw_int rfl rfl (fun _ => rfl) (fun _ _ h => h) (by decide) (by decide) (by decide) (by decide) (Nat.le_of_ble_eq_true rfl) (Nat.le_of_ble_eq_true rfl) ?_
  refine g_putr 8 5 0 dTable_init_8 ps_Table_9 rfl rfl (oT (Nat.lt_add_right 0 hlt) hp) ?_
  refine g_aload_n 11 dTable_init_11 rfl ?_
  refine g_iconst 12 5 dTable_init_12 rfl ?_
  refine g_newa 13 0 5 dTable_init_13 aw_int rfl rfl (fun _ => rfl) (fun _ _ h => h) (by decide) (by decide) (by decide) (by decide) (Nat.le_of_ble_eq_true rfl) (Nat.le_of_ble_eq_true rfl) ?_
  refine g_putr 15 5 1 dTable_init_15 ps_Table_15 rfl rfl (oT (Nat.lt_add_right 1 hlt) (oT (Nat.lt_add_right 0 hlt) hp)) ?_
  refine g_aload_n 18 dTable_init_18 rfl ?_
  refine g_iconst 19 5 dTable_init_19 rfl ?_
  refine g_newa 20 0 5 dTable_init_20 aw_int rfl rfl (fun _ => rfl) (fun _ _ h => h) (by decide) (by decide) (by decide) (by decide) (Nat.le_of_ble_eq_true rfl) (Nat.le_of_ble_eq_true rfl) ?_
  refine g_putr 22 5 2 dTable_init_22 ps_Table_18 rfl rfl (oT (Nat.lt_add_right 2 hlt) (oT (Nat.lt_add_right 1 hlt) (oT (Nat.lt_add_right 0 hlt) hp))) ?_
  refine g_aload_n 25 dTable_init_25 rfl ?_
  refine g_iconst 26 0 dTable_init_26 rfl ?_
  refine g_puti 27 5 3 dTable_init_27 ps_Table_21 rfl (oT (Nat.lt_add_right 2 hlt) (oT (Nat.lt_add_right 1 hlt) (oT (Nat.lt_add_right 0 hlt) hp))) ?_
  refine g_aload_n 30 dTable_init_30 rfl ?_
  refine g_iconst 31 0 dTable_init_31 rfl ?_
  refine g_puti 32 5 4 dTable_init_32 ps_Table_25 rfl (oT (Nat.lt_add_right 2 hlt) (oT (Nat.lt_add_right 1 hlt) (oT (Nat.lt_add_right 0 hlt) hp))) ?_
  refine g_aload_n 35 dTable_init_35 rfl ?_
  refine g_bipush 36 100 dTable_init_36 rfl ?_
  refine g_puti 38 5 5 dTable_init_38 ps_Table_30 rfl (oT (Nat.lt_add_right 2 hlt) (oT (Nat.lt_add_right 1 hlt) (oT (Nat.lt_add_right 0 hlt) hp))) ?_
  exact g_vret 41 dTable_init_41 rfl ⟨rfl, rfl⟩

set_option maxRecDepth 100000 in
set_option maxHeartbeats 4000000 in
theorem ct_Sett_init {X : mX} {l : Launch} {M : mM} {t : Nat} (hp : (mT M t).1 = 7) : Ct X l uSett_init (rk 1 12) [.ref t] M (fun r M' => r = none ∧ M' = mkSett M t) := by
  refine Ct.of (by decide) (Nat.le_of_ble_eq_true rfl) ?_
  show G X l uSett_init (rk 1 12) 0 0 M 0 [some (.ref t)] [] _
  refine g_aload_n 0 dSett_init_0 rfl ?_
  refine g_objInit 1 dSett_init_1 oi_Sett_3 oi_m oi_c ⟨(Nat.le_of_ble_eq_true rfl), (Nat.le_of_ble_eq_true rfl)⟩ ?_
  refine g_aload_n 4 dSett_init_4 rfl ?_
  refine g_bipush 5 100 dSett_init_5 rfl ?_
  refine g_puti 7 7 0 dSett_init_7 ps_Sett_11 rfl hp ?_
  refine g_aload_n 10 dSett_init_10 rfl ?_
  refine g_bipush 11 12 dSett_init_11 rfl ?_
  refine g_puti 13 7 1 dSett_init_13 ps_Sett_15 rfl hp ?_
  refine g_aload_n 16 dSett_init_16 rfl ?_
  refine g_bipush 17 16 dSett_init_17 rfl ?_
  refine g_puti 19 7 2 dSett_init_19 ps_Sett_18 rfl hp ?_
  exact g_vret 22 dSett_init_22 rfl ⟨rfl, rfl⟩

set_option maxRecDepth 100000 in
set_option maxHeartbeats 4000000 in
theorem ct_BQ_init {X : mX} {l : Launch} {M : mM} {t n : Nat} (hp : (mT M t).1 = 9) (hn : n ≤ 40) : Ct X l uBQ_init (rn 1 12 1 40) [.ref t, .int (nI n)] M (fun r M' => r = none ∧ M' = mkBQ M t n) := by
  refine Ct.of (by decide) (Nat.le_of_ble_eq_true rfl) ?_
  show G X l uBQ_init (rn 1 12 1 40) 1 40 M 0 [some (.ref t), some (.int (nI n))] [] _
  refine G.wf fun hw => ?_
  have hlt := (hw.lt (a := t) (by rw [hp]; decide)).2
  refine g_aload_n 0 dBQ_init_0 rfl ?_
  refine g_objInit 1 dBQ_init_1 oi_BQ_1 oi_m oi_c ⟨(Nat.le_of_ble_eq_true rfl), (Nat.le_of_ble_eq_true rfl)⟩ ?_
  refine g_aload_n 4 dBQ_init_4 rfl ?_
  refine g_iconst 5 0 dBQ_init_5 rfl ?_
  refine g_puti 6 9 1 dBQ_init_6 ps_BQ_7 rfl hp ?_
  refine g_aload_n 9 dBQ_init_9 rfl ?_
  refine g_iload_n 10 dBQ_init_10 rfl ?_
  refine g_newa 11 1 40 dBQ_init_11 aw_byte rfl rfl (fun _ => rfl) (fun _ _ h => h) (by decide) (nI_pos (by omega)) (by rw [nI_clamp (by omega)]; exact hn) (by decide) (Nat.le_of_ble_eq_true rfl) (Nat.le_of_ble_eq_true rfl) ?_
  refine g_putr 13 9 0 dBQ_init_13 ps_BQ_13 rfl rfl (oT (Nat.lt_add_right 0 hlt) hp) ?_
  exact g_vret 16 dBQ_init_16 rfl ⟨rfl, by rw [nI_clamp (by omega)]; rfl⟩

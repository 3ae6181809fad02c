/-! ===== arrays ===== -/
section GA0
variable {X : mX} {l : Launch} {u : mU} {p : Program} {s : State} {m : MethodId} {args : Array Value} {meth : Method} {c : Code} {H H' : Heap} {M M' : mM}
theorem h_cell (hM : Sm X M H) {a t n : Nat} (hT : mT M a = (100 + t, n)) (ht : t < 100) : 3 ≤ a ∧ H[adr X a]? = some (arrV (xK X (100 + t)) n (vv X M a)) := by
  obtain ⟨h3, hlt⟩ := hM.alloc (a := a) (by rw [hT]; show 100 + t ≠ 999; omega)
  have h := (hM.2.2.2 a h3 hlt).2 (by rw [hT]; show ¬ 100 + t < 100; omega)
  rw [hT] at h
  exact ⟨h3, h⟩
theorem h_arr (F : Fx X u p s m args meth c) {t n : Nat} {ty : FieldType} (ht : (mTys X)[t]? = some (xK X (100 + t), ty)) (f : Nat → Value) : s.isArrayOf (arrV (xK X (100 + t)) n f) ty := (F.2.2.2.2.2.2.2.2.1.1.2 t _ ht).1 n f
theorem h_aput (hM : Sm X M H) {a t n j : Nat} {w : Value} (hT : mT M a = (100 + t, n)) (ht : t < 100) (hN : mN M' = mN M) (hT' : mT M' = mT M) (hv : ∀ b, b ≠ a → vv X M' b = vv X M b) (hva : vv X M' a = updV (vv X M a) j w)
    (e : H'[adr X a]? = some ((arrV (xK X (100 + t)) n (vv X M a)).setSlot j w)) (z : H'.size = H.size) (o : ∀ q, q ≠ adr X a → H'[q]? = H[q]?) : Sm X M' H' := by
  refine hM.put (h_cell hM hT ht).1 hN hT' hv z o ⟨fun q => absurd q (by rw [hT', hT]; show ¬ 100 + t < 100; omega), fun _ => ?_⟩
  rw [e, arrV_store, hT', hT, hva]
theorem h_A {a : Nat} (h3 : 3 ≤ a) : xA X (adr X a) := by show xB X ≤ _; rw [adr_own X h3]; omega
end GA0
section GA
variable {X : mX} {l : Launch} {u : mU} {rm : Room} {bc bs : Nat} {M : mM} {ls : List (Option Value)} {st : List Value} {Q : Option Value → mM → Prop}
theorem g_iald (pc : Nat) {a n : Nat} {i : Int32} (hd : decode u.2.1 pc = .ok (.iaload, 1)) (hT : mT M a = (100, n)) (hi : vp_in i n) (kk : G X l u rm bc bs M (pc + 1) ls (.int (mI M a i.toNatClampNeg) :: st) Q) : G X l u rm bc bs M pc ls (.int i :: .ref a :: st) Q := by
  intro p e s m args below meth c H locs cells slots lr F hM hS hc hs hl
  have hlt : i.toNatClampNeg < n := Nat.not_le.mp fun q => hi (Or.inr q)
  refine W.iald (v := vv X M a i.toNatClampNeg) F.1 F.2.1 (h_cell hM (t := 0) hT (by decide)).2 (h_arr F (t := 0) rfl _) (fun q => by cases q) (by rw [arrV_size]; exact hi) (arrV_read _ _ hlt) rfl rfl hd ?_
  rw [vv_i (t := 100) (by rw [hT]) rfl]
  exact kk p e s m args below meth c H locs cells slots lr F hM hS hc hs hl
theorem g_bald (pc : Nat) {a n : Nat} {i : Int32} (hd : decode u.2.1 pc = .ok (.baload, 1)) (hT : mT M a = (101, n)) (hi : vp_in i n) (kk : G X l u rm bc bs M (pc + 1) ls (.int (mI M a i.toNatClampNeg) :: st) Q) : G X l u rm bc bs M pc ls (.int i :: .ref a :: st) Q := by
  intro p e s m args below meth c H locs cells slots lr F hM hS hc hs hl
  have hlt : i.toNatClampNeg < n := Nat.not_le.mp fun q => hi (Or.inr q)
  refine W.bald (v := vv X M a i.toNatClampNeg) F.1 F.2.1 (h_cell hM (t := 1) hT (by decide)).2 (h_arr F (t := 1) rfl _) (fun q => by cases q) (by rw [arrV_size]; exact hi) (arrV_read _ _ hlt) rfl rfl hd ?_
  rw [vv_i (t := 101) (by rw [hT]) rfl]
  exact kk p e s m args below meth c H locs cells slots lr F hM hS hc hs hl
theorem g_zald (pc : Nat) {a n : Nat} {i : Int32} (hd : decode u.2.1 pc = .ok (.baload, 1)) (hT : mT M a = (102, n)) (hi : vp_in i n) (kk : G X l u rm bc bs M (pc + 1) ls (.int (mI M a i.toNatClampNeg) :: st) Q) : G X l u rm bc bs M pc ls (.int i :: .ref a :: st) Q := by
  intro p e s m args below meth c H locs cells slots lr F hM hS hc hs hl
  have hlt : i.toNatClampNeg < n := Nat.not_le.mp fun q => hi (Or.inr q)
  refine W.zald (v := vv X M a i.toNatClampNeg) F.1 F.2.1 (h_cell hM (t := 2) hT (by decide)).2 (h_arr F (t := 2) rfl _) (fun q => by cases q) (by rw [arrV_size]; exact hi) (arrV_read _ _ hlt) rfl rfl hd ?_
  rw [vv_i (t := 102) (by rw [hT]) rfl]
  exact kk p e s m args below meth c H locs cells slots lr F hM hS hc hs hl
theorem g_lald (pc : Nat) {a n : Nat} {i : Int32} (hd : decode u.2.1 pc = .ok (.laload, 1)) (hT : mT M a = (103, n)) (hi : vp_in i n) (kk : G X l u rm bc bs M (pc + 1) ls (.long (mL M a i.toNatClampNeg) :: st) Q) : G X l u rm bc bs M pc ls (.int i :: .ref a :: st) Q := by
  intro p e s m args below meth c H locs cells slots lr F hM hS hc hs hl
  have hlt : i.toNatClampNeg < n := Nat.not_le.mp fun q => hi (Or.inr q)
  refine W.lald (v := vv X M a i.toNatClampNeg) F.1 F.2.1 (h_cell hM (t := 3) hT (by decide)).2 (h_arr F (t := 3) rfl _) (fun q => by cases q) (by rw [arrV_size]; exact hi) (arrV_read _ _ hlt) rfl rfl hd ?_
  rw [vv_l (t := 103) (by rw [hT]) rfl]
  exact kk p e s m args below meth c H locs cells slots lr F hM hS hc hs hl
theorem fk_ref {t : Nat} (h4 : 4 ≤ t) (k : Nat) : fk (100 + t) k = 2 := by
  unfold fk
  rw [if_neg (by omega), if_neg (by omega), if_neg (by omega)]
/-- an element of an array of references; o: what it is -/
theorem g_aald (pc : Nat) {a n : Nat} {i : Int32} (t : Nat) {o : Option Nat} {C : String} (hd : decode u.2.1 pc = .ok (.aaload, 1)) (ht : (mTys X)[t]? = some (xK X (100 + t), .object C)) (h4 : 4 ≤ t) (hT : mT M a = (100 + t, n)) (hi : vp_in i n) (ho : mR M a i.toNatClampNeg = o) (kk : G X l u rm bc bs M (pc + 1) ls (va_rf o :: st) Q) : G X l u rm bc bs M pc ls (.int i :: .ref a :: st) Q := by
  intro p e s m args below meth c H locs cells slots lr F hM hS hc hs hl
  have hlt : i.toNatClampNeg < n := Nat.not_le.mp fun q => hi (Or.inr q)
  have ht7 : t < 7 := (List.getElem?_eq_some_iff.mp ht).1
  refine W.aald (v := vv X M a i.toNatClampNeg) (ty := .object C) F.1 F.2.1 (h_cell hM (t := t) hT (by omega)).2 (h_arr F ht _) rfl (fun q => by cases q) (by rw [arrV_size]; exact hi) (arrV_read _ _ hlt) rfl rfl hd ?_
  rw [vv_r (t := 100 + t) (by rw [hT]) (fk_ref h4 _), ho, ← rel_rf]
  exact kk p e s m args below meth c H locs cells slots lr F hM hS hc hs hl
theorem g_iast (pc : Nat) {a n : Nat} {i x : Int32} (hd : decode u.2.1 pc = .ok (.iastore, 1)) (hT : mT M a = (100, n)) (hi : vp_in i n) (kk : G X l u rm bc bs (setI M a i.toNatClampNeg x) (pc + 1) ls st Q) : G X l u rm bc bs M pc ls (.int x :: .int i :: .ref a :: st) Q := by
  intro p e s m args below meth c H locs cells slots lr F hM hS hc hs hl
  have h3 := (h_cell hM (t := 0) hT (by decide)).1
  refine W.iast F.1 F.2.1 (h_cell hM (t := 0) hT (by decide)).2 (h_arr F (t := 0) rfl _) (fun q => by cases q) (by rw [arrV_size]; exact hi) rfl rfl hd fun H1 e1 z o => ?_
  exact kk p e s m args below meth c H1 _ cells slots lr F (h_aput hM (t := 0) hT (by decide) rfl rfl (fun _ h => vv_setI_ne h) (vv_setI (t := 100) (by rw [hT]) rfl) e1 z o) (hS.put z o (h_A h3)) hc hs hl
theorem g_bast (pc : Nat) {a n : Nat} {i x : Int32} (hd : decode u.2.1 pc = .ok (.bastore, 1)) (hT : mT M a = (101, n)) (hi : vp_in i n) (kk : G X l u rm bc bs (setI M a i.toNatClampNeg x.toInt8.toInt32) (pc + 1) ls st Q) : G X l u rm bc bs M pc ls (.int x :: .int i :: .ref a :: st) Q := by
  intro p e s m args below meth c H locs cells slots lr F hM hS hc hs hl
  have h3 := (h_cell hM (t := 1) hT (by decide)).1
  refine W.bast F.1 F.2.1 (h_cell hM (t := 1) hT (by decide)).2 (h_arr F (t := 1) rfl _) (fun q => by cases q) (by rw [arrV_size]; exact hi) rfl rfl hd fun H1 e1 z o => ?_
  exact kk p e s m args below meth c H1 _ cells slots lr F (h_aput hM (t := 1) hT (by decide) rfl rfl (fun _ h => vv_setI_ne h) (vv_setI (t := 101) (by rw [hT]) rfl) e1 z o) (hS.put z o (h_A h3)) hc hs hl
theorem g_zast (pc : Nat) {a n : Nat} {i x : Int32} (hd : decode u.2.1 pc = .ok (.bastore, 1)) (hT : mT M a = (102, n)) (hi : vp_in i n) (hz : x = 0 ∨ x = 1) (kk : G X l u rm bc bs (setI M a i.toNatClampNeg x) (pc + 1) ls st Q) : G X l u rm bc bs M pc ls (.int x :: .int i :: .ref a :: st) Q := by
  intro p e s m args below meth c H locs cells slots lr F hM hS hc hs hl
  have h3 := (h_cell hM (t := 2) hT (by decide)).1
  have hx : narrow .boolean (.int x) = .int x := by rcases hz with rfl | rfl <;> rfl
  refine W.zast F.1 F.2.1 (h_cell hM (t := 2) hT (by decide)).2 (h_arr F (t := 2) rfl _) (fun q => by cases q) (by rw [arrV_size]; exact hi) rfl rfl hd fun H1 e1 z o => ?_
  rw [hx] at e1
  exact kk p e s m args below meth c H1 _ cells slots lr F (h_aput hM (t := 2) hT (by decide) rfl rfl (fun _ h => vv_setI_ne h) (vv_setI (t := 102) (by rw [hT]) rfl) e1 z o) (hS.put z o (h_A h3)) hc hs hl
theorem g_last (pc : Nat) {a n : Nat} {i : Int32} {x : Int64} (hd : decode u.2.1 pc = .ok (.lastore, 1)) (hT : mT M a = (103, n)) (hi : vp_in i n) (kk : G X l u rm bc bs (setL M a i.toNatClampNeg x) (pc + 1) ls st Q) : G X l u rm bc bs M pc ls (.long x :: .int i :: .ref a :: st) Q := by
  intro p e s m args below meth c H locs cells slots lr F hM hS hc hs hl
  have h3 := (h_cell hM (t := 3) hT (by decide)).1
  refine W.last F.1 F.2.1 (h_cell hM (t := 3) hT (by decide)).2 (h_arr F (t := 3) rfl _) (fun q => by cases q) (by rw [arrV_size]; exact hi) rfl rfl hd fun H1 e1 z o => ?_
  exact kk p e s m args below meth c H1 _ cells slots lr F (h_aput hM (t := 3) hT (by decide) rfl rfl (fun _ h => vv_setL_ne h) (vv_setL (t := 103) (by rw [hT]) rfl) e1 z o) (hS.put z o (h_A h3)) hc hs hl
/-- an object of the array's own component class is stored -/
theorem g_aast (pc : Nat) {a n b ci : Nat} {i : Int32} (t : Nat) {C : String} {T : u_T} {N : Nat} (hd : decode u.2.1 pc = .ok (.aastore, 1)) (ht : (mTys X)[t]? = some (xK X (100 + t), .object C)) (h4 : 4 ≤ t) (hT : mT M a = (100 + t, n)) (hi : vp_in i n) (hb : (mT M b).1 = ci) (hc1 : ci < 100) (hcl : vwCl[ci]? = some (C, T, N)) (kk : G X l u rm bc bs (setR M a i.toNatClampNeg (some b)) (pc + 1) ls st Q) : G X l u rm bc bs M pc ls (.ref b :: .int i :: .ref a :: st) Q := by
  intro p e s m args below meth c H locs cells slots lr F hM hS hc hs hl
  have ht7 : t < 7 := (List.getElem?_eq_some_iff.mp ht).1
  obtain ⟨h3, hcell⟩ := h_cell hM (t := t) hT (by omega)
  have hlt : i.toNatClampNeg < n := Nat.not_le.mp fun q => hi (Or.inr q)
  have h0 : ¬ i < 0 := fun q => hi (Or.inl q)
  obtain ⟨h3b, hltb⟩ := hM.alloc (a := b) (by rw [hb]; omega)
  obtain ⟨r', hr', cellV, g1, g2, g3, -⟩ := (hM.2.2.2 b h3b hltb).1 (by rw [hb]; exact hc1)
  rw [hb] at hr' g2
  have hK := F.2.2.2.2.2.2.2.2.1.1
  have hcls := (hK.1 ci _ hcl).2
  obtain ⟨kA, comp, k1, k2, k3, -⟩ := (hK.2 t _ ht).2
  have hcomp : comp = (xD X).1 ci := Option.some.inj (k3.symm.trans hcls.1)
  subst hcomp
  obtain ⟨kC, hkC, -⟩ := hcls.2
  refine W.aast F.1 F.2.1 hcell (fun q h => by cases h) (fun h => by cases h) k1 k2 rfl hkC ⟨h0, by rw [arrV_size]; exact hlt⟩ g1 (fun q h => by rw [g3] at h; cases h) (by rw [g2]; exact hkC) (by rw [g2]; exact va_assign hcls) rfl rfl hd fun H1 e1 z o => ?_
  exact kk p e s m args below meth c H1 _ cells slots lr F (h_aput hM (t := t) hT (by omega) rfl rfl (fun _ h => vv_setR_ne h) (vv_setR (x := some b) (t := 100 + t) (by rw [hT]) (fk_ref h4 _)) e1 z o) (hS.put z o (h_A h3)) hc hs hl
theorem g_aastN (pc : Nat) {a n : Nat} {i : Int32} (t : Nat) {C : String} (hd : decode u.2.1 pc = .ok (.aastore, 1)) (ht : (mTys X)[t]? = some (xK X (100 + t), .object C)) (h4 : 4 ≤ t) (hT : mT M a = (100 + t, n)) (hi : vp_in i n) (kk : G X l u rm bc bs (setR M a i.toNatClampNeg none) (pc + 1) ls st Q) : G X l u rm bc bs M pc ls (.null :: .int i :: .ref a :: st) Q := by
  intro p e s m args below meth c H locs cells slots lr F hM hS hc hs hl
  have ht7 : t < 7 := (List.getElem?_eq_some_iff.mp ht).1
  obtain ⟨h3, hcell⟩ := h_cell hM (t := t) hT (by omega)
  refine va_WaastN (C := C) F.1 F.2.1 hcell (h_arr F ht _) (fun h => by cases h) (by rw [arrV_size]; exact hi) rfl rfl hd fun H1 e1 z o => ?_
  exact kk p e s m args below meth c H1 _ cells slots lr F (h_aput hM (t := t) hT (by omega) rfl rfl (fun _ h => vv_setR_ne h) (vv_setR (x := none) (t := 100 + t) (by rw [hT]) (fk_ref h4 _)) e1 z o) (hS.put z o (h_A h3)) hc hs hl
theorem g_alen (pc : Nat) {a n : Nat} (t : Nat) {ty : FieldType} (hd : decode u.2.1 pc = .ok (.arraylength, 1)) (ht : (mTys X)[t]? = some (xK X (100 + t), ty)) (hT : mT M a = (100 + t, n)) (kk : G X l u rm bc bs M (pc + 1) ls (.int (nI n) :: st) Q) : G X l u rm bc bs M pc ls (.ref a :: st) Q := by
  intro p e s m args below meth c H locs cells slots lr F hM hS hc hs hl
  have ht7 : t < 7 := (List.getElem?_eq_some_iff.mp ht).1
  exact W.alen (n := nI n) F.1 F.2.1 (h_cell hM (t := t) hT (by omega)).2 (h_arr F ht _) (by rw [arrV_size] <;> rfl) rfl rfl hd (kk p e s m args below meth c H locs cells slots lr F hM hS hc hs hl)
theorem adr_old (X : mX) {a : Nat} (h : a < 3) : adr X a = xO X a := if_pos h
theorem g_oald (pc : Nat) {a : Nat} {i : Int32} (ha : a < 3) (hd : decode u.2.1 pc = .ok (.iaload, 1)) (hi : vp_in i (xL X a)) (kk : G X l u rm bc bs M (pc + 1) ls (.int (xI X a i.toNatClampNeg) :: st) Q) : G X l u rm bc bs M pc ls (.int i :: .ref a :: st) Q := by
  intro p e s m args below meth c H locs cells slots lr F hM hS hc hs hl
  have h := F.2.2.2.2.2.2.2.2.1.2.2.2.2.2 a ha
  show W p l e rm s m args below meth c H locs cells slots _ (F0 m pc lr (.int i :: .ref (adr X a) :: st.map (rel X)))
  rw [adr_old X ha]
  exact va_ti F.1 F.2.1 h hS hi rfl hd (kk p e s m args below meth c H locs cells slots lr F hM hS hc hs hl)
theorem g_olen (pc : Nat) {a : Nat} (ha : a < 3) (hd : decode u.2.1 pc = .ok (.arraylength, 1)) (kk : G X l u rm bc bs M (pc + 1) ls (.int (nI (xL X a)) :: st) Q) : G X l u rm bc bs M pc ls (.ref a :: st) Q := by
  intro p e s m args below meth c H locs cells slots lr F hM hS hc hs hl
  have h := F.2.2.2.2.2.2.2.2.1.2.2.2.2.2 a ha
  show W p l e rm s m args below meth c H locs cells slots _ (F0 m pc lr (.ref (adr X a) :: st.map (rel X)))
  rw [adr_old X ha]
  exact va_tlen F.1 F.2.1 h hS rfl hd (kk p e s m args below meth c H locs cells slots lr F hM hS hc hs hl)
/-- the static tables: a = 1 FIXED_NAMES, a = 2 FIXED_VALUES -/
theorem g_fix1 (pc : Nat) {idx : Nat} (hd : decode u.2.1 pc = .ok (.getstatic idx, 3)) (hs' : Cond.fieldLink u.1.cls idx fixC "FIXED_NAMES" "[I" ∈ gW ∨ ∃ host, Cond.fieldLinkNest u.1.cls idx fixC "FIXED_NAMES" "[I" host ∈ gN) (kk : G X l u rm bc bs M (pc + 3) ls (.ref 1 :: st) Q) : G X l u rm bc bs M pc ls st Q := by
  intro p e s m args below meth c H locs cells slots lr F hM hS hc hs hl
  have hO := F.2.2.2.2.2.2.2.2.1
  have K := kk p e s m args below meth c H locs cells slots lr F hM hS hc hs hl
  rcases hs' with h | ⟨host, h⟩
  · exact va_gets F.1 F.2.1 hO.2.2.2.1 hS F.2.2.2.2.1 (F.2.2.2.2.2.1 _ (List.mem_cons_of_mem _ h)) (fun _ q => q) hd K
  · exact va_getsN F.1 F.2.1 hO.2.2.2.1 hS F.2.2.2.2.1 (va_Nw.use (gN_tab h) (hO.2.1 _ h)) (fun _ q => q) hd K
theorem g_fix2 (pc : Nat) {idx : Nat} (hd : decode u.2.1 pc = .ok (.getstatic idx, 3)) (hs' : Cond.fieldLink u.1.cls idx fixC "FIXED_VALUES" "[I" ∈ gW ∨ ∃ host, Cond.fieldLinkNest u.1.cls idx fixC "FIXED_VALUES" "[I" host ∈ gN) (kk : G X l u rm bc bs M (pc + 3) ls (.ref 2 :: st) Q) : G X l u rm bc bs M pc ls st Q := by
  intro p e s m args below meth c H locs cells slots lr F hM hS hc hs hl
  have hO := F.2.2.2.2.2.2.2.2.1
  have K := kk p e s m args below meth c H locs cells slots lr F hM hS hc hs hl
  rcases hs' with h | ⟨host, h⟩
  · exact va_gets F.1 F.2.1 hO.2.2.2.2.1 hS F.2.2.2.2.1 (F.2.2.2.2.2.1 _ (List.mem_cons_of_mem _ h)) (fun _ q => q) hd K
  · exact va_getsN F.1 F.2.1 hO.2.2.2.2.1 hS F.2.2.2.2.1 (va_Nw.use (gN_tab h) (hO.2.1 _ h)) (fun _ q => q) hd K
end GA
/-! ===== new cells ===== -/
def dv (X : mX) (tag k : Nat) : Value := vk (fk tag k) 0 0 none
theorem vv_new {X : mX} {M : mM} {tag len : Nat} : vv X (newM M tag len) (mN M) = dv X tag := by
  funext k
  show vk (fk (if mN M = mN M then (tag, len) else mT M (mN M)).1 k) (if mN M = mN M then 0 else mI M (mN M) k) (if mN M = mN M then 0 else mL M (mN M) k) ((if mN M = mN M then none else mR M (mN M) k).map (adr X)) = _
  simp only [if_true]
  rfl
theorem vv_new_ne {X : mX} {M : mM} {tag len b : Nat} (h : b ≠ mN M) : vv X (newM M tag len) b = vv X M b := by
  funext k
  show vk (fk (if b = mN M then (tag, len) else mT M b).1 k) (if b = mN M then 0 else mI M b k) (if b = mN M then 0 else mL M b k) ((if b = mN M then none else mR M b k).map (adr X)) = _
  simp only [if_neg h]
  rfl
theorem mT_new (M : mM) (tag len : Nat) : mT (newM M tag len) (mN M) = (tag, len) := if_pos rfl
theorem mT_new_ne {M : mM} {tag len b : Nat} (h : b ≠ mN M) : mT (newM M tag len) b = mT M b := if_neg h
theorem Sm.new {X : mX} {M : mM} {H H' : Heap} {tag len : Nat} (h : Sm X M H) (hz : H'.size = H.size + 1) (hk : ∀ q, q < H.size → H'[q]? = H[q]?) (hc : mAt X (newM M tag len) H' (mN M)) : Sm X (newM M tag len) H' := by
  have h1 := h.1
  have h2 := h.2.1
  have hn : mN (newM M tag len) = mN M + 1 := rfl
  refine ⟨by rw [hz, hn]; omega, by rw [hn]; omega, fun b hb => ?_, fun b h3 hb => ?_⟩
  · rw [hn] at hb
    have hne : b ≠ mN M := by omega
    have e : mT (newM M tag len) b = mT M b := if_neg hne
    rw [e]; exact h.2.2.1 b (by omega)
  · rw [hn] at hb
    by_cases e : b = mN M
    · subst e; exact hc
    · refine (h.2.2.2 b h3 (by omega)).kept (if_neg e) (vv_new_ne e) (hk _ ?_)
      rw [adr_own X h3]; omega
def nS (own : String) (idx ci N : Nat) : Prop := ∃ (C : String) (T : u_T), cF ci C T N ∧ Cond.classLink own idx C ∈ gW ∧ Cond.instantiable C N ∈ gW ∧ Cond.initialized C ∈ gW
theorem tk_dv {X : mX} {ty : FieldType} {tag k : Nat} (h : tk ty = fk tag k) (h9 : tk ty ≠ 9) : defaultValue ty = dv X tag k := by
  unfold dv
  rw [← h]
  cases ty <;> first | rfl | exact absurd rfl h9
section GN
variable {X : mX} {l : Launch} {u : mU} {rm : Room} {bc bs : Nat} {M : mM} {ls : List (Option Value)} {st : List Value} {Q : Option Value → mM → Prop}
theorem fk_9 (tag k : Nat) (h : tag < 100) (hf : ∀ r ∈ fkT, ∀ x ∈ r, x ≠ 9) : fk tag k ≠ 9 := by
  unfold fk
  rw [if_pos h]
  rw [List.getD_eq_getElem?_getD, List.getD_eq_getElem?_getD]
  cases h1 : fkT[tag]? with
  | none => simp
  | some r =>
    simp only [Option.getD_some]
    cases h2 : r[k]? with
    | none => simp
    | some x => simpa using hf r (List.mem_of_getElem? h1) x (List.mem_of_getElem? h2)
theorem fkT_ok : ∀ r ∈ fkT, ∀ x ∈ r, x ≠ 9 := by decide
theorem g_new (pc : Nat) {idx : Nat} (ci N : Nat) (hd : decode u.2.1 pc = .ok (.new idx, 3)) (hs' : nS u.1.cls idx ci N) (h1 : 1 ≤ bc) (h2 : N ≤ bs) (kk : G X l u rm (bc - 1) (bs - N) (newM M ci N) (pc + 3) ls (.ref (mN M) :: st) Q) : G X l u rm bc bs M pc ls st Q := by
  intro p e s m args below meth c H locs cells slots lr F hM hS hc hs hl
  obtain ⟨C, T, ⟨hci, hcl, hin, hnm, ty, hty⟩, hw1, hw2, hw3⟩ := hs'
  have hts := F.2.2.2.2.2.1
  have hKn := F.2.2.2.2.2.2.2.2.1.1.1 ci _ hcl
  refine W.newcK F.1 F.2.1 F.2.2.2.2.1 (hts _ (List.mem_cons_of_mem _ hw1)) (hts _ (List.mem_cons_of_mem _ hw2)) (hts _ (List.mem_cons_of_mem _ hw3)) rfl hd (by omega) (by omega) hKn.2.1 rfl fun H1 kC hkC e1 z1 o1 => ?_
  have hM1 : Sm X (newM M ci N) H1 := by
    refine hM.new z1 o1 ⟨fun _ => ?_, fun q => absurd (show (mT (newM M ci N) (mN M)).1 < 100 by rw [mT_new]; exact hci) q⟩
    have eT : mT (newM M ci N) (mN M) = (ci, N) := if_pos rfl
    rw [eT, vv_new, adr_new hM]
    refine ⟨(C, T, N), hcl, (u_born ty hts (fun w h => List.mem_cons_of_mem _ (hin w h)) hKn hkC e1 (fun k hk => (hty k hk).1)).to (fun k hk => ?_)⟩
    exact tk_dv (hty k hk).2 (by rw [(hty k hk).2]; exact fk_9 ci k hci fkT_ok)
  have hS1 : va_S (xA X) s.heap H1 locs := ⟨Nat.le_trans hS.1 (by omega), fun x h1 h2 => (o1 x (Nat.lt_of_lt_of_le h1 hS.1)).trans (hS.2.1 x h1 h2), hS.2.2⟩
  have K := kk p e s m args below meth c H1 locs (cells + 1) (slots + N) lr F hM1 hS1 (by omega) (by omega) hl
  rw [← adr_new hM]
  exact K
theorem g_newa (pc : Nat) {n : Int32} {atype : ArrayType} (t K : Nat) {ty : FieldType} (hd : decode u.2.1 pc = .ok (.newarray atype, 2)) (hw : Cond.arrayClass (newarray.typeOf atype) ∈ gW) (hty : newarray.typeOf atype = ty) (ht : (mTys X)[t]? = some (xK X (100 + t), ty)) (hk : ∀ k, defaultValue ty = dv X (100 + t) k) (hra : ∀ (U : State) (cA : ClassId), va_RA U cA ty → U.vm.findClass ("[" ++ ty.toString) = some cA) (hb8 : componentBytes ty ≤ 8) (hn : ¬ n < 0) (hK : n.toNatClampNeg ≤ K) (hK2 : K ≤ 1000000) (h1 : 1 ≤ bc) (h2 : K ≤ bs)
    (kk : G X l u rm (bc - 1) (bs - K) (newM M (100 + t) n.toNatClampNeg) (pc + 2) ls (.ref (mN M) :: st) Q) : G X l u rm bc bs M pc ls (.int n :: st) Q := by
  intro p e s m args below meth c H locs cells slots lr F hM hS hc hs hl
  subst hty
  have hts := F.2.2.2.2.2.1
  have hb : n.toNatClampNeg * componentBytes (newarray.typeOf atype) ≤ 536870912 := by
    have : n.toNatClampNeg * componentBytes (newarray.typeOf atype) ≤ 1000000 * 8 := Nat.mul_le_mul (by omega) hb8
    omega
  refine va_newaK F.1 F.2.1 (hts _ (List.mem_cons_of_mem _ hw)) rfl hd rfl hn rfl hb (by omega) (by omega) rfl fun H1 cA e1 z1 o1 hAr hNm => ?_
  have hcA : cA = xK X (100 + t) := Option.some.inj (hNm.symm.trans (hra _ _ (F.2.2.2.2.2.2.2.2.1.1.2 t _ ht).2))
  subst hcA
  have hM1 : Sm X (newM M (100 + t) n.toNatClampNeg) H1 := by
    refine hM.new z1 o1 ⟨fun q => absurd q ?_, fun _ => ?_⟩
    · rw [mT_new]; show ¬ 100 + t < 100; omega
    · have eT : mT (newM M (100 + t) n.toNatClampNeg) (mN M) = (100 + t, n.toNatClampNeg) := if_pos rfl
      rw [eT, vv_new, adr_new hM, e1]
      congr 2
      funext k
      exact hk k
  have hS1 : va_S (xA X) s.heap H1 locs := ⟨Nat.le_trans hS.1 (by omega), fun x h1 h2 => (o1 x (Nat.lt_of_lt_of_le h1 hS.1)).trans (hS.2.1 x h1 h2), hS.2.2⟩
  have K := kk p e s m args below meth c H1 locs (cells + 1) (slots + n.toNatClampNeg) lr F hM1 hS1 (by omega) (by omega) hl
  rw [← adr_new hM]
  exact K
theorem g_anew (pc : Nat) {n : Int32} {idx : Nat} (t K : Nat) (hd : decode u.2.1 pc = .ok (.anewarray idx, 3)) (hw : Cond.classLink u.1.cls idx (aoC t) ∈ gW) (ht : (mTys X)[t]? = some (xK X (100 + t), .object (aoC t))) (h4 : 4 ≤ t) (hn : ¬ n < 0) (hK : n.toNatClampNeg ≤ K) (hK2 : K ≤ 1000000) (h1 : 1 ≤ bc) (h2 : K ≤ bs)
    (kk : G X l u rm (bc - 1) (bs - K) (newM M (100 + t) n.toNatClampNeg) (pc + 3) ls (.ref (mN M) :: st) Q) : G X l u rm bc bs M pc ls (.int n :: st) Q := by
  intro p e s m args below meth c H locs cells slots lr F hM hS hc hs hl
  have ht7 : t < 7 := (List.getElem?_eq_some_iff.mp ht).1
  have hts := F.2.2.2.2.2.1
  have hO := F.2.2.2.2.2.2.2.2.1
  refine W.anew F.1 F.2.1 F.2.2.2.2.1 (hts _ (List.mem_cons_of_mem _ hw)) (va_AO.use (hO.2.2.1 t ht7)) rfl hd rfl hn (by omega) (by omega) (by omega) fun cA kA comp f1 f2 f3 f4 => ?_
  obtain ⟨kA', comp', k1, k2, k3, k4⟩ := (hO.1.2 t _ ht).2
  have hcA : cA = xK X (100 + t) := Option.some.inj (f1.symm.trans k4)
  subst hcA
  generalize hH1 : H.push ({ cls := xK X (100 + t), slots := Array.replicate n.toNatClampNeg .null, vm := .none } : Cell) = H1
  have z1 : H1.size = H.size + 1 := by rw [← hH1, Array.size_push]
  have e1 : H1[H.size]? = some (arrV (xK X (100 + t)) n.toNatClampNeg (fun _ => .null)) := by rw [← hH1, Array.getElem?_push_size, ← arrV_new]
  have o1 : ∀ q : Nat, q < H.size → H1[q]? = H[q]? := fun q hq => by rw [← hH1, Array.getElem?_push, if_neg (Nat.ne_of_lt hq)]
  have hM1 : Sm X (newM M (100 + t) n.toNatClampNeg) H1 := by
    refine hM.new z1 o1 ⟨fun q => absurd q ?_, fun _ => ?_⟩
    · rw [mT_new]; show ¬ 100 + t < 100; omega
    · have eT : mT (newM M (100 + t) n.toNatClampNeg) (mN M) = (100 + t, n.toNatClampNeg) := if_pos rfl
      rw [eT, vv_new, adr_new hM, e1]
      congr 2
      funext k
      unfold dv
      rw [vk_2 (fk_ref h4 k)]
      rfl
  have hS1 : va_S (xA X) s.heap H1 locs := ⟨Nat.le_trans hS.1 (by omega), fun x h1 h2 => (o1 x (Nat.lt_of_lt_of_le h1 hS.1)).trans (hS.2.1 x h1 h2), hS.2.2⟩
  have K := kk p e s m args below meth c H1 locs (cells + 1) (slots + n.toNatClampNeg) lr F hM1 hS1 (by omega) (by omega) hl
  rw [← adr_new hM]
  exact K
end GN

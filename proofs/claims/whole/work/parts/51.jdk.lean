/-! ===== the JDK's own: min, max, arraycopy, copyOf ===== -/
theorem catsum (X : mX) (st : List Value) : ((st.map (rel X)).map fun v => v.category).sum = (st.map fun v => v.category).sum := by
  rw [List.map_map]
  have e : ((fun v : Value => v.category) ∘ rel X) = fun v => v.category := funext fun v => rel_cat X v
  rw [e]
/-- n numbers from sp on of a0 come to dp of a -/
def cpyI (M : mM) (a0 a sp dp n : Nat) : mM := (mN M, mT M, fun a' j => if a' = a then va_cpy (mI M a0) (mI M a) sp dp n j else mI M a' j, mL M, mR M)
section JDK
variable {X : mX} {l : Launch} {u : mU} {rm : Room} {bc bs : Nat} {M : mM} {ls : List (Option Value)} {st : List Value} {Q : Option Value → mM → Prop}
theorem g_mmin (pc : Nat) {x y : Int32} {idx : Nat} (hd : decode u.2.1 pc = .ok (.invokestatic idx, 3)) (w1 : Cond.methodLink u.1.cls idx Lib.Math.min.name ∈ gW) (w2 : Cond.static Lib.Math.min.name ∈ gW) (w3 : Cond.initialized "java/lang/Math" ∈ gW) (w4 : Cond.code Lib.Math.min.name Lib.Math.min.code 2 (some .int) ∈ gW) (hR : 1 ≤ rm.frames ∧ (st.map fun v => v.category).sum + 13 ≤ rm.locals) (k : G X l u rm bc bs M (pc + 3) ls (.int (if y < x then y else x) :: st) Q) : G X l u rm bc bs M pc ls (.int y :: .int x :: st) Q := by
  intro p e s m args below meth c H locs cells slots lr F hM hS hc hs hl
  have hts := F.2.2.2.2.2.1
  exact va_mmin F.1 F.2.1 (by rw [F.2.2.2.1]; exact hl.1.symm) F.2.2.2.2.1 (hts _ (List.mem_cons_of_mem _ w1)) (hts _ (List.mem_cons_of_mem _ w2)) (hts _ (List.mem_cons_of_mem _ w3)) (hts _ (List.mem_cons_of_mem _ w4)) hR.1 (by rw [catsum]; exact hR.2) (by omega) (by omega) hd (k p e s m args below meth c H locs cells slots lr F hM hS hc hs hl)
theorem g_mmax (pc : Nat) {x y : Int32} {idx : Nat} (hd : decode u.2.1 pc = .ok (.invokestatic idx, 3)) (w1 : Cond.methodLink u.1.cls idx Lib.Math.max.name ∈ gW) (w2 : Cond.static Lib.Math.max.name ∈ gW) (w3 : Cond.initialized "java/lang/Math" ∈ gW) (w4 : Cond.code Lib.Math.max.name Lib.Math.max.code 2 (some .int) ∈ gW) (hR : 1 ≤ rm.frames ∧ (st.map fun v => v.category).sum + 13 ≤ rm.locals) (k : G X l u rm bc bs M (pc + 3) ls (.int (if x < y then y else x) :: st) Q) : G X l u rm bc bs M pc ls (.int y :: .int x :: st) Q := by
  intro p e s m args below meth c H locs cells slots lr F hM hS hc hs hl
  have hts := F.2.2.2.2.2.1
  exact va_mmax F.1 F.2.1 (by rw [F.2.2.2.1]; exact hl.1.symm) F.2.2.2.2.1 (hts _ (List.mem_cons_of_mem _ w1)) (hts _ (List.mem_cons_of_mem _ w2)) (hts _ (List.mem_cons_of_mem _ w3)) (hts _ (List.mem_cons_of_mem _ w4)) hR.1 (by rw [catsum]; exact hR.2) (by omega) (by omega) hd (k p e s m args below meth c H locs cells slots lr F hM hS hc hs hl)
theorem vv_cpy_ne {a0 a sp dp n b : Nat} (h : b ≠ a) : vv X (cpyI M a0 a sp dp n) b = vv X M b := by
  funext j
  show vk (fk (mT M b).1 j) (if b = a then va_cpy (mI M a0) (mI M a) sp dp n j else mI M b j) (mL M b j) ((mR M b j).map (adr X)) = _
  rw [if_neg h]
  rfl
theorem vv_arr {a n : Nat} (hT : mT M a = (101, n)) : vv X M a = fun j => .int (mI M a j) := funext fun j => vv_i (t := 101) (by rw [hT]) rfl
theorem nI_nn {n : Nat} (h : n < 2 ^ 31) : ¬ nI n < 0 := by
  rw [Int32.lt_iff_toInt_lt, nI_toInt h]
  show ¬ (n : Int) < 0
  omega
theorem g_copy (pc : Nat) {a0 a n0 n1 sp dp n idx : Nat} (hd : decode u.2.1 pc = .ok (.invokestatic idx, 3)) (w1 : Cond.methodLink u.1.cls idx arraycopyName ∈ gW) (w2 : Cond.native arraycopyName ∈ gW) (w3 : Cond.static arraycopyName ∈ gW) (w4 : Cond.initialized "java/lang/System" ∈ gW) (hT0 : mT M a0 = (101, n0)) (hT1 : mT M a = (101, n1)) (h4 : sp + n ≤ n0) (h5 : dp + n ≤ n1) (hn0 : n0 < 2 ^ 31) (hn1 : n1 < 2 ^ 31) (hfit : ∀ i, i < n → fits .byte (.int (mI M a0 (sp + i))) = true) (hR : 1 ≤ rm.frames ∧ (st.map fun v => v.category).sum + (nativeFrameWords "java/lang/System" "arraycopy" 5 + 11) ≤ rm.locals)
    (k : G X l u rm bc bs (cpyI M a0 a sp dp n) (pc + 3) ls st Q) : G X l u rm bc bs M pc ls (.int (nI n) :: .int (nI dp) :: .ref a :: .int (nI sp) :: .ref a0 :: st) Q := by
  intro p e s m args below meth c H locs cells slots lr F hM hS hc hs hl
  have hts := F.2.2.2.2.2.1
  have hK := F.2.2.2.2.2.2.2.2.1.1
  obtain ⟨g0, c0⟩ := h_cell hM (t := 1) hT0 (by decide)
  obtain ⟨g1, c1⟩ := h_cell hM (t := 1) hT1 (by decide)
  rw [vv_arr hT0] at c0
  rw [vv_arr hT1] at c1
  have esp : (nI sp).toNatClampNeg = sp := nI_clamp (by omega)
  have edp : (nI dp).toNatClampNeg = dp := nI_clamp (by omega)
  have en : (nI n).toNatClampNeg = n := nI_clamp (by omega)
  have tsp : (nI sp).toInt = (sp : Int) := nI_toInt (by omega)
  have tdp : (nI dp).toInt = (dp : Int) := nI_toInt (by omega)
  have tn : (nI n).toInt = (n : Int) := nI_toInt (by omega)
  intro T hT S
  obtain ⟨-, k0, hk0, cm0, hkk0⟩ := (hK.2 1 _ rfl).1 n0 (fun j => .int (mI M a0 j))
  obtain ⟨-, k1, hk1, cm1, hkk1⟩ := (hK.2 1 _ rfl).1 n1 (fun j => .int (mI M a j))
  obtain ⟨vm', S', step⟩ := S.arraycopy F.1 F.2.2.2.2.1 (hts _ (List.mem_cons_of_mem _ w1)) (hts _ (List.mem_cons_of_mem _ w2)) (hts _ (List.mem_cons_of_mem _ w3)) (hts _ (List.mem_cons_of_mem _ w4)) (src := adr X a0) (dst := adr X a) (cs := arrV (xK X 101) n0 (fun j => .int (mI M a0 j))) (cd := arrV (xK X 101) n1 (fun j => .int (mI M a j))) (srcPos := nI sp) (destPos := nI dp) (n := nI n) (by rw [hT]; exact c0) (by rw [hT]; exact c1)
    (fun _ h => by cases h) (fun _ h => by cases h) (fun h => by cases h) (fun h => by cases h) hk0 hk1 hkk0 hkk1 (by show (refKind FieldType.byte != refKind FieldType.byte || !refKind FieldType.byte && FieldType.byte != FieldType.byte) = false; decide) (nI_nn (by omega)) (nI_nn (by omega)) (nI_nn (by omega))
    (by rw [tsp, tn, arrV_size]; omega)
    (by rw [tdp, tn, arrV_size]; omega)
    (fun vm₁ _ i hi => by
      rw [en] at hi
      have e : (arrV (xK X 101) n0 (fun j => .int (mI M a0 j))).slots.getD ((nI sp).toNatClampNeg + i) .null = .int (mI M a0 (sp + i)) := by
        rw [esp, Array.getD_eq_getD_getElem?, arrV_read _ _ (by omega)]
        rfl
      refine ⟨?_, ?_⟩
      · rw [e]
        exact hfit i hi
      · rw [e]
        exact trivial)
    (g := F0 m pc lr (.int (nI n) :: .int (nI dp) :: .ref (adr X a) :: .int (nI sp) :: .ref (adr X a0) ::  st.map (rel X))) rfl (by rw [F.2.2.2.1]; exact hl.1) (rest := st.map (rel X)) rfl (by rw [F.2.1]; exact hd) hR.1 (by show 2 * 0 + _ + _ ≤ _; rw [catsum]; have := hR.2; omega)
  have e1 : copied (arrV (xK X 101) n0 (fun j => .int (mI M a0 j))) (arrV (xK X 101) n1 (fun j => .int (mI M a j))) (nI sp) (nI dp) (nI n) = arrV (xK X 101) n1 (fun j => .int (va_cpy (mI M a0) (mI M a) sp dp n j)) := by
    have := va_copied (fun z => Value.int z) (xK X 101) (xK X 101) (n0 := n0) (n1 := n1) (sp := sp) (dp := dp) (n := n) (mI M a0) (mI M a) h4
    rw [← this]
    unfold copied
    rw [esp, edp, en]
  rw [e1] at S' step
  have hlt : adr X a < H.size := (Array.getElem?_eq_some_iff.mp c1).1
  have hheap : ((T.setVm vm').setCell (adr X a) (arrV (xK X 101) n1 (fun j => .int (va_cpy (mI M a0) (mI M a) sp dp n j)))).heap = H.setIfInBounds (adr X a) (arrV (xK X 101) n1 (fun j => .int (va_cpy (mI M a0) (mI M a) sp dp n j))) := by rw [← hT]; rfl
  have oq : ∀ q : Nat, q ≠ adr X a → (H.setIfInBounds (adr X a) (arrV (xK X 101) n1 (fun j => .int (va_cpy (mI M a0) (mI M a) sp dp n j))))[q]? = H[q]? := fun q hq => by simp [Array.getElem?_setIfInBounds, Ne.symm hq]
  have ev : vv X (cpyI M a0 a sp dp n) a = fun j => .int (va_cpy (mI M a0) (mI M a) sp dp n j) := by
    funext j
    rw [vv_i (M := cpyI M a0 a sp dp n) (t := 101) (show (mT M a).1 = 101 by rw [hT1]) rfl]
    show Value.int (if a = a then _ else _) = _
    rw [if_pos rfl]
  have hM' : Sm X (cpyI M a0 a sp dp n) (H.setIfInBounds (adr X a) (arrV (xK X 101) n1 (fun j => .int (va_cpy (mI M a0) (mI M a) sp dp n j)))) := by
    refine hM.put g1 rfl rfl (fun b hb => vv_cpy_ne hb) (by simp) oq ⟨fun q => absurd q (by show ¬ (mT M a).1 < 100; rw [hT1]; show ¬ (101 : Nat) < 100; decide), fun _ => ?_⟩
    show _ = some (arrV (xK X (mT M a).1) (mT M a).2 (vv X (cpyI M a0 a sp dp n) a))
    rw [ev, hT1]
    simp [Array.getElem?_setIfInBounds, hlt]
  obtain ⟨t, a1, b1⟩ := k p e s m args below meth c _ _ cells slots lr F hM' ⟨by simp; exact hS.1, fun q q1 q2 => by
      rw [oq q (fun e => q2 (by rw [e]; exact h_A g1))]
      exact hS.2.1 q q1 q2, fun q hq => by
      rcases List.mem_append.mp hq with h | h
      · exact hS.2.2 q h
      · obtain ⟨z, -, hz⟩ := List.mem_map.mp h
        rw [← hz]
        exact h_A g1⟩ hc hs hl _ hheap S'
  exact ⟨t, step t a1, b1⟩
end JDK
/-- a byte as an int -/
abbrev sb (x : Int32) : Int32 := x.toInt8.toInt32
theorem sb_fits (x : Int32) : fits .byte (.int (sb x)) = true := by
  have h1 := Int8.le_toInt x.toInt8
  have h2 := Int8.toInt_lt x.toInt8
  have e : (sb x).toInt = x.toInt8.toInt := Int8.toInt_toInt32 _
  show (decide (-128 ≤ sb x) && decide (sb x ≤ 127)) = true
  rw [Bool.and_eq_true, decide_eq_true_eq, decide_eq_true_eq, Int32.le_iff_toInt_le, Int32.le_iff_toInt_le, e]
  have a : (-128 : Int32).toInt = -128 := by decide
  have b : (127 : Int32).toInt = 127 := by decide
  rw [a, b]
  constructor <;> omega

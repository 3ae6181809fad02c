theorem cfw_Block : ∀ k, k < 6 → u_lay "InterleavedLink$Block" T_Block k ∈ gW
  | 0, _ => gW_in 444 (by decide +kernel) rfl
  | 1, _ => gW_in 446 (by decide +kernel) rfl
  | 2, _ => gW_in 448 (by decide +kernel) rfl
  | 3, _ => gW_in 450 (by decide +kernel) rfl
  | 4, _ => gW_in 452 (by decide +kernel) rfl
  | 5, _ => gW_in 454 (by decide +kernel) rfl
  | (_ + 6), h => absurd h (by omega)
theorem cf_Block : cF 11 "InterleavedLink$Block" T_Block 6 := ⟨by decide, rfl, fun w hw => by
  obtain ⟨k, hk, rfl⟩ := List.mem_map.mp hw
  exact cfw_Block k (List.mem_range.mp hk), by decide +kernel, ty_Block, by decide +kernel⟩
theorem cfw_Frame : ∀ k, k < 7 → u_lay "InterleavedLink$Frame" T_Frame k ∈ gW
  | 0, _ => gW_in 533 (by decide +kernel) rfl
  | 1, _ => gW_in 535 (by decide +kernel) rfl
  | 2, _ => gW_in 537 (by decide +kernel) rfl
  | 3, _ => gW_in 539 (by decide +kernel) rfl
  | 4, _ => gW_in 541 (by decide +kernel) rfl
  | 5, _ => gW_in 543 (by decide +kernel) rfl
  | 6, _ => gW_in 545 (by decide +kernel) rfl
  | (_ + 7), h => absurd h (by omega)
theorem cf_Frame : cF 12 "InterleavedLink$Frame" T_Frame 7 := ⟨by decide, rfl, fun w hw => by
  obtain ⟨k, hk, rfl⟩ := List.mem_map.mp hw
  exact cfw_Frame k (List.mem_range.mp hk), by decide +kernel, ty_Frame, by decide +kernel⟩
/-! ===== what holds as the law begins: the numbers of classes and slots, the old cells ===== -/
theorem st_cl {s : State} {args : Array Value} (hts : ∀ w ∈ gW, w.before args s = true) {ci : Nat} {C : String} {T : u_T} {N : Nat} (h : cF ci C T N) (hi : Cond.instantiable C N ∈ gW) : ∃ z : ClassId × (Nat → Nat), ∀ q : vw_C, vwCl[ci]? = some q → u_Kn s q.1 q.2.1 q.2.2 z.1 z.2 := by
  obtain ⟨h1, h2, h3, h4⟩ := h
  obtain ⟨cC, iS, hK⟩ := u_known (C := C) (T := T) (N := N) hts h3 (hts _ hi)
  refine ⟨(cC, iS), fun q hq => ?_⟩
  obtain rfl : (C, T, N) = q := Option.some.inj (h2.symm.trans hq)
  exact hK
theorem st_cls {s : State} {args : Array Value} (hts : ∀ w ∈ gW, w.before args s = true) : ∀ ci : Nat, ∃ z : ClassId × (Nat → Nat), ∀ q : vw_C, vwCl[ci]? = some q → u_Kn s q.1 q.2.1 q.2.2 z.1 z.2
  | 0 => st_cl hts cf_Link (gW_in 81 (by decide +kernel) rfl)
  | 1 => st_cl hts cf_Pipe (gW_in 89 (by decide +kernel) rfl)
  | 2 => st_cl hts cf_End (gW_in 109 (by decide +kernel) rfl)
  | 3 => st_cl hts cf_FList (gW_in 115 (by decide +kernel) rfl)
  | 4 => st_cl hts cf_Enc (gW_in 144 (by decide +kernel) rfl)
  | 5 => st_cl hts cf_Table (gW_in 150 (by decide +kernel) rfl)
  | 6 => st_cl hts cf_Dec (gW_in 194 (by decide +kernel) rfl)
  | 7 => st_cl hts cf_Sett (gW_in 212 (by decide +kernel) rfl)
  | 8 => st_cl hts cf_Stream (gW_in 230 (by decide +kernel) rfl)
  | 9 => st_cl hts cf_BQ (gW_in 236 (by decide +kernel) rfl)
  | 10 => st_cl hts cf_Mod (gW_in 856 (by decide +kernel) rfl)
  | 11 => st_cl hts cf_Block (gW_in 426 (by decide +kernel) rfl)
  | 12 => st_cl hts cf_Frame (gW_in 514 (by decide +kernel) rfl)
  | (n + 13) => ⟨(0, fun _ => 0), fun q h => by simp [vwCl] at h⟩
theorem st_arr {s : State} {args : Array Value} {ty : FieldType} (h : (Cond.arrayClass ty).before args s = true) (hR : ∀ cA, s.vm.findClass ("[" ++ ty.toString) = some cA → va_RA s cA ty) : ∃ cA : ClassId, ArrOfT s cA ty ∧ va_RA s cA ty := by
  obtain ⟨cA, kA, comp, h1, h2, h3⟩ := Cond.arrayClass_spec h
  exact ⟨cA, fun n z => ⟨fun k h => (by cases h), kA, h2, comp, h3⟩, hR cA h1⟩
theorem st_ao {s : State} {C : String} (h : va_AO C s) : ∃ cA : ClassId, ArrOfT s cA (.object C) ∧ va_RA s cA (.object C) := by
  obtain ⟨comp, c, k, h1, h2, h3, h4, h5⟩ := Cond.arrayOver_spec h
  exact ⟨c, fun n z => ⟨fun k h => (by cases h), k, h3, comp, h4⟩, k, comp, h3, h4, h1, h5⟩
def fixN : Nat → Int32 := fun j => match j with
  | 0 => 0
  | 1 => 0
  | 2 => 1
  | 3 => 2
  | 4 => 2
  | _ => 3
def fixV : Nat → Int32 := fun j => match j with
  | 0 => 0
  | 1 => 1
  | 2 => 0
  | 3 => 20
  | 4 => 40
  | _ => 0
/-- what the Statement gives of the two static tables -/
theorem st_fix {args : Array Value} {s : State} (h : (Jvm.Cond.and given_1 narrow_1).before args s = true) (hts : ∀ w ∈ lw_tbl, w.before args s = true) {A : Nat → Prop} (hA : ∀ a : Nat, a < s.heap.size → ¬ A a) :
    (∃ t : Nat, va_Z fixC "FIXED_NAMES" "[I" (.ref t) A s s.heap ∧ va_T .int t 6 (fun j => .int (fixN j)) A s s.heap) ∧ ∃ t : Nat, va_Z fixC "FIXED_VALUES" "[I" (.ref t) A s s.heap ∧ va_T .int t 6 (fun j => .int (fixV j)) A s s.heap := by
  have hs := flat_of_before _ h
  constructor
  · obtain ⟨t, h1, h2⟩ := va_Tof (args := args) (s := s) (tm := .static "InterleavedLink" "FIXED_NAMES" "[I") (ty := .int) (N := 6) (f := fun j => .int (fixN j)) (A := A) (by decide) (hs _ (by decide +kernel)) (va_eqt (hs _ (by decide +kernel))) (fun j hj => by
      rcases (by omega : j = 0 ∨ j = 1 ∨ j = 2 ∨ j = 3 ∨ j = 4 ∨ j = 5) with rfl | rfl | rfl | rfl | rfl | rfl
      · exact va_eqt (z := 0) (hs _ (by decide +kernel))
      · exact va_eqt (z := 0) (hs _ (by decide +kernel))
      · exact va_eqt (z := 1) (hs _ (by decide +kernel))
      · exact va_eqt (z := 2) (hs _ (by decide +kernel))
      · exact va_eqt (z := 2) (hs _ (by decide +kernel))
      · exact va_eqt (z := 3) (hs _ (by decide +kernel))) hA
    exact ⟨t, va_Zof (hts _ (List.mem_of_getElem? (i := 490) (by decide +kernel))) (hts _ (List.mem_of_getElem? (i := 64) (by decide +kernel))) h1 hA, h2⟩
  · obtain ⟨t, h1, h2⟩ := va_Tof (args := args) (s := s) (tm := .static "InterleavedLink" "FIXED_VALUES" "[I") (ty := .int) (N := 6) (f := fun j => .int (fixV j)) (A := A) (by decide) (hs _ (by decide +kernel)) (va_eqt (hs _ (by decide +kernel))) (fun j hj => by
      rcases (by omega : j = 0 ∨ j = 1 ∨ j = 2 ∨ j = 3 ∨ j = 4 ∨ j = 5) with rfl | rfl | rfl | rfl | rfl | rfl
      · exact va_eqt (z := 0) (hs _ (by decide +kernel))
      · exact va_eqt (z := 1) (hs _ (by decide +kernel))
      · exact va_eqt (z := 0) (hs _ (by decide +kernel))
      · exact va_eqt (z := 20) (hs _ (by decide +kernel))
      · exact va_eqt (z := 40) (hs _ (by decide +kernel))
      · exact va_eqt (z := 0) (hs _ (by decide +kernel))) hA
    exact ⟨t, va_Zof (hts _ (List.mem_of_getElem? (i := 500) (by decide +kernel))) (hts _ (List.mem_of_getElem? (i := 64) (by decide +kernel))) h1 hA, h2⟩
/-- the law's entry, in my words -/
theorem st_env {p : Program} {s : State} {m : MethodId} {meth : Method} {c : Code} {b L : Nat} {xs : Nat → Int32} (hx : p.tables.exec = Jvm.exec) (hb : c.code = code) (hr : meth.sig.returnType = some .boolean) (hml : c.maxLocals = 4) (hown : s.vm.findClass "InterleavedLinkLaw" = some m.cls) (hts : ∀ w ∈ lw_tbl, w.before #[Value.ref b] s = true) (hcw : (wC uLaw).before #[Value.ref b] s = true) (hX : va_X b L xs s s.heap) (hbl : b < s.heap.size) (hlk : meth.locks = false) (hnm : meth.name = "law") (hgv : (Jvm.Cond.and given_1 narrow_1).before #[Value.ref b] s = true) :
    ∃ X : mX, Fx X uLaw p s m #[Value.ref b] meth c ∧ Sm X m00 s.heap ∧ xB X = s.heap.size ∧ xO X 0 = b ∧ xL X 0 = L ∧ xI X 0 = xs ∧ xL X 1 = 6 ∧ xI X 1 = fixN ∧ xL X 2 = 6 ∧ xI X 2 = fixV := by
  have htg : ∀ w ∈ gW, w.before #[Value.ref b] s = true := fun w h => hts w (List.mem_filter.mp h).1
  have hA : ∀ a : Nat, a < s.heap.size → ¬ (fun q => s.heap.size ≤ q) a := fun a h q => by
    have q : s.heap.size ≤ a := q
    omega
  obtain ⟨⟨t1, z1, y1⟩, t2, z2, y2⟩ := st_fix hgv hts hA
  have AO : ∀ k, k < 7 → va_AO (aoC k) s := by
    have o4 : va_AO "InterleavedLink$Frame" s := va_AO.of (hts _ (List.mem_of_getElem? (i := 95) (by decide +kernel)))
    have o5 : va_AO "InterleavedLink$Stream" s := va_AO.of (hts _ (List.mem_of_getElem? (i := 210) (by decide +kernel)))
    have o6 : va_AO "InterleavedLink$End" s := va_AO.of (hts _ (List.mem_of_getElem? (i := 108) (by decide +kernel)))
    intro k hk
    rcases (by omega : k = 4 ∨ k = 5 ∨ k = 0 ∨ k = 1 ∨ k = 2 ∨ k = 3 ∨ k = 6) with rfl | rfl | rfl | rfl | rfl | rfl | rfl <;> first | exact o4 | exact o5 | exact o6
  obtain ⟨a0, b0⟩ := st_arr (ty := .int) (htg _ (gW_in 141 (by decide +kernel) rfl)) (fun _ h => h)
  obtain ⟨a1, b1⟩ := st_arr (ty := .byte) (htg _ (gW_in 250 (by decide +kernel) rfl)) (fun _ h => h)
  obtain ⟨a2, b2⟩ := st_arr (ty := .boolean) (htg _ (gW_in 142 (by decide +kernel) rfl)) (fun _ h => h)
  obtain ⟨a3, b3⟩ := st_arr (ty := .long) (htg _ (gW_in 1030 (by decide +kernel) rfl)) (fun _ h => h)
  obtain ⟨a4, b4⟩ := st_ao (AO 4 (by decide))
  obtain ⟨a5, b5⟩ := st_ao (AO 5 (by decide))
  obtain ⟨a6, b6⟩ := st_ao (AO 6 (by decide))
  have hch := fun ci => Classical.choose_spec (st_cls htg ci)
  let X : mX := ((fun ci => (Classical.choose (st_cls htg ci)).1, fun ci => (Classical.choose (st_cls htg ci)).2), fun t => match t with
    | 100 => a0
    | 101 => a1
    | 102 => a2
    | 103 => a3
    | 104 => a4
    | 105 => a5
    | _ => a6, s.heap.size, fun a => match a with
    | 0 => b
    | 1 => t1
    | _ => t2, fun a => match a with
    | 0 => L
    | _ => 6, fun a => match a with
    | 0 => xs
    | 1 => fixN
    | _ => fixV)
  have hK : va_K (xD X) vwCl (mTys X) s := by
    refine ⟨fun ci q hq => hch ci q hq, fun k q hk => ?_⟩
    have hk7 : k < 7 := (List.getElem?_eq_some_iff.mp hk).1
    rcases (by omega : k = 0 ∨ k = 1 ∨ k = 2 ∨ k = 3 ∨ k = 4 ∨ k = 5 ∨ k = 6) with rfl | rfl | rfl | rfl | rfl | rfl | rfl <;> (cases hk; first | exact b0 | exact b1 | exact b2 | exact b3 | exact b4 | exact b5 | exact b6)
  have hT0 : va_T .int b L (fun j => .int (xs j)) (xA X) s s.heap := by
    obtain ⟨scr, h1, h2, h3, h4, h5⟩ := hX
    exact ⟨scr, h1, h2, h3, by omega, by rw [h4], h5, hA b hbl⟩
  have hO : mOd X s := ⟨hK, fun w hw => va_Nw.of (gN_tab hw) (hts w (List.mem_filter.mp hw).1), AO, z1, z2, fun a ha => by
    rcases (by omega : a = 0 ∨ a = 1 ∨ a = 2) with rfl | rfl | rfl
    · exact hT0
    · exact y1
    · exact y2⟩
  refine ⟨X, ⟨hx, hb, hr, hml, hown, fun w hw => ?_, hlk, hnm, hO, Nat.le_refl _⟩, ⟨rfl, Nat.le_refl _, fun a _ => rfl, fun a h1 h2 => absurd h2 (by show ¬ a < 3; omega)⟩, rfl, rfl, rfl, rfl, rfl, rfl, rfl, rfl⟩
  rcases List.mem_cons.mp hw with rfl | hw
  · exact hcw
  · exact htg w hw

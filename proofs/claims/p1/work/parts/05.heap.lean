/-! ===== cells: reading, writing, making ===== -/
theorem Sm.alloc {X : mX} {M : mM} {H : Heap} (h : Sm X M H) {a : Nat} (ha : (mT M a).1 ≠ 999) : 3 ≤ a ∧ a < mN M := Classical.byContradiction fun q => ha (h.2.2.1 a q)
theorem adr_own (X : mX) {a : Nat} (h : 3 ≤ a) : adr X a = xB X + (a - 3) := if_neg (by omega)
theorem adr_ne (X : mX) {a b : Nat} (ha : 3 ≤ a) (hb : 3 ≤ b) (h : b ≠ a) : adr X b ≠ adr X a := by
  rw [adr_own X ha, adr_own X hb]; omega
theorem adr_new {X : mX} {M : mM} {H : Heap} (h : Sm X M H) : adr X (mN M) = H.size := by
  rw [adr_own X h.2.1]; have := h.1; have := h.2.1; omega
theorem mAt.kept {X : mX} {M M' : mM} {H H' : Heap} {a : Nat} (h : mAt X M H a) (hT : mT M' a = mT M a) (hv : vv X M' a = vv X M a) (hH : H'[adr X a]? = H[adr X a]?) : mAt X M' H' a := by
  unfold mAt
  rw [hT, hv]
  refine ⟨fun q => ?_, fun q => ?_⟩
  · obtain ⟨r, h1, h2⟩ := h.1 q
    exact ⟨r, h1, h2.kept hH⟩
  · rw [hH]; exact h.2 q
/-- one cell has changed -/
theorem Sm.put {X : mX} {M M' : mM} {H H' : Heap} {a : Nat} (h : Sm X M H) (ha : 3 ≤ a) (hN : mN M' = mN M) (hT : mT M' = mT M) (hv : ∀ b, b ≠ a → vv X M' b = vv X M b) (hz : H'.size = H.size) (hk : ∀ q, q ≠ adr X a → H'[q]? = H[q]?) (hc : mAt X M' H' a) : Sm X M' H' := by
  refine ⟨by rw [hz, hN]; exact h.1, by rw [hN]; exact h.2.1, fun b hb => by rw [hT]; exact h.2.2.1 b (by rw [hN] at hb; exact hb), fun b h3 hb => ?_⟩
  by_cases e : b = a
  · subst e; exact hc
  · exact (h.2.2.2 b h3 (by rw [hN] at hb; exact hb)).kept (by rw [hT]) (hv b e) (hk _ (adr_ne X ha h3 e))
theorem vk_0 {n : Nat} {x : Int32} {y : Int64} {o : Option Nat} (h : n = 0) : vk n x y o = .int x := if_pos h
theorem vk_1 {n : Nat} {x : Int32} {y : Int64} {o : Option Nat} (h : n = 1) : vk n x y o = .long y := by unfold vk; rw [if_neg (by omega), if_pos h]
theorem vk_2 {n : Nat} {x : Int32} {y : Int64} {o : Option Nat} (h : n = 2) : vk n x y o = va_rf o := by unfold vk; rw [if_neg (by omega), if_neg (by omega)]
theorem vv_i {X : mX} {M : mM} {a k t : Nat} (hT : (mT M a).1 = t) (h : fk t k = 0) : vv X M a k = .int (mI M a k) := vk_0 (by rw [hT]; exact h)
theorem vv_l {X : mX} {M : mM} {a k t : Nat} (hT : (mT M a).1 = t) (h : fk t k = 1) : vv X M a k = .long (mL M a k) := vk_1 (by rw [hT]; exact h)
theorem vv_r {X : mX} {M : mM} {a k t : Nat} (hT : (mT M a).1 = t) (h : fk t k = 2) : vv X M a k = va_rf ((mR M a k).map (adr X)) := vk_2 (by rw [hT]; exact h)
theorem vv_setI_ne {X : mX} {M : mM} {a k b : Nat} {x : Int32} (h : b ≠ a) : vv X (setI M a k x) b = vv X M b := by
  funext j
  show vk (fk (mT M b).1 j) (up2 (mI M) a k x b j) (mL M b j) ((mR M b j).map (adr X)) = vv X M b j
  rw [up2_ne (fun q => h q.1)]
  rfl
theorem vv_setI {X : mX} {M : mM} {a k t : Nat} {x : Int32} (hT : (mT M a).1 = t) (h : fk t k = 0) : vv X (setI M a k x) a = updV (vv X M a) k (.int x) := by
  funext j
  by_cases e : j = k
  · subst e
    rw [vv_i (M := setI M a j x) hT h]
    show _ = if j = j then _ else _
    rw [if_pos rfl]
    show Value.int (up2 (mI M) a j x a j) = _
    rw [up2_same]
  · show vk (fk (mT M a).1 j) (up2 (mI M) a k x a j) (mL M a j) ((mR M a j).map (adr X)) = if j = k then _ else vv X M a j
    rw [if_neg e, up2_ne (fun q => e q.2)]
    rfl
theorem vv_setL_ne {X : mX} {M : mM} {a k b : Nat} {x : Int64} (h : b ≠ a) : vv X (setL M a k x) b = vv X M b := by
  funext j
  show vk (fk (mT M b).1 j) (mI M b j) (up2 (mL M) a k x b j) ((mR M b j).map (adr X)) = vv X M b j
  rw [up2_ne (fun q => h q.1)]
  rfl
theorem vv_setL {X : mX} {M : mM} {a k t : Nat} {x : Int64} (hT : (mT M a).1 = t) (h : fk t k = 1) : vv X (setL M a k x) a = updV (vv X M a) k (.long x) := by
  funext j
  by_cases e : j = k
  · subst e
    rw [vv_l (M := setL M a j x) hT h]
    show _ = if j = j then _ else _
    rw [if_pos rfl]
    show Value.long (up2 (mL M) a j x a j) = _
    rw [up2_same]
  · show vk (fk (mT M a).1 j) (mI M a j) (up2 (mL M) a k x a j) ((mR M a j).map (adr X)) = if j = k then _ else vv X M a j
    rw [if_neg e, up2_ne (fun q => e q.2)]
    rfl
theorem vv_setR_ne {X : mX} {M : mM} {a k b : Nat} {x : Option Nat} (h : b ≠ a) : vv X (setR M a k x) b = vv X M b := by
  funext j
  show vk (fk (mT M b).1 j) (mI M b j) (mL M b j) ((up2 (mR M) a k x b j).map (adr X)) = vv X M b j
  rw [up2_ne (fun q => h q.1)]
  rfl
theorem vv_setR {X : mX} {M : mM} {a k t : Nat} {x : Option Nat} (hT : (mT M a).1 = t) (h : fk t k = 2) : vv X (setR M a k x) a = updV (vv X M a) k (va_rf (x.map (adr X))) := by
  funext j
  by_cases e : j = k
  · subst e
    rw [vv_r (M := setR M a j x) hT h]
    show _ = if j = j then _ else _
    rw [if_pos rfl]
    show va_rf ((up2 (mR M) a j x a j).map (adr X)) = _
    rw [up2_same]
  · show vk (fk (mT M a).1 j) (mI M a j) (mL M a j) ((up2 (mR M) a k x a j).map (adr X)) = if j = k then _ else vv X M a j
    rw [if_neg e, up2_ne (fun q => e q.2)]
    rfl
/-! fields -/
def tk : FieldType → Nat
  | .long => 1
  | .object _ => 2
  | .array _ => 2
  | .float => 9
  | .double => 9
  | _ => 0
/-- a class of ours: its place, name, fields, and what the tables say of them -/
def cF (ci : Nat) (C : String) (T : u_T) (N : Nat) : Prop := ci < 100 ∧ vwCl[ci]? = some (C, T, N) ∧ (∀ w ∈ u_ws C T N, w ∈ gW) ∧ (∀ a, a < N → ∀ b, b < N → a ≠ b → (T a).2.1 ≠ (T b).2.1) ∧ ∃ ty : Nat → FieldType, ∀ k, k < N → parseFieldDescriptor (T k).2.2.1 = some (ty k) ∧ tk (ty k) = fk ci k
/-- a place where a field of class ci is named: by a class's own link or by a nest mate's -/
def fS (own : String) (idx ci k : Nat) : Prop := ∃ (C : String) (T : u_T) (N : Nat), cF ci C T N ∧ k < N ∧ (Cond.fieldLink own idx (T k).1 (T k).2.1 (T k).2.2.1 ∈ gW ∨ ∃ host, Cond.fieldLinkNest own idx (T k).1 (T k).2.1 (T k).2.2.1 host ∈ gN)
/-- .. and written, in the method of name nm; ty its type -/
def pS (own nm : String) (idx ci k : Nat) (ty : FieldType) : Prop := ∃ (C : String) (T : u_T) (N : Nat), cF ci C T N ∧ k < N ∧ parseFieldDescriptor (T k).2.2.1 = some ty ∧
  (((T k).2.2.2 = false ∧ (Cond.fieldLink own idx (T k).1 (T k).2.1 (T k).2.2.1 ∈ gW ∨ ∃ host, Cond.fieldLinkNest own idx (T k).1 (T k).2.1 (T k).2.2.1 host ∈ gN)) ∨ ((T k).2.2.2 = true ∧ nm = "<init>" ∧ (T k).1 = own ∧ Cond.fieldLink own idx (T k).1 (T k).2.1 (T k).2.2.1 ∈ gW))
section GH
variable {X : mX} {l : Launch} {u : mU} {rm : Room} {p : Program} {e : Env} {s : State} {m : MethodId} {args : Array Value} {below : List Frame} {meth : Method} {c : Code} {H : Heap} {locs : List Loc} {cells slots : Nat} {Qs : State → Prop} {M : mM} {pc : Nat} {lr : Array Slot} {rest : List Value}
theorem h_get (F : Fx X u p s m args meth c) (hM : Sm X M H) {a ci k idx : Nat} (hT : (mT M a).1 = ci) (hs : fS u.1.cls idx ci k) (hd : decode u.2.1 pc = .ok (.getfield idx, 3))
    (kk : W p l e rm s m args below meth c H locs cells slots Qs (F0 m (pc + 3) lr (vv X M a k :: rest))) : W p l e rm s m args below meth c H locs cells slots Qs (F0 m pc lr (.ref (adr X a) :: rest)) := by
  obtain ⟨C, T, N, ⟨hci, hcl, hin, hnm, ty, hty⟩, hk, hlk⟩ := hs
  obtain ⟨h3, hlt⟩ := hM.alloc (a := a) (by rw [hT]; omega)
  obtain ⟨r, h1, cell, q1, q2, q3, q4⟩ := (hM.2.2.2 a h3 hlt).1 (by rw [hT]; exact hci)
  rw [hT] at h1 q2 q4
  have hr : r = (C, T, N) := Option.some.inj (h1.symm.trans hcl)
  subst hr
  obtain ⟨hx, hb, -, -, hown, hts, -, -, hO, -⟩ := F
  obtain ⟨hS1, hfc, kC, hkC, hkind⟩ := hO.1.1 ci _ hcl
  obtain ⟨cf, kf, fi, f, hi, hsl⟩ := hS1 k hk
  have hst := (u_facts hfc hkC (u_lays hts (fun w h => List.mem_cons_of_mem _ (hin w h)) hk) hi).1
  have hv : cell.slots[f.slot]? = some (vv X M a k) := by rw [hsl]; exact q4 k hk
  rcases hlk with hlk | ⟨host, hlk⟩
  · exact W.getf hx hb hown (hts _ (List.mem_cons_of_mem _ hlk)) hi hst q1 (by rw [q3]; exact fun h => by cases h) hv rfl rfl hd kk
  · exact va_Wgetf hx hb hown (va_Nw.use (gN_tab hlk) (hO.2.1 _ hlk)) hi hst q1 (by rw [q3]; exact fun h => by cases h) hv rfl rfl hd kk
theorem h_put (F : Fx X u p s m args meth c) (hM : Sm X M H) (hS : va_S (xA X) s.heap H locs) {a ci k idx : Nat} {ty : FieldType} {v : Value} {M' : mM} (hT : (mT M a).1 = ci) (hs : pS u.1.cls u.1.name idx ci k ty) (hn : narrow ty v = v) (hf : fits ty v = true) (hd : decode u.2.1 pc = .ok (.putfield idx, 3))
    (hN : mN M' = mN M) (hT' : mT M' = mT M) (hv : ∀ b, b ≠ a → vv X M' b = vv X M b) (hva : vv X M' a = updV (vv X M a) k v)
    (kk : ∀ (H1 : Heap) (locs1 : List Loc), Sm X M' H1 → va_S (xA X) s.heap H1 locs1 → W p l e rm s m args below meth c H1 locs1 cells slots Qs (F0 m (pc + 3) lr rest)) : W p l e rm s m args below meth c H locs cells slots Qs (F0 m pc lr (v :: .ref (adr X a) :: rest)) := by
  obtain ⟨C, T, N, ⟨hci, hcl, hin, hnm, ty0, hty⟩, hk, hpd, hlk⟩ := hs
  obtain ⟨h3, hlt⟩ := hM.alloc (a := a) (by rw [hT]; omega)
  obtain ⟨r, h1, cell, q1, q2, q3, q4⟩ := (hM.2.2.2 a h3 hlt).1 (by rw [hT]; exact hci)
  rw [hT] at h1 q2 q4
  have hr : r = (C, T, N) := Option.some.inj (h1.symm.trans hcl)
  subst hr
  obtain ⟨hx, hb, -, -, hown, hts, -, hname, hO, -⟩ := F
  have hin' : ∀ w ∈ u_ws C T N, w ∈ wC u :: gW := fun w h => List.mem_cons_of_mem _ (hin w h)
  have hap := va_apart (own := u.1.cls) hts hin' ty0 (fun k hk => (hty k hk).1) hnm hO.1 hcl
  obtain ⟨hS1, hfc, kC, hkC, hkind⟩ := hO.1.1 ci _ hcl
  obtain ⟨cf, kf, fi, f, hi, hsl⟩ := hS1 k hk
  have hst := (u_facts hfc hkC (u_lays hts hin' hk) hi).1
  have hlay := hts _ (hin' _ (u_in_lay hk))
  have hA : xA X (adr X a) := by show xB X ≤ _; rw [adr_own X h3]; omega
  have fin : ∀ H' : Heap, H'[adr X a]? = some (cell.setSlot f.slot v) → H'.size = H.size → (∀ q, q ≠ adr X a → H'[q]? = H[q]?) → W p l e rm s m args below meth c H' (locs ++ [⟨adr X a, f.slot⟩]) cells slots Qs (F0 m (pc + 3) lr rest) := by
    intro H' e1 e2 e3
    refine kk H' _ (hM.put h3 hN hT' hv e2 e3 ⟨fun _ => ⟨(C, T, N), ?_, ?_⟩, fun q => absurd (show (mT M' a).1 < 100 by rw [hT', hT]; exact hci) q⟩) (hS.put e2 e3 hA)
    · rw [hT', hT]; exact hcl
    · rw [hT', hT, hva]
      rw [hsl] at e1
      exact ⟨_, e1, q2, q3, t_set q4 hap hk v⟩
  rcases hlk with ⟨hfin, hlk⟩ | ⟨hfin, hnm2, hdecl, hlk⟩
  · unfold u_lay at hlay
    rw [if_neg (by rw [hfin]; decide)] at hlay
    have h6 := u_store hfc hkC hkind hlay hi hpd hn hf
    rcases hlk with hlk | ⟨host, hlk⟩
    · exact W.putK hx hb (f := f) ⟨hown, hts _ (List.mem_cons_of_mem _ hlk), ⟨_, _, _, hi⟩, hst⟩ (by rw [q2]; exact h6) q1 q3 (by rw [hsl]; exact k2_hasslot (q4 k hk)) rfl rfl hd fin
    · exact va_WputK hx hb (f := f) hown (va_Nw.use (gN_tab hlk) (hO.2.1 _ hlk)) hi hst (by rw [q2]; exact h6) q1 q3 (by rw [hsl]; exact k2_hasslot (q4 k hk)) rfl rfl hd fin
  · unfold u_lay at hlay
    rw [if_pos hfin] at hlay
    have hcf : m.cls = cf := by
      obtain ⟨_, _, c', _, _, _, -, -, hf', -, -, -, hown2, -⟩ := Cond.laysFinal_spec hlay
      have e1 : c' = cf := by have := hi.symm.trans hf'; simp at this; exact this.1.symm
      rw [hdecl] at hown2
      rw [← e1]; exact Option.some.inj (hown.symm.trans hown2)
    have h6 := u_fits hfc hkC hkind (Or.inr hlay) hi hpd hn hf
    exact W.putFinK hx hb hown (hts _ (List.mem_cons_of_mem _ hlk)) hi hst hcf (hname.trans hnm2) (by rw [q2]; exact h6) q1 q3 (by rw [hsl]; exact k2_hasslot (q4 k hk)) rfl rfl hd fin
end GH
section GF
variable {X : mX} {l : Launch} {u : mU} {rm : Room} {bc bs : Nat} {M : mM} {ls : List (Option Value)} {st : List Value} {Q : Option Value → mM → Prop}
theorem g_geti (pc : Nat) {a idx : Nat} (ci k : Nat) (hd : decode u.2.1 pc = .ok (.getfield idx, 3)) (hs : fS u.1.cls idx ci k) (hk : fk ci k = 0) (hT : (mT M a).1 = ci) (kk : G X l u rm bc bs M (pc + 3) ls (.int (mI M a k) :: st) Q) : G X l u rm bc bs M pc ls (.ref a :: st) Q :=
  fun p e s m args below meth c H locs cells slots lr F hM hS hc hs' hl => h_get F hM hT hs hd (by rw [vv_i hT hk]; exact kk p e s m args below meth c H locs cells slots lr F hM hS hc hs' hl)
theorem g_getl (pc : Nat) {a idx : Nat} (ci k : Nat) (hd : decode u.2.1 pc = .ok (.getfield idx, 3)) (hs : fS u.1.cls idx ci k) (hk : fk ci k = 1) (hT : (mT M a).1 = ci) (kk : G X l u rm bc bs M (pc + 3) ls (.long (mL M a k) :: st) Q) : G X l u rm bc bs M pc ls (.ref a :: st) Q :=
  fun p e s m args below meth c H locs cells slots lr F hM hS hc hs' hl => h_get F hM hT hs hd (by rw [vv_l hT hk]; exact kk p e s m args below meth c H locs cells slots lr F hM hS hc hs' hl)
theorem g_getr (pc : Nat) {a idx b : Nat} (ci k : Nat) (hd : decode u.2.1 pc = .ok (.getfield idx, 3)) (hs : fS u.1.cls idx ci k) (hk : fk ci k = 2) (hT : (mT M a).1 = ci) (hr : mR M a k = some b) (kk : G X l u rm bc bs M (pc + 3) ls (.ref b :: st) Q) : G X l u rm bc bs M pc ls (.ref a :: st) Q :=
  fun p e s m args below meth c H locs cells slots lr F hM hS hc hs' hl => h_get F hM hT hs hd (by rw [vv_r hT hk, hr]; exact kk p e s m args below meth c H locs cells slots lr F hM hS hc hs' hl)
theorem g_getN (pc : Nat) {a idx : Nat} (ci k : Nat) (hd : decode u.2.1 pc = .ok (.getfield idx, 3)) (hs : fS u.1.cls idx ci k) (hk : fk ci k = 2) (hT : (mT M a).1 = ci) (hr : mR M a k = none) (kk : G X l u rm bc bs M (pc + 3) ls (.null :: st) Q) : G X l u rm bc bs M pc ls (.ref a :: st) Q :=
  fun p e s m args below meth c H locs cells slots lr F hM hS hc hs' hl => h_get F hM hT hs hd (by rw [vv_r hT hk, hr]; exact kk p e s m args below meth c H locs cells slots lr F hM hS hc hs' hl)
theorem g_puti (pc : Nat) {a idx : Nat} {x : Int32} (ci k : Nat) (hd : decode u.2.1 pc = .ok (.putfield idx, 3)) (hs : pS u.1.cls u.1.name idx ci k .int) (hk : fk ci k = 0) (hT : (mT M a).1 = ci) (kk : G X l u rm bc bs (setI M a k x) (pc + 3) ls st Q) : G X l u rm bc bs M pc ls (.int x :: .ref a :: st) Q :=
  fun p e s m args below meth c H locs cells slots lr F hM hS hc hs' hl => h_put (v := .int x) (M' := setI M a k x) F hM hS hT hs rfl rfl hd rfl rfl (fun _ h => vv_setI_ne h) (vv_setI hT hk) (fun H1 locs1 hM1 hS1 => kk p e s m args below meth c H1 locs1 cells slots lr F hM1 hS1 hc hs' hl)
theorem g_putz (pc : Nat) {a idx : Nat} {x : Int32} (ci k : Nat) (hd : decode u.2.1 pc = .ok (.putfield idx, 3)) (hs : pS u.1.cls u.1.name idx ci k .boolean) (hk : fk ci k = 0) (hz : x = 0 ∨ x = 1) (hT : (mT M a).1 = ci) (kk : G X l u rm bc bs (setI M a k x) (pc + 3) ls st Q) : G X l u rm bc bs M pc ls (.int x :: .ref a :: st) Q :=
  fun p e s m args below meth c H locs cells slots lr F hM hS hc hs' hl => h_put (v := .int x) (M' := setI M a k x) F hM hS hT hs (by rcases hz with rfl | rfl <;> rfl) (by rcases hz with rfl | rfl <;> rfl) hd rfl rfl (fun _ h => vv_setI_ne h) (vv_setI hT hk) (fun H1 locs1 hM1 hS1 => kk p e s m args below meth c H1 locs1 cells slots lr F hM1 hS1 hc hs' hl)
theorem g_putl (pc : Nat) {a idx : Nat} {x : Int64} (ci k : Nat) (hd : decode u.2.1 pc = .ok (.putfield idx, 3)) (hs : pS u.1.cls u.1.name idx ci k .long) (hk : fk ci k = 1) (hT : (mT M a).1 = ci) (kk : G X l u rm bc bs (setL M a k x) (pc + 3) ls st Q) : G X l u rm bc bs M pc ls (.long x :: .ref a :: st) Q :=
  fun p e s m args below meth c H locs cells slots lr F hM hS hc hs' hl => h_put (v := .long x) (M' := setL M a k x) F hM hS hT hs rfl rfl hd rfl rfl (fun _ h => vv_setL_ne h) (vv_setL hT hk) (fun H1 locs1 hM1 hS1 => kk p e s m args below meth c H1 locs1 cells slots lr F hM1 hS1 hc hs' hl)
def isRT : FieldType → Bool
  | .object _ => true
  | .array _ => true
  | _ => false
theorem isRT_n {ty : FieldType} (h : isRT ty = true) (o : Option Nat) : narrow ty (va_rf o) = va_rf o ∧ fits ty (va_rf o) = true := by
  cases ty <;> first | (cases h; done) | (cases o <;> exact ⟨rfl, rfl⟩)
theorem g_putr (pc : Nat) {a idx b : Nat} (ci k : Nat) {ty : FieldType} (hd : decode u.2.1 pc = .ok (.putfield idx, 3)) (hs : pS u.1.cls u.1.name idx ci k ty) (hk : fk ci k = 2) (hty : isRT ty = true) (hT : (mT M a).1 = ci) (kk : G X l u rm bc bs (setR M a k (some b)) (pc + 3) ls st Q) : G X l u rm bc bs M pc ls (.ref b :: .ref a :: st) Q :=
  fun p e s m args below meth c H locs cells slots lr F hM hS hc hs' hl => h_put (v := .ref (adr X b)) (M' := setR M a k (some b)) F hM hS hT hs (isRT_n hty (some (adr X b))).1 (isRT_n hty (some (adr X b))).2 hd rfl rfl (fun _ h => vv_setR_ne h) (vv_setR hT hk) (fun H1 locs1 hM1 hS1 => kk p e s m args below meth c H1 locs1 cells slots lr F hM1 hS1 hc hs' hl)
theorem g_putN (pc : Nat) {a idx : Nat} (ci k : Nat) {ty : FieldType} (hd : decode u.2.1 pc = .ok (.putfield idx, 3)) (hs : pS u.1.cls u.1.name idx ci k ty) (hk : fk ci k = 2) (hty : isRT ty = true) (hT : (mT M a).1 = ci) (kk : G X l u rm bc bs (setR M a k none) (pc + 3) ls st Q) : G X l u rm bc bs M pc ls (.null :: .ref a :: st) Q :=
  fun p e s m args below meth c H locs cells slots lr F hM hS hc hs' hl => h_put (v := .null) (M' := setR M a k none) F hM hS hT hs (isRT_n hty none).1 (isRT_n hty none).2 hd rfl rfl (fun _ h => vv_setR_ne h) (vv_setR hT hk) (fun H1 locs1 hM1 hS1 => kk p e s m args below meth c H1 locs1 cells slots lr F hM1 hS1 hc hs' hl)
end GF

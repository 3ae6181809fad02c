
/-! ===== the fresh memory; every run of calls ===== -/
set_option maxRecDepth 100000 in
set_option maxHeartbeats 4000000 in
theorem fz1 : ∀ e, e < 2 → mI mi (9 + 80 * e) 0 = nI (1 - e) ∧ ∀ k, k < 12 → mI mi (29 + 80 * e + 5 * k) 0 = nI (2 * k + 1) := by decide +kernel
set_option maxRecDepth 100000 in
set_option maxHeartbeats 4000000 in
theorem fz2 : ∀ e, e < 2 → mI mi (4 + 2 * e) 1 = nI 0 ∧ mI mi (4 + 2 * e) 2 = nI 0 ∧ Rhead mi e = nI 0 ∧ Rcount mi e = nI 0 := by decide +kernel
set_option maxRecDepth 100000 in
set_option maxHeartbeats 4000000 in
theorem fz3 : ∀ e, e < 2 → ∀ k, k < 12 → mI mi (30 + 80 * e + 5 * k) 1 = nI 0 ∧ mI mi (32 + 80 * e + 5 * k) 1 = nI 0 ∧ mR mi (29 + 80 * e + 5 * k) 7 = none ∧ Rwaits mi (12 * e + k) = nI 0 ∧ Rcame mi (12 * e + k) = 0 ∧ Rfields mi (12 * e + k) = 0 := by decide +kernel
set_option maxRecDepth 100000 in
set_option maxHeartbeats 4000000 in
theorem fz4 : ∀ e, e < 2 → ∀ g, g < 2 → mI mi (15 + 80 * e + 5 * g) 3 = nI 0 ∧ mI mi (15 + 80 * e + 5 * g) 4 = 0 ∧ mI mi (15 + 80 * e + 5 * g) 5 = 100 ∧ Rsize mi (2 * e + g) = nI 0 ∧ Rmaximum mi (2 * e + g) = 100 := by decide +kernel
set_option maxRecDepth 100000 in
set_option maxHeartbeats 4000000 in
theorem fz5 : ∀ e, e < 2 → mI mi (10 + 80 * e) 3 = nI 0 ∧ mI mi (9 + 80 * e) 14 = nI 0 ∧ Rmaking mi e = nI 0 ∧ Ropen mi e = nI 0 ∧ Runread mi e = nI 0 := by decide +kernel
set_option maxRecDepth 100000 in
set_option maxHeartbeats 4000000 in
theorem fz6 : ∀ e, e < 2 → Rdowns mi e = mI mi (9 + 80 * e) 3 ∧ 40 + RlinkCredit mi e - RlinkSent mi e = mI mi (9 + 80 * e) 4 ∧ RlastData mi e = mI mi (9 + 80 * e) 16 ∧ mI mi (9 + 80 * e) 16 = nI 0 - 1 ∧ mI mi (9 + 80 * e) 5 = nI 40 := by decide +kernel
set_option maxRecDepth 100000 in
set_option maxHeartbeats 4000000 in
theorem fz7 : ∀ e, e < 2 → (Rforce mi (3 * e) = mI mi (26 + 80 * e) 0 ∧ Rforce mi (3 * e + 1) = mI mi (26 + 80 * e) 1 ∧ Rforce mi (3 * e + 2) = mI mi (26 + 80 * e) 2) ∧ (Rtold mi (3 * e + 1) = mI mi (25 + 80 * e) 1 ∧ Rtold mi (3 * e + 2) = mI mi (25 + 80 * e) 2) ∧ RtoldSince mi e = mI mi (14 + 80 * e) 1 ∧ mI mi (14 + 80 * e) 1 = 0 ∧ Rneed mi e = mI mi (19 + 80 * e) 1 ∧ mI mi (19 + 80 * e) 1 = 0 := by decide +kernel
set_option maxRecDepth 100000 in
set_option maxHeartbeats 4000000 in
theorem fz8 : ∀ e, e < 2 → ∀ k, k < 12 → (mI mi (29 + 80 * e + 5 * k) 1 = 0 ∧ mI mi (29 + 80 * e + 5 * k) 2 = 0 ∧ Ropened mi (12 * e + k) = 0 ∧ Rcut mi (12 * e + k) = 0 ∧ RsentEnd mi (12 * e + k) = 0 ∧ RgotEnd mi (12 * e + k) = 0) ∧ (Rsent mi (12 * e + k) = 0 ∧ Rcredit mi (12 * e + k) = 0 ∧ Rgot mi (12 * e + k) = 0 ∧ Rback mi (12 * e + k) = 0) ∧ Rresponded mi (12 * e + k) = mI mi (29 + 80 * e + 5 * k) 5 ∧ RlastSaid mi (12 * e + k) = mI mi (29 + 80 * e + 5 * k) 6 ∧ mI mi (29 + 80 * e + 5 * k) 6 = 0 := by decide +kernel
set_option maxRecDepth 100000 in
set_option maxHeartbeats 4000000 in
theorem fz9 : Rrequests mi = nI 0 ∧ mI mi 9 15 = nI (2 * 0 + 1) := by decide +kernel
def aZ : zA := (mI mi, fun _ => [], fun _ _ => [], fun _ => [], fun _ _ => none, fun _ _ => ([], 100), fun _ => [], fun _ => [])
theorem aZ_I (a j : Nat) : zI aZ a j = mI mi a j := rfl
theorem rc_mi : RC mi aZ := by
  refine ⟨Shp.mi, fun a j _ => rfl, fun e he => fz1 e he, fun e he => ?_, fun e k he hk => ?_, fun e k he hk => ?_, fun e k he hk => ?_, fun e g he hg => ?_, fun e he => ?_, fun e he => ?_⟩
  · obtain ⟨h1, h2, _, _⟩ := fz2 e he
    exact ⟨0, by decide, (by decide : (0 : Nat) < 48), h1, h2, fun j f hf => absurd (show ([] : List zF)[j]? = some f from hf) (by simp)⟩
  · exact ⟨(fz3 e he k hk).1, Nat.zero_le _, fun j x hx => absurd (show ([] : List Int32)[j]? = some x from hx) (by simp)⟩
  · exact ⟨(fz3 e he k hk).2.1, Nat.zero_le _, fun j x hx => absurd (show ([] : List Int32)[j]? = some x from hx) (by simp)⟩
  · exact ⟨fun _ => (fz3 e he k hk).2.2.1, fun L hL => absurd (show (none : Option (List (Int32 × Int32))) = some L from hL) (by simp)⟩
  · obtain ⟨h1, h2, h3, _, _⟩ := fz4 e he g hg
    exact ⟨h1, Nat.zero_le _, h2, h3, fun j x hx => absurd (show ([] : List (Int32 × Int32))[j]? = some x from hx) (by simp)⟩
  · exact ⟨(fz5 e he).1, Nat.zero_le _, fun j x hx => absurd (show ([] : List (Int32 × Int32 × Int32))[j]? = some x from hx) (by simp)⟩
  · exact ⟨(fz5 e he).2.1, Nat.zero_le _, fun j x hx => absurd (show ([] : List (Int32 × Int32))[j]? = some x from hx) (by simp)⟩
theorem rr_mi : RR mi aZ := by
  refine ⟨Shp.mi, fun e he => ⟨(fz6 e he).1, (fz6 e he).2.1, (fz6 e he).2.2.1⟩, fun e he => ?_, ⟨0, by decide, fz9.1, (aZ_I 9 15).trans fz9.2⟩, fun e he => ?_, fun e k he hk => ?_, fun e k he hk => ?_, fun e he => ?_, fun e k he hk => ?_, fun e g he hg => ?_, fun e he => ?_, fun e he => ?_⟩
  · obtain ⟨h1, h2, h3, h4, h5, _⟩ := fz7 e he
    exact ⟨h1, h2, h3, fun q => absurd h4 q, h5⟩
  · obtain ⟨_, _, h1, h2⟩ := fz2 e he
    exact ⟨0, by decide, (by decide : (0 : Nat) < 48), h1, h2, fun j f hf => absurd (show ([] : List zF)[j]? = some f from hf) (by simp)⟩
  · obtain ⟨h1, h2, h3, h4, h5⟩ := fz8 e he k hk
    refine ⟨Or.inl h1, fun _ => h2, fun q => ?_, fun _ => h3, h4⟩
    have q : mI mi (29 + 80 * e + 5 * k) 1 = 1 ∨ mI mi (29 + 80 * e + 5 * k) 1 = 2 ∨ mI mi (29 + 80 * e + 5 * k) 1 = 3 := q
    rw [h1.1] at q
    exact absurd q (by decide)
  · exact ⟨(fz3 e he k hk).2.2.2.1, Nat.zero_le _, fun j x hx => absurd (show ([] : List Int32)[j]? = some x from hx) (by simp)⟩
  · exact ⟨(fz5 e he).2.2.2.2, Nat.zero_le _, fun j x hx => absurd (show ([] : List (Int32 × Int32))[j]? = some x from hx) (by simp)⟩
  · exact ⟨fun _ => (fz3 e he k hk).2.2.2.2, fun L hL => absurd (show (none : Option (List (Int32 × Int32))) = some L from hL) (by simp)⟩
  · obtain ⟨_, _, _, h1, h2⟩ := fz4 e he g hg
    exact ⟨h1, Nat.zero_le _, h2, fun j x hx => absurd (show ([] : List (Int32 × Int32))[j]? = some x from hx) (by simp)⟩
  · exact ⟨(fz5 e he).2.2.1, Nat.zero_le _, fun j x hx => absurd (show ([] : List (Int32 × Int32 × Int32))[j]? = some x from hx) (by simp)⟩
  · exact ⟨(fz5 e he).2.2.2.1, Nat.zero_le _, fun j x hx => absurd (show ([] : List (Int32 × Int32))[j]? = some x from hx) (by simp)⟩
theorem wf_mi : WfD aZ 0 0 12 := by
  refine ⟨fun e he => ?_, fun e he => ?_, fun e k he hk => ?_, 0, by decide, (aZ_I 9 15).trans fz9.2, fun k _ hk => (fz8 0 (by decide) k hk).1.1⟩
  · exact ⟨fun f hf => absurd (show f ∈ ([] : List zF) from hf) (by simp), fun g hg => ⟨100, by decide, rfl⟩, fun q => absurd (fz7 e he).2.2.2.1 q, Or.inl (fz7 e he).2.2.2.2.2, fun y hy => absurd (show y ∈ ([] : List (Int32 × Int32)) from hy) (by simp), 0, by decide, (fz6 e he).2.2.2.1⟩
  · rw [show (if e = 0 then 0 else 0) = 0 by split <;> rfl]
    exact ⟨(by decide : 0 + 0 ≤ 40), (fz6 e he).2.2.2.2, fun y hy => absurd (show y ∈ ([] : List (Int32 × Int32)) from hy) (by simp)⟩
  · obtain ⟨h1, h2, h3, h4, h5⟩ := fz8 e he k hk
    exact ⟨Or.inl h5, fun _ => h5, fun _ => ⟨h5, rfl, rfl⟩, fun _ _ q => absurd h1.1 q, fun y hy => absurd (show y ∈ ([] : List Int32) from hy) (by simp)⟩
theorem jw_mi : Jw mi := ⟨aZ, rc_mi, rr_mi, wf_mi⟩
theorem jw_S (n : Nat) (M : mM) (h : (fun (_ : Nat) => Jw) n M) : Shp M := by
  obtain ⟨A, h1, _⟩ := h
  exact h1.1
theorem whole_start {p : Program} {e : Env} {s : State} {m : MethodId} {below : List Frame} {meth : Method} {c : Code} (l : Launch) {b L : Nat} {xs : Nat → Int32} (hL : L ≤ 3584) (C0 : lw_At p s m meth c b L xs) : W p l e room_1 s m #[Value.ref b] below meth c s.heap [] 0 0 (lw_Z below #[Value.ref b] s) (entryFrame m ([Value.ref b] : List Value).toArray 4) := whole_start_open l hL (J := fun _ => Jw) jw_S (fun n M hn h => h) (fun X x1 x2 x3 x4 n M hn h => pw_all ⟨x1, x2, x3, x4⟩ h) jw_mi C0

set_option maxHeartbeats 4000000 in
theorem lw_walk (l : Launch) (b : Addr) (xs : List Int32) : MetFree l x (headSpec (Jvm.Cond.code x code maxLocals ret :: tables_1) room_1) (lw_P b xs) (fun _ _ _ _ _ => True) lw_Q := by
  refine MetFree.of_bodyS (code := code) (maxLocals := maxLocals) (ret := ret) (by decide) ?_ ?_
  · intro args s m h hn
    obtain ⟨meth, c, h1, h2, h3, h4, h5, h6, -, -⟩ := Cond.code_spec hn (atoms_spec (ws := Jvm.Cond.code x code maxLocals ret :: tables_1) h _ List.mem_cons_self)
    exact ⟨meth, c, h1, h2, h3, h4, h5, h6⟩
  · intro p e s m args below meth c s₁ B hml0 hP _
    obtain ⟨rfl, hx, hbd, hgv⟩ := hP
    obtain ⟨scr, harrAt, hlist, hof, hsmall⟩ := hx
    obtain ⟨hcb, hkn, -, -⟩ := State.arrayAt?_spec harrAt
    have hown : s.vm.findClass R_law = some m.cls := findClass_of_methodNamed B.named
    have hts0 : ∀ c ∈ (Jvm.Cond.code x code maxLocals ret :: tables_1), c.before #[Value.ref b] s = true := atoms_spec (ws := Jvm.Cond.code x code maxLocals ret :: tables_1) B.pre
    have hts : ∀ w ∈ lw_tbl, w.before #[Value.ref b] s = true := k2_hts_sels lw_privs (fun w hw => hts0 w (List.mem_cons_of_mem _ hw)) lw_privs_ok
    have hml : c.maxLocals = 4 := B.maxLocals_eq (hts0 _ List.mem_cons_self)
    have X₀ : Stand p l e room_1 s m #[Value.ref b] below meth c s₁ [] 0 0 := Stand.of_body B
    have hh0 : s₁.heap = s.heap := by rw [B.state]; rfl
    have hsz : scr.slots.size = xs.length := by rw [← Array.length_toList, hlist, List.length_map]
    have hval : ∀ j : Nat, j < xs.length → scr.slots[j]? = some (.int (xs.getD j 0)) := fun j hj => by
      rw [← Array.getElem?_toList, hlist]
      simp [hj]
    have hbl : b < s.heap.size := (Array.getElem?_eq_some_iff.mp hcb).1
    have hX : va_X b xs.length (fun j => xs.getD j 0) s s.heap := ⟨scr, hcb, hof, hkn, hsz, hval⟩
    have K : W p l e room_1 s m #[Value.ref b] below meth c s₁.heap [] 0 0 (lw_Z below #[Value.ref b] s) (entryFrame m ([Value.ref b] : List Value).toArray 4) := by
      rw [hh0]
      exact whole_start l hbd ⟨B.exec, B.bytes, B.returns, hml, hown, hts, hX, hbl, B.notSynchronized, hgv, hts0 _ List.mem_cons_self, (name_of_methodNamed B.named B.method).1⟩
    obtain ⟨t, a1, o, b1, b2, b3⟩ := K s₁ rfl X₀
    exact ⟨t, o, a1, b1, b2, b3⟩
theorem lw_pre_spec {args : Array Value} {s : State} (h : (Jvm.Cond.and given_1 narrow_1).before args s = true) (hr : rest_1_c.before args s = true) : ∃ (b : Addr) (xs : List Int32), lw_P b xs args s := by
  have hs := flat_of_before _ h
  have hq := flat_of_before _ hr
  have hc : (Cond.count 1).before args s = true := hs _ (by decide +kernel)
  have harr : (Cond.arrayOf (.arg 0) .int).before args s = true := hs _ (by decide +kernel)
  have hle : (Cond.le (.length (.arg 0)) (.int 3584)).before args s = true := hs _ (by decide +kernel)
  have hlen : (Cond.isInt (.length (.arg 0))).before args s = true := hq _ (by decide +kernel)
  have hall : (Cond.all (.arg 0) (.isInt (.elem (.arg 0) (.index 0)))).before args s = true := hq _ (by decide +kernel)
  obtain ⟨b, xs, hb, hx⟩ := State.ints_of_pre rfl harr hlen hall
  have hsm : xs.length < 2 ^ 31 := hx.choose_spec.2.2.2
  have hev : (Term.length (.arg 0)).eval args s none [] s = some (.int xs.length.toInt32) := hx.length_eval hb
  have hv := Cond.le_ints hev (show (Term.int 3584).eval args s none [] s = some (.int 3584) from rfl)
  have hd : xs.length.toInt32 ≤ 3584 := by
    simpa [Cond.before, Cond.holds, hv] using hle
  have hN : xs.length ≤ 3584 := (Int32.ofNat_le_ofNat hsm (by decide)).mp (show Int32.ofNat xs.length ≤ Int32.ofNat 3584 from hd)
  exact ⟨b, xs, Cond.one_arg hc (show args[0]? = some (.ref b) from hb), hx, hN, h⟩
theorem lw_comes (l : Launch) : Comes l x (Jvm.Cond.code x code maxLocals ret :: tables_1) room_1 (fun tb e args s => Calls_1 tb e args s ∧ rest_1 tb e args s ∧ Pre_1 tb e args s)
    (fun _ _ args s o t => lw_Q args s o t) := by
  intro p e ha hc hk s m args below hf hfit hheap happ hpre
  obtain ⟨b, xs, hP⟩ := lw_pre_spec hpre.2.2 hpre.2.1
  obtain ⟨k, o, h1, h2, h3, hQ⟩ := lw_walk l b xs p e ha hc hk s m args below hf ((Spec.applies_iff_loose hf).mp happ).1 hP trivial
  exact ⟨k, o, h1, h2, h3, hQ⟩
theorem lw_frame {s t : State} {o : Outcome} {args : Array Value} (h : Framed s o t [] 600000 7302250) :
    Framed s o t (fieldLocs frame_1_writes args s ++ arrayLocs frame_1_arrays args s ++ staticLocs frame_1_statics s) 600000 7302250 := h
theorem lw_limb (L : Cond) (hL : ∀ (args : Array Value) (s t : State), L.after args s (.returned (some (.int 1))) t = true) :
    ArmFor flags0 classFile x code maxLocals ret World_1 tables_1 room_1 Calls_1 rest_1 Pre_1
      (fun tb e a s o t => postC L tb e a s o t ∧ Framed s o t (fieldLocs frame_1_writes a s ++ arrayLocs frame_1_arrays a s ++ staticLocs frame_1_statics s) 600000 7302250) := by
  intro l _ _ _ p e ha hc hk s m args below hf hfit hheap happ hpre
  obtain ⟨k, o, h1, h2, h3, rfl, hF⟩ := lw_comes l p e ha hc hk s m args below hf hfit hheap happ hpre
  exact ⟨k, _, h1, h2, h3, hL args s _, lw_frame hF⟩
theorem i_vc : Claimed_1_1 ∧ Claimed_1_2 := ⟨lw_limb limb_1_1 (fun args s t => by simp [limb_1_1, Cond.after, Cond.holds, Cond.value]), lw_limb limb_1_2 (fun args s t => Cond.after_iff.mpr (by
  first | (rw [show limb_1_2 = Cond.eq .result (.int 1) from rfl, Cond.eq_ints (x := 1) (y := 1) rfl rfl]; simp; done) | (simp [limb_1_2, Cond.value, Term.eval]; done)))⟩

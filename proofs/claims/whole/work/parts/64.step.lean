/-! ===== steps over the state: the class's side ===== -/
theorem sI_a {M : mM} {a k b j : Nat} {v : Int32} (h : b ≠ a) : mI (setI M a k v) b j = mI M b j := up2_a h
theorem sI_k {M : mM} {a k b j : Nat} {v : Int32} (h : j ≠ k) : mI (setI M a k v) b j = mI M b j := up2_k h
theorem sI_s {M : mM} {a k : Nat} {v : Int32} : mI (setI M a k v) a k = v := up2_same
theorem zI_a {A : zA} {a k b j : Nat} {v : Int32} (h : b ≠ a) : zI (yI A a k v) b j = zI A b j := up2_a h
theorem zI_k {A : zA} {a k b j : Nat} {v : Int32} (h : j ≠ k) : zI (yI A a k v) b j = zI A b j := up2_k h
theorem zI_s {A : zA} {a k : Nat} {v : Int32} : zI (yI A a k v) a k = v := up2_same
theorem FrC.cg {M M' : mM} {a : Nat} {f : zF} (h : FrC M a f) (c : Chg M M' cP cP) : FrC M' a f := h.mv c (fun _ _ q => Nat.lt_of_lt_of_le q (by decide)) fun _ _ q => Nat.lt_of_lt_of_le q (by decide)
theorem PayC.cg {M M' : mM} {a : Nat} {L : List Int32} (h : PayC M a L) (c : Chg M M' cP cP) : PayC M' a L := h.mv c fun _ _ q => Nat.lt_of_lt_of_le q (by decide)
theorem BlkC.cg {M M' : mM} {a : Nat} {L : List (Int32 × Int32 × Int32 × Int32)} (h : BlkC 223 M a L) (c : Chg M M' cP cP) : BlkC 223 M' a L := h.mv c (fun _ _ q => Nat.lt_of_lt_of_le q (by decide)) fun _ _ q => Nat.lt_of_lt_of_le q (by decide)
theorem FlC.cg {M M' : mM} {a : Nat} {L : List (Int32 × Int32)} (h : FlC 223 M a L) (c : Chg M M' cP cP) : FlC 223 M' a L := h.mv c (fun _ _ q => Nat.lt_of_lt_of_le q (by decide)) fun _ _ q => Nat.lt_of_lt_of_le q (by decide)
theorem push_len {A : zA} {p : Nat} {f : zF} : (zP (push A p f) p).length = (zP A p).length + 1 := by
  show (upf (zP A) p (zP A p ++ [f]) p).length = _
  rw [upf_same, List.length_append]
  rfl
section STP
variable {X : mX} {l : Launch} {u : mU} {rm : Room} {bc bs : Nat} {M0 M : mM} {A : zA} {pc : Nat} {ls : List (Option Value)} {st : List Value} {Q : Option Value → mM → Prop}
theorem g_yI {a j : Nat} {v : Int32} (hR : RC M A) (hC : Chg M0 M cP cP) (hs : sc a j) (k : ∀ M', RC M' (yI A a j v) → Chg M0 M' cP cP → G X l u rm bc bs M' pc ls st Q) : G X l u rm bc bs (setI M a j v) pc ls st Q := k _ (hR.yI hs) (kI hC hs.2.1)
theorem RC.mkc {e : Nat} (h : RC M A) (he : e < 2) : mI M (10 + 80 * e) 3 = nI (zK A e).length := (h.2.2.2.2.2.2.2.2.1 e he).1
theorem RC.mk6 {e : Nat} (h : RC M A) (he : e < 2) : (zK A e).length ≤ 6 := (h.2.2.2.2.2.2.2.2.1 e he).2.1
theorem RC.pdc {e : Nat} (h : RC M A) (he : e < 2) : mI M (9 + 80 * e) 14 = nI (zD A e).length := (h.2.2.2.2.2.2.2.2.2 e he).1
theorem RC.pd8 {e : Nat} (h : RC M A) (he : e < 2) : (zD A e).length ≤ 8 := (h.2.2.2.2.2.2.2.2.2 e he).2.1
theorem RC.fix0 {e : Nat} (h : RC M A) (he : e < 2) : mI M (9 + 80 * e) 0 = nI (1 - e) := (h.2.2.1 e he).1
theorem RC.pic {e : Nat} (h : RC M A) (he : e < 2) : mI M (4 + 2 * e) 2 = nI (zP A e).length := by obtain ⟨_, _, _, _, q, _⟩ := h.2.2.2.1 e he; exact q
theorem RC.poc {e : Nat} (h : RC M A) (he : e < 2) : mI M (6 - 2 * e) 2 = nI (zP A (1 - e)).length := by have := h.pic (e := 1 - e) (by omega); rwa [show 4 + 2 * (1 - e) = 6 - 2 * e by omega] at this
theorem RC.pi8 {e : Nat} (h : RC M A) (he : e < 2) : (zP A e).length < 48 := by obtain ⟨_, _, q, _⟩ := h.2.2.2.1 e he; exact q
theorem RC.wc {e k : Nat} (h : RC M A) (he : e < 2) (hk : k < 12) : mI M (30 + 80 * e + 5 * k) 1 = nI (zW A e k).length := (h.2.2.2.2.1 e k he hk).1
theorem RC.w32 {e k : Nat} (h : RC M A) (he : e < 2) (hk : k < 12) : (zW A e k).length ≤ 32 := (h.2.2.2.2.1 e k he hk).2.1
theorem RC.uc {e k : Nat} (h : RC M A) (he : e < 2) (hk : k < 12) : mI M (32 + 80 * e + 5 * k) 1 = nI (unrd (zU A e) k).length := (h.2.2.2.2.2.1 e k he hk).1
theorem RC.u40 {e k : Nat} (h : RC M A) (he : e < 2) (hk : k < 12) : (unrd (zU A e) k).length ≤ 40 := (h.2.2.2.2.2.1 e k he hk).2.1
theorem RC.lsN {e k : Nat} (h : RC M A) (he : e < 2) (hk : k < 12) (q : zL A e k = none) : mR M (29 + 80 * e + 5 * k) 7 = none := (h.2.2.2.2.2.2.1 e k he hk).1 q
theorem RC.lsS {e k : Nat} {L : List (Int32 × Int32)} (h : RC M A) (he : e < 2) (hk : k < 12) (q : zL A e k = some L) : ∃ a, mR M (29 + 80 * e + 5 * k) 7 = some a ∧ FlC 223 M a L := (h.2.2.2.2.2.2.1 e k he hk).2 L q
theorem RC.tb {e g : Nat} (h : RC M A) (he : e < 2) (hg : g < 2) : TabC M e g (zB A e g).1 (zB A e g).2 := h.2.2.2.2.2.2.2.1 e g he hg
/-! frames made -/
abbrev nFr (A : zA) (M : mM) (f : zF) (r : Option Value) (M' : mM) : Prop := ∃ a, r = some (.ref a) ∧ FrC M' a f ∧ RC M' A ∧ Chg M M' cP cP
theorem nFr.mk {kd s am fl d : Int32} {pl bl : Option Nat} {by_ : List Int32} {S : List (Int32 × Int32 × Int32 × Int32)} (h : RC M A) (h0 : kd = 0 → ∃ b, pl = some b ∧ PayC M b by_) (h1 : kd = 1 → ∃ b, bl = some b ∧ BlkC 223 M b S) : nFr A M (kd, s, am, fl, d, by_, S) (some (.ref (mN M))) (frM (newM M 12 7) (mN M) kd s am fl d pl bl) :=
  ⟨_, rfl, fr_new h.1.1 h0 h1, h.grow fr_chg, k0 Chg.rf fr_chg⟩
theorem ct_ofResetR {s c : Int32} (h : RC M A) : Ct X l uFrame_ofReset (rn 2 39 1 7) [.int s, .int c] M (nFr A M (3, s, c, 0, 0, [], [])) := ct_ofReset.post (by rintro r M' ⟨rfl, rfl⟩; exact nFr.mk h (fun q => absurd q (by decide)) fun q => absurd q (by decide))
theorem ct_ofSettingR {s v : Int32} (h : RC M A) : Ct X l uFrame_ofSetting (rn 2 39 1 7) [.int s, .int v] M (nFr A M (4, 0, v, 0, s, [], [])) := ct_ofSetting.post (by rintro r M' ⟨rfl, rfl⟩; exact nFr.mk h (fun q => absurd q (by decide)) fun q => absurd q (by decide))
theorem ct_ofAckR (h : RC M A) : Ct X l uFrame_ofAck (rn 2 39 1 7) [] M (nFr A M (4, 0, 0, 1, 0, [], [])) := ct_ofAck.post (by rintro r M' ⟨rfl, rfl⟩; exact nFr.mk h (fun q => absurd q (by decide)) fun q => absurd q (by decide))
theorem ct_ofFarewellR {c : Int32} (h : RC M A) : Ct X l uFrame_ofFarewell (rn 2 39 1 7) [.int c] M (nFr A M (7, 0, c, 0, 0, [], [])) := ct_ofFarewell.post (by rintro r M' ⟨rfl, rfl⟩; exact nFr.mk h (fun q => absurd q (by decide)) fun q => absurd q (by decide))
theorem ct_ofWindowR {s n : Int32} (h : RC M A) : Ct X l uFrame_ofWindow (rn 2 39 1 7) [.int s, .int n] M (nFr A M (8, s, n, 0, 0, [], [])) := ct_ofWindow.post (by rintro r M' ⟨rfl, rfl⟩; exact nFr.mk h (fun q => absurd q (by decide)) fun q => absurd q (by decide))
theorem ct_ofDataR {s z : Int32} {p : Nat} {L : List Int32} (h : RC M A) (hp : PayC M p L) (hz : z = 0 ∨ z = 1) : Ct X l uFrame_ofData (rn 2 39 1 7) [.int s, .ref p, .int z] M (nFr A M (0, s, nI L.length, z, 0, L, [])) := (ct_ofData hp.2.2.1 hz).post (by rintro r M' ⟨rfl, rfl⟩; exact nFr.mk h (fun _ => ⟨p, rfl, hp⟩) fun q => absurd q (by decide))
theorem ct_ofHeadersR {s z : Int32} {b : Nat} {S : List (Int32 × Int32 × Int32 × Int32)} (h : RC M A) (hb : BlkC 223 M b S) (hz : z = 0 ∨ z = 1) : Ct X l uFrame_ofHeaders (rn 2 39 1 7) [.int s, .ref b, .int z] M (nFr A M (1, s, nI S.length, z, sumS S, [], S)) := (ct_ofHeaders hb.1 hz).post (by rintro r M' ⟨rfl, rfl⟩; rw [hb.2.1, hb.2.2.1]; exact nFr.mk h (fun q => absurd q (by decide)) fun _ => ⟨b, rfl, hb⟩)
/-! what is read of a stream -/
def acZ (A : zA) (e k : Nat) : Int32 := if zI A (29 + 80 * e + 5 * k) 1 = 1 then 1 else if zI A (29 + 80 * e + 5 * k) 1 = 2 then 1 else if ¬ zI A (29 + 80 * e + 5 * k) 1 = 3 then 0 else 1
def msZ (A : zA) (e k : Nat) : Int32 := if zI A (29 + 80 * e + 5 * k) 1 = 1 then 1 else if ¬ zI A (29 + 80 * e + 5 * k) 1 = 3 then 0 else 1
def mgZ (A : zA) (e k : Nat) : Int32 := if zI A (29 + 80 * e + 5 * k) 1 = 1 then 1 else if ¬ zI A (29 + 80 * e + 5 * k) 1 = 2 then 0 else 1
def cntZ (A : zA) (e : Nat) : Nat → Nat
  | 0 => 0
  | k + 1 => if acZ A e k = 0 then cntZ A e k else cntZ A e k + 1
theorem RC.ac {e k : Nat} (h : RC M A) (he : e < 2) (hk : k < 12) : acC M e k = acZ A e k := by unfold acC acZ; simp only [Kstate, h.sI (sc_S (j := 1) he hk (by omega) (by omega))]
theorem RC.ms {e k : Nat} (h : RC M A) (he : e < 2) (hk : k < 12) : msC M e k = msZ A e k := by unfold msC msZ; simp only [Kstate, h.sI (sc_S (j := 1) he hk (by omega) (by omega))]
theorem RC.mg {e k : Nat} (h : RC M A) (he : e < 2) (hk : k < 12) : mgC M e k = mgZ A e k := by unfold mgC mgZ; simp only [Kstate, h.sI (sc_S (j := 1) he hk (by omega) (by omega))]
theorem RC.cnt {e : Nat} (h : RC M A) (he : e < 2) : ∀ n, n ≤ 12 → cntC M e n = cntZ A e n
  | 0, _ => rfl
  | n + 1, hn => by
    unfold cntC cntZ
    rw [h.cnt he n (by omega), h.ac he (by omega)]
theorem ct_acR {e k : Nat} (h : RC M A) (he : e < 2) (hk : k < 12) : Ct X l uStream_isActive (rk 0 0) [.ref (29 + 80 * e + 5 * k)] M (fun r M' => r = some (.int (acZ A e k)) ∧ M' = M) := by rw [← h.ac he hk]; exact ct_Str_isActive h.1 he hk
theorem ct_msR {e k : Nat} (h : RC M A) (he : e < 2) (hk : k < 12) : Ct X l uStream_maySend (rk 0 0) [.ref (29 + 80 * e + 5 * k)] M (fun r M' => r = some (.int (msZ A e k)) ∧ M' = M) := by rw [← h.ms he hk]; exact ct_Str_maySend h.1 he hk
theorem ct_mgR {e k : Nat} (h : RC M A) (he : e < 2) (hk : k < 12) : Ct X l uStream_mayGet (rk 0 0) [.ref (29 + 80 * e + 5 * k)] M (fun r M' => r = some (.int (mgZ A e k)) ∧ M' = M) := by rw [← h.mg he hk]; exact ct_Str_mayGet h.1 he hk
theorem ct_cntR {e : Nat} (h : RC M A) (he : e < 2) : Ct X l uEnd_activeCount (rk 1 20) [.ref (9 + 80 * e)] M (fun r M' => r = some (.int (nI (cntZ A e 12))) ∧ M' = M) := by rw [← h.cnt he 12 (Nat.le_refl _)]; exact ct_activeCount h.1 he
end STP
/-! the rows that are not single numbers -/
section RC4
variable {M M' : mM} {A : zA} {e : Nat}
theorem RC.yD {L : List (Int32 × Int32)} (h : RC M A) (he : e < 2) (c : Chg M M' (fun a j => (a = 9 + 80 * e ∧ j = 14) ∨ a = 27 + 80 * e ∨ a = 28 + 80 * e) no2) (hq : PdC M' e L) : RC M' (yD A e L) := by
  obtain ⟨h0, h1, h2, h3, h4, h5, h6, h7, h8, h9⟩ := h
  have hN := h0.1
  refine ⟨h0.mv c fun a k q => q.elim, fun b i hb => ?_, fun d hd => (h2 d hd).mv c hN hd fun b i q => ?_, fun d hd => (h3 d hd).mv c hN hd (fun b i q => ?_) fun b i q => q.elim, fun d g hd hg => (h4 d g hd hg).mv c (by omega) (by omega) (fun q => ?_) fun i q => ?_, fun d g hd hg => (h5 d g hd hg).mv c (by omega) (by omega) (fun q => ?_) fun i q => ?_, fun d g hd hg => (h6 d g hd hg).mv c hN hd hg (fun b i q => ?_) fun b i q => q.elim, fun d g hd hg => (h7 d g hd hg).mv c hN hd hg fun b i q => ?_, fun d hd => (h8 d hd).mv c hN hd fun b i q => ?_, fun d hd => ?_⟩
  · rw [c.2.2.1 b i (by have := hb.2.1; omega) fun q => by unfold sc at hb; omega]
    exact h1 b i hb
  iterate 9 omega
  · show PdC M' d (upf (zD A) e L d)
    by_cases q : d = e
    · subst q
      rw [upf_same]
      exact hq
    · rw [upf_ne q]
      exact (h9 d hd).mv c hN hd fun b i q => by omega
theorem RC.yK {L : List (Int32 × Int32 × Int32)} (h : RC M A) (he : e < 2) (c : Chg M M' (fun a _ => 10 + 80 * e ≤ a ∧ a ≤ 13 + 80 * e) no2) (hq : MkC M' e L) : RC M' (yK A e L) := by
  obtain ⟨h0, h1, h2, h3, h4, h5, h6, h7, h8, h9⟩ := h
  have hN := h0.1
  refine ⟨h0.mv c fun a k q => q.elim, fun b i hb => ?_, fun d hd => (h2 d hd).mv c hN hd fun b i q => ?_, fun d hd => (h3 d hd).mv c hN hd (fun b i q => ?_) fun b i q => q.elim, fun d g hd hg => (h4 d g hd hg).mv c (by omega) (by omega) (fun q => ?_) fun i q => ?_, fun d g hd hg => (h5 d g hd hg).mv c (by omega) (by omega) (fun q => ?_) fun i q => ?_, fun d g hd hg => (h6 d g hd hg).mv c hN hd hg (fun b i q => ?_) fun b i q => q.elim, fun d g hd hg => (h7 d g hd hg).mv c hN hd hg fun b i q => ?_, fun d hd => ?_, fun d hd => (h9 d hd).mv c hN hd fun b i q => ?_⟩
  · rw [c.2.2.1 b i (by have := hb.2.1; omega) fun q => by unfold sc at hb; omega]
    exact h1 b i hb
  iterate 8 omega
  · show MkC M' d (upf (zK A) e L d)
    by_cases q : d = e
    · subst q
      rw [upf_same]
      exact hq
    · rw [upf_ne q]
      exact (h8 d hd).mv c hN hd fun b i q => by omega
  · omega
theorem RC.yB {g : Nat} {L : List (Int32 × Int32)} {mx : Int32} (h : RC M A) (he : e < 2) (hg : g < 2) (c : Chg M M' (fun a _ => 15 + 80 * e + 5 * g ≤ a ∧ a ≤ 18 + 80 * e + 5 * g) no2) (hq : TabC M' e g L mx) : RC M' (yB A e g (L, mx)) := by
  obtain ⟨h0, h1, h2, h3, h4, h5, h6, h7, h8, h9⟩ := h
  have hN := h0.1
  refine ⟨h0.mv c fun a k q => q.elim, fun b i hb => ?_, fun d hd => (h2 d hd).mv c hN hd fun b i q => ?_, fun d hd => (h3 d hd).mv c hN hd (fun b i q => ?_) fun b i q => q.elim, fun d g hd hg => (h4 d g hd hg).mv c (by omega) (by omega) (fun q => ?_) fun i q => ?_, fun d g hd hg => (h5 d g hd hg).mv c (by omega) (by omega) (fun q => ?_) fun i q => ?_, fun d g hd hg => (h6 d g hd hg).mv c hN hd hg (fun b i q => ?_) fun b i q => q.elim, fun d i hd hi => ?_, fun d hd => (h8 d hd).mv c hN hd fun b i q => ?_, fun d hd => (h9 d hd).mv c hN hd fun b i q => ?_⟩
  · rw [c.2.2.1 b i (by have := hb.2.1; omega) fun q => by unfold sc at hb; omega]
    exact h1 b i hb
  iterate 7 omega
  · show TabC M' d i (up2 (zB A) e g (L, mx) d i).1 (up2 (zB A) e g (L, mx) d i).2
    by_cases q : d = e ∧ i = g
    · obtain ⟨rfl, rfl⟩ := q
      rw [up2_same]
      exact hq
    · rw [up2_ne q]
      exact (h7 d i hd hi).mv c hN hd hi fun b j q => by omega
  iterate 2 omega
/-- the list that came is set -/
theorem RC.yL {k a : Nat} {L : List (Int32 × Int32)} (h : RC M A) (he : e < 2) (hk : k < 12) (hl : FlC 223 M a L) : RC (setR M (29 + 80 * e + 5 * k) 7 (some a)) (yL A e k (some L)) := by
  obtain ⟨h0, h1, h2, h3, h4, h5, h6, h7, h8, h9⟩ := h
  have hN := h0.1
  have c : Chg M (setR M (29 + 80 * e + 5 * k) 7 (some a)) no2 (fun b i => b = 29 + 80 * e + 5 * k ∧ i = 7) := Chg.rf.setR (Or.inl ⟨rfl, rfl⟩)
  refine ⟨h0.mv c fun b i q _ => ?_, fun b i hb => h1 b i hb, fun d hd => (h2 d hd).mv c hN hd fun b i q => q.elim, fun d hd => (h3 d hd).mv c hN hd (fun b i q => q.elim) fun b i q => ?_, fun d g hd hg => (h4 d g hd hg).mv c (by omega) (by omega) (fun q => q) fun i q => q, fun d g hd hg => (h5 d g hd hg).mv c (by omega) (by omega) (fun q => q) fun i q => q, fun d g hd hg => ?_, fun d g hd hg => (h7 d g hd hg).mv c hN hd hg fun b i q => q.elim, fun d hd => (h8 d hd).mv c hN hd fun b i q => q.elim, fun d hd => (h9 d hd).mv c hN hd fun b i q => q.elim⟩
  · unfold mvR
    omega
  · omega
  · show LsC _ d g (up2 (zL A) e k (some L) d g)
    by_cases q : d = e ∧ g = k
    · obtain ⟨rfl, rfl⟩ := q
      rw [up2_same]
      refine ⟨fun q => (by cases q), fun L' q => ?_⟩
      cases q
      exact ⟨a, up2_same, hl.mv c (fun b i q => q.elim) fun b i q => by omega⟩
    · rw [up2_ne q]
      exact (h6 d g hd hg).mv c hN hd hg (fun b i q => q.elim) fun b i q => by omega
end RC4
theorem g_yL {X : mX} {l : Launch} {u : mU} {rm : Room} {bc bs : Nat} {M0 M : mM} {A : zA} {pc : Nat} {ls : List (Option Value)} {st : List Value} {Q : Option Value → mM → Prop} {e k a : Nat} {L : List (Int32 × Int32)} (hR : RC M A) (hC : Chg M0 M cP cP) (he : e < 2) (hk : k < 12) (hl : FlC 223 M a L) (kk : ∀ M', RC M' (yL A e k (some L)) → Chg M0 M' cP cP → G X l u rm bc bs M' pc ls st Q) : G X l u rm bc bs (setR M (29 + 80 * e + 5 * k) 7 (some a)) pc ls st Q := kk _ (hR.yL he hk hl) (hC.setR (Or.inl (show 29 + 80 * e + 5 * k < 169 by omega)))
theorem RC.tm0 {M : mM} {A : zA} {e : Nat} (h : RC M A) (he : e < 2) : mI M (15 + 80 * e) 5 = (zB A e 0).2 := (h.tb he (g := 0) (by decide)).2.2.2.1
theorem RC.tm1 {M : mM} {A : zA} {e : Nat} (h : RC M A) (he : e < 2) : mI M (20 + 80 * e) 5 = (zB A e 1).2 := by have := (h.tb he (g := 1) (by decide)).2.2.2.1; rwa [show 15 + 80 * e + 5 * 1 = 20 + 80 * e by omega] at this

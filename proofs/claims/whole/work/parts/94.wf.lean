/-! ===== what every state keeps ===== -/
def FrW (f : zF) : Prop := (f.1 = 0 ∨ f.1 = 1 ∨ f.1 = 3 ∨ f.1 = 4 ∨ f.1 = 7 ∨ f.1 = 8) ∧ (f.2.2.2.1 = 0 ∨ f.2.2.2.1 = 1) ∧ (f.1 = 0 → f.2.2.1 = nI f.2.2.2.2.2.1.length ∧ f.2.2.2.2.2.1.length ≤ 15 ∧ ∀ y, y ∈ f.2.2.2.2.2.1 → bW y) ∧ (f.1 = 1 → nfld f.2.2.2.2.2.2 ≤ 6 ∧ ∀ t, t ∈ f.2.2.2.2.2.2 → t.1 = 0 → ∃ m : Nat, m ≤ 200 ∧ t.2.1 = nI m)
def WU (A : zA) (e d : Nat) : Prop := (zU A e).length + d ≤ 40 ∧ zI A (9 + 80 * e) 5 = nI (40 - (zU A e).length - d) ∧ ∀ y, y ∈ zU A e → bW y.2
def WE (A : zA) (e : Nat) : Prop := (∀ f, f ∈ zP A e → FrW f) ∧ (∀ g, g < 2 → ∃ m : Nat, m ≤ 200 ∧ (zB A e g).2 = nI m) ∧ (¬ zI A (14 + 80 * e) 1 = 0 → 0 ≤ zI A (14 + 80 * e) 2 ∧ ∃ mt : Nat, mt ≤ 200 ∧ zI A (14 + 80 * e) 3 = nI mt) ∧ (zI A (19 + 80 * e) 1 = 0 ∨ zI A (19 + 80 * e) 1 = 1) ∧ (∀ y, y ∈ zD A e → y.1 = 1 ∨ y.1 = 3 ∨ y.1 = 4) ∧ ∃ q : Nat, q ≤ 12 ∧ zI A (9 + 80 * e) 16 = nI q - 1
def WS (A : zA) (x e k : Nat) : Prop := (zI A (29 + 80 * e + 5 * k) 6 = 0 ∨ zI A (29 + 80 * e + 5 * k) 6 = 1) ∧ (zI A (29 + 80 * e + 5 * k) 5 = 0 → zI A (29 + 80 * e + 5 * k) 6 = 0) ∧ (zI A (29 + 80 * e + 5 * k) 1 = 0 → zI A (29 + 80 * e + 5 * k) 6 = 0 ∧ zW A e k = [] ∧ unrd (zU A e) k = []) ∧ (e = 0 → ¬ k = x → ¬ zI A (29 + 80 * e + 5 * k) 1 = 0 → ¬ zI A (29 + 80 * e + 5 * k) 5 = 0) ∧ ∀ y, y ∈ zW A e k → bW y
def WR (A : zA) : Prop := ∃ r, r ≤ 12 ∧ zI A 9 15 = nI (2 * r + 1) ∧ ∀ k, r ≤ k → k < 12 → zI A (29 + 80 * 0 + 5 * k) 1 = 0
/-- d bytes at end e0 are on their way; stream place x of end 0 has no headers yet -/
def WfD (A : zA) (e0 d x : Nat) : Prop := (∀ e, e < 2 → WE A e) ∧ (∀ e, e < 2 → WU A e (if e = e0 then d else 0)) ∧ (∀ e k, e < 2 → k < 12 → WS A x e k) ∧ WR A
def trk (a j : Nat) : Prop := ∃ e, e < 2 ∧ ((a = 9 + 80 * e ∧ (j = 5 ∨ j = 15 ∨ j = 16)) ∨ (a = 14 + 80 * e ∧ 1 ≤ j ∧ j ≤ 3) ∨ (a = 19 + 80 * e ∧ j = 1) ∨ ∃ k, k < 12 ∧ a = 29 + 80 * e + 5 * k ∧ (j = 1 ∨ j = 5 ∨ j = 6))
section WFT
variable {e k j : Nat}
theorem t_E (he : e < 2) (hj : j = 5 ∨ j = 15 ∨ j = 16) : trk (9 + 80 * e) j := ⟨e, he, Or.inl ⟨rfl, hj⟩⟩
theorem t_N (he : e < 2) (hj : 1 ≤ j ∧ j ≤ 3) : trk (14 + 80 * e) j := ⟨e, he, Or.inr (Or.inl ⟨rfl, hj⟩)⟩
theorem t_D (he : e < 2) : trk (19 + 80 * e) 1 := ⟨e, he, Or.inr (Or.inr (Or.inl ⟨rfl, rfl⟩))⟩
theorem t_S (he : e < 2) (hk : k < 12) (hj : j = 1 ∨ j = 5 ∨ j = 6) : trk (29 + 80 * e + 5 * k) j := ⟨e, he, Or.inr (Or.inr (Or.inr ⟨k, hk, rfl, hj⟩))⟩
theorem n_E (he : e < 2) (hj : j = 3 ∨ j = 4) : ¬ trk (9 + 80 * e) j := by
  rintro ⟨d, hd, q | q | q | ⟨g, hg, q, q2⟩⟩ <;> omega
theorem n_S (he : e < 2) (hk : k < 12) (hj : j = 2 ∨ j = 3 ∨ j = 4) : ¬ trk (29 + 80 * e + 5 * k) j := by
  rintro ⟨d, hd, q | q | q | ⟨g, hg, q, q2⟩⟩ <;> omega
theorem n_T (he : e < 2) : ¬ trk (25 + 80 * e) j := by
  rintro ⟨d, hd, q | q | q | ⟨g, hg, q, q2⟩⟩ <;> omega
theorem n_F (he : e < 2) : ¬ trk (26 + 80 * e) j := by
  rintro ⟨d, hd, q | q | q | ⟨g, hg, q, q2⟩⟩ <;> omega
end WFT
section WFA
variable {A : zA} {e0 d x e k : Nat}
theorem WE.cg {f : Nat → Nat → Int32} (h : WE A e) (he : e < 2) (h1 : ∀ j, 1 ≤ j ∧ j ≤ 3 → f (14 + 80 * e) j = zI A (14 + 80 * e) j) (h2 : f (19 + 80 * e) 1 = zI A (19 + 80 * e) 1) (h3 : f (9 + 80 * e) 16 = zI A (9 + 80 * e) 16) : WE (yII A f) e := by
  obtain ⟨a1, a2, a3, a4, a5, a6⟩ := h
  refine ⟨a1, a2, ?_, ?_, a5, ?_⟩
  · show ¬ f (14 + 80 * e) 1 = 0 → 0 ≤ f (14 + 80 * e) 2 ∧ ∃ mt : Nat, mt ≤ 200 ∧ f (14 + 80 * e) 3 = nI mt
    rw [h1 1 (by omega), h1 2 (by omega), h1 3 (by omega)]
    exact a3
  · show f (19 + 80 * e) 1 = 0 ∨ f (19 + 80 * e) 1 = 1
    rw [h2]
    exact a4
  · show ∃ q : Nat, q ≤ 12 ∧ f (9 + 80 * e) 16 = nI q - 1
    rw [h3]
    exact a6
theorem WS.cg {f : Nat → Nat → Int32} (h : WS A x e k) (hf : ∀ j, j = 1 ∨ j = 5 ∨ j = 6 → f (29 + 80 * e + 5 * k) j = zI A (29 + 80 * e + 5 * k) j) : WS (yII A f) x e k := by
  unfold WS
  show (f _ 6 = 0 ∨ f _ 6 = 1) ∧ (f _ 5 = 0 → f _ 6 = 0) ∧ (f _ 1 = 0 → f _ 6 = 0 ∧ zW A e k = [] ∧ unrd (zU A e) k = []) ∧ (e = 0 → ¬ k = x → ¬ f _ 1 = 0 → ¬ f _ 5 = 0) ∧ ∀ y, y ∈ zW A e k → bW y
  rw [hf 1 (by omega), hf 5 (by omega), hf 6 (by omega)]
  exact h
theorem wf_S {f : Nat → Nat → Int32} (h : WfD A e0 d x) (he : e < 2) (hk : k < 12) (hf : ∀ a j, trk a j → a ≠ 29 + 80 * e + 5 * k → f a j = zI A a j) (hs : WS (yII A f) x e k) (hr : e = 0 → zI A (29 + 80 * e + 5 * k) 1 = 0 → f (29 + 80 * e + 5 * k) 1 = 0) : WfD (yII A f) e0 d x := by
  obtain ⟨h1, h2, h3, r, r1, r2, r3⟩ := h
  refine ⟨fun c hc => (h1 c hc).cg hc (fun j hj => hf _ _ (t_N hc hj) (by omega)) (hf _ _ (t_D hc) (by omega)) (hf _ _ (t_E hc (by omega)) (by omega)), fun c hc => ⟨(h2 c hc).1, (hf _ _ (t_E hc (by omega)) (by omega)).trans (h2 c hc).2.1, (h2 c hc).2.2⟩, fun c g hc hg => ?_, r, r1, (hf _ _ (t_E (e := 0) (by omega) (by omega)) (by omega)).trans r2, fun g q1 q2 => ?_⟩
  · by_cases q : c = e ∧ g = k
    · obtain ⟨rfl, rfl⟩ := q
      exact hs
    · exact (h3 c g hc hg).cg fun j hj => hf _ _ (t_S hc hg hj) (by omega)
  · show f (29 + 80 * 0 + 5 * g) 1 = 0
    by_cases q : 0 = e ∧ g = k
    · obtain ⟨rfl, rfl⟩ := q
      exact hr rfl (r3 g q1 q2)
    · rw [hf _ _ (t_S (e := 0) (by omega) q2 (by omega)) (by omega)]
      exact r3 g q1 q2
theorem wf_cg {f : Nat → Nat → Int32} (h : WfD A e0 d x) (hf : ∀ a j, trk a j → f a j = zI A a j) : WfD (yII A f) e0 d x :=
  wf_S (e := 0) (k := 0) h (by omega) (by omega) (fun a j q _ => hf a j q) ((h.2.2.1 0 0 (by omega) (by omega)).cg fun j hj => hf _ _ (t_S (e := 0) (k := 0) (by omega) (by omega) hj)) fun _ q => (hf _ _ (t_S (e := 0) (k := 0) (by omega) (by omega) (by omega))).trans q
theorem wf_I {a j : Nat} {v : Int32} (h : WfD A e0 d x) (hn : ¬ trk a j) : WfD (yI A a j v) e0 d x := wf_cg (f := up2 (zI A) a j v) h fun b i hb => up2_ne fun q => hn (by rw [← q.1, ← q.2]; exact hb)
/-- a stream's state goes to v, not idle -/
theorem wf_s1 {v : Int32} (h : WfD A e0 d x) (he : e < 2) (hk : k < 12) (hv : ¬ v = 0) (hr : e = 0 → ¬ zI A (29 + 80 * e + 5 * k) 1 = 0) : WfD (yI A (29 + 80 * e + 5 * k) 1 v) e0 d x := by
  refine wf_S (f := up2 (zI A) (29 + 80 * e + 5 * k) 1 v) h he hk (fun a j _ q => up2_a q) ?_ fun q1 q2 => absurd q2 (hr q1)
  obtain ⟨a1, a2, a3, a4, a5⟩ := h.2.2.1 e k he hk
  unfold WS
  show (up2 (zI A) _ 1 v _ 6 = 0 ∨ up2 (zI A) _ 1 v _ 6 = 1) ∧ (up2 (zI A) _ 1 v _ 5 = 0 → up2 (zI A) _ 1 v _ 6 = 0) ∧ (up2 (zI A) _ 1 v _ 1 = 0 → up2 (zI A) _ 1 v _ 6 = 0 ∧ zW A e k = [] ∧ unrd (zU A e) k = []) ∧ (e = 0 → ¬ k = x → ¬ up2 (zI A) _ 1 v _ 1 = 0 → ¬ up2 (zI A) _ 1 v _ 5 = 0) ∧ ∀ y, y ∈ zW A e k → bW y
  rw [up2_k (by decide), up2_k (by decide), up2_same]
  exact ⟨a1, a2, fun q => absurd q hv, fun q1 q2 _ => a4 q1 q2 (hr q1), a5⟩
theorem wf_s5 (h : WfD A e0 d x) (he : e < 2) (hk : k < 12) : WfD (yI A (29 + 80 * e + 5 * k) 5 1) e0 d x := by
  refine wf_S (f := up2 (zI A) (29 + 80 * e + 5 * k) 5 1) h he hk (fun a j _ q => up2_a q) ?_ fun _ q => (up2_k (by decide)).trans q
  obtain ⟨a1, a2, a3, a4, a5⟩ := h.2.2.1 e k he hk
  unfold WS
  show (up2 (zI A) _ 5 1 _ 6 = 0 ∨ up2 (zI A) _ 5 1 _ 6 = 1) ∧ (up2 (zI A) _ 5 1 _ 5 = 0 → up2 (zI A) _ 5 1 _ 6 = 0) ∧ (up2 (zI A) _ 5 1 _ 1 = 0 → up2 (zI A) _ 5 1 _ 6 = 0 ∧ zW A e k = [] ∧ unrd (zU A e) k = []) ∧ (e = 0 → ¬ k = x → ¬ up2 (zI A) _ 5 1 _ 1 = 0 → ¬ up2 (zI A) _ 5 1 _ 5 = 0) ∧ ∀ y, y ∈ zW A e k → bW y
  rw [up2_k (k' := 6) (by decide), up2_k (k' := 1) (by decide), up2_same]
  exact ⟨a1, fun q => absurd q (by decide), a3, fun _ _ _ => by decide, a5⟩
theorem wf_s6 {z : Int32} (h : WfD A e0 d x) (he : e < 2) (hk : k < 12) (hz : z = 0 ∨ z = 1) (h5 : ¬ zI A (29 + 80 * e + 5 * k) 5 = 0) (h1 : ¬ zI A (29 + 80 * e + 5 * k) 1 = 0) : WfD (yI A (29 + 80 * e + 5 * k) 6 z) e0 d x := by
  refine wf_S (f := up2 (zI A) (29 + 80 * e + 5 * k) 6 z) h he hk (fun a j _ q => up2_a q) ?_ fun _ q => (up2_k (by decide)).trans q
  obtain ⟨a1, a2, a3, a4, a5⟩ := h.2.2.1 e k he hk
  unfold WS
  show (up2 (zI A) _ 6 z _ 6 = 0 ∨ up2 (zI A) _ 6 z _ 6 = 1) ∧ (up2 (zI A) _ 6 z _ 5 = 0 → up2 (zI A) _ 6 z _ 6 = 0) ∧ (up2 (zI A) _ 6 z _ 1 = 0 → up2 (zI A) _ 6 z _ 6 = 0 ∧ zW A e k = [] ∧ unrd (zU A e) k = []) ∧ (e = 0 → ¬ k = x → ¬ up2 (zI A) _ 6 z _ 1 = 0 → ¬ up2 (zI A) _ 6 z _ 5 = 0) ∧ ∀ y, y ∈ zW A e k → bW y
  rw [up2_k (k' := 5) (by decide), up2_k (k' := 1) (by decide), up2_same]
  exact ⟨hz, fun q => absurd q h5, fun q => absurd q h1, a4, a5⟩
theorem wf_s5x (h : WfD A e0 d k) (hk : k < 12) : WfD (yI A (29 + 80 * 0 + 5 * k) 5 1) e0 d 12 := by
  obtain ⟨h1, h2, h3, h4⟩ := wf_s5 (e := 0) (k := k) h (by omega) hk
  refine ⟨h1, h2, fun c g hc hg => ?_, h4⟩
  obtain ⟨a1, a2, a3, a4, a5⟩ := h3 c g hc hg
  refine ⟨a1, a2, a3, fun q1 _ q3 => ?_, a5⟩
  subst q1
  by_cases q : g = k
  · subst q
    rw [zI_s]
    decide
  · exact a4 rfl q q3
theorem wf_x (h : WfD A e0 d 12) : WfD A e0 d x := ⟨h.1, h.2.1, fun c g hc hg => ⟨(h.2.2.1 c g hc hg).1, (h.2.2.1 c g hc hg).2.1, (h.2.2.1 c g hc hg).2.2.1, fun q1 _ q3 => (h.2.2.1 c g hc hg).2.2.2.1 q1 (by omega) q3, (h.2.2.1 c g hc hg).2.2.2.2⟩, h.2.2.2⟩
theorem wf_fo {e1 : Nat} (h : WfD A e0 0 x) : WfD A e1 0 x := ⟨h.1, fun c hc => by
  have := h.2.1 c hc
  rw [show (if c = e0 then 0 else 0) = 0 by split <;> rfl] at this
  rw [show (if c = e1 then 0 else 0) = 0 by split <;> rfl]
  exact this, h.2.2⟩
theorem WfD.u (h : WfD A e d x) (he : e < 2) : WU A e d := by
  have := h.2.1 e he
  rw [if_pos rfl] at this
  exact this
theorem wf_P {p : Nat} {L : List zF} (h : WfD A e0 d x) (hL : ∀ f, f ∈ L → FrW f) : WfD (yP A p L) e0 d x := by
  refine ⟨fun c hc => ?_, h.2.1, h.2.2.1, h.2.2.2⟩
  obtain ⟨a1, a2⟩ := h.1 c hc
  refine ⟨fun f hf => ?_, a2⟩
  have hf2 : f ∈ upf (zP A) p L c := hf
  by_cases q : c = p
  · subst q
    rw [upf_same] at hf2
    exact hL f hf2
  · rw [upf_ne q] at hf2
    exact a1 f hf2
theorem wf_push {p : Nat} {f : zF} (h : WfD A e0 d x) (hp : p < 2) (hf : FrW f) : WfD (push A p f) e0 d x := wf_P h fun g hg => by
  rcases List.mem_append.mp hg with q | q
  · exact (h.1 p hp).1 g q
  · rw [List.mem_singleton.mp q]
    exact hf
theorem wf_W {L : List Int32} (h : WfD A e0 d x) (he : e < 2) (hk : k < 12) (hb : ∀ y, y ∈ L → bW y) (h1 : zI A (29 + 80 * e + 5 * k) 1 = 0 → L = []) : WfD (yW A e k L) e0 d x := by
  refine ⟨h.1, h.2.1, fun c g hc hg => ?_, h.2.2.2⟩
  obtain ⟨a1, a2, a3, a4, a5⟩ := h.2.2.1 c g hc hg
  by_cases q : c = e ∧ g = k
  · obtain ⟨rfl, rfl⟩ := q
    have e1 : zW (yW A c g L) c g = L := up2_same
    exact ⟨a1, a2, fun q => ⟨(a3 q).1, by rw [e1]; exact h1 q, (a3 q).2.2⟩, a4, by rw [e1]; exact hb⟩
  · have e1 : zW (yW A e k L) c g = zW A c g := up2_ne q
    exact ⟨a1, a2, fun q => ⟨(a3 q).1, by rw [e1]; exact (a3 q).2.1, (a3 q).2.2⟩, a4, by rw [e1]; exact a5⟩
theorem wf_U {U : List (Int32 × Int32)} {d' : Nat} (h : WfD A e d x) (he : e < 2) (hk : k < 12) (hu : WU (yU A e U) e d') (ho : ∀ g, g < 12 → g ≠ k → unrd U g = unrd (zU A e) g) (h1 : zI A (29 + 80 * e + 5 * k) 1 = 0 → unrd U k = []) : WfD (yU A e U) e d' x := by
  refine ⟨h.1, fun c hc => ?_, fun c g hc hg => ?_, h.2.2.2⟩
  · by_cases q : c = e
    · subst q
      rw [if_pos rfl]
      exact hu
    · have e1 : zU (yU A e U) c = zU A c := upf_ne q
      have := h.2.1 c hc
      rw [if_neg q] at this ⊢
      unfold WU at this ⊢
      rw [e1]
      exact this
  · obtain ⟨a1, a2, a3, a4, a5⟩ := h.2.2.1 c g hc hg
    refine ⟨a1, a2, fun q => ⟨(a3 q).1, (a3 q).2.1, ?_⟩, a4, a5⟩
    by_cases q2 : c = e
    · subst q2
      rw [show zU (yU A c U) c = U from upf_same]
      by_cases q3 : g = k
      · subst q3
        exact h1 q
      · rw [ho g hg q3]
        exact (a3 q).2.2
    · rw [show zU (yU A e U) c = zU A c from upf_ne q2]
      exact (a3 q).2.2
theorem wf_5 {v : Int32} {d' : Nat} (h : WfD A e d x) (he : e < 2) (hl : (zU A e).length + d' ≤ 40) (hv : v = nI (40 - (zU A e).length - d')) : WfD (yI A (9 + 80 * e) 5 v) e d' x := by
  have hne : ∀ b i, ¬ (b = 9 + 80 * e ∧ i = 5) → up2 (zI A) (9 + 80 * e) 5 v b i = zI A b i := fun b i q => up2_ne q
  obtain ⟨h1, h2, h3, r, r1, r2, r3⟩ := h
  refine ⟨fun c hc => (h1 c hc).cg hc (fun j hj => hne _ _ (by omega)) (hne _ _ (by omega)) (hne _ _ (by omega)), fun c hc => ?_, fun c g hc hg => (h3 c g hc hg).cg fun j hj => hne _ _ (by omega), r, r1, (hne _ _ (by omega)).trans r2, fun g q1 q2 => (hne _ _ (by omega)).trans (r3 g q1 q2)⟩
  by_cases q : c = e
  · subst q
    rw [if_pos rfl]
    refine ⟨hl, zI_s.trans hv, ?_⟩
    have := (h2 c hc).2.2
    exact this
  · have := h2 c hc
    rw [if_neg q] at this ⊢
    exact ⟨this.1, (hne _ _ (by omega)).trans this.2.1, this.2.2⟩
theorem wf_16 (h : WfD A e0 d x) (he : e < 2) (hk : k < 12) : WfD (yI A (9 + 80 * e) 16 (nI k)) e0 d x := by
  have hne : ∀ b i, ¬ (b = 9 + 80 * e ∧ i = 16) → up2 (zI A) (9 + 80 * e) 16 (nI k) b i = zI A b i := fun b i q => up2_ne q
  obtain ⟨h1, h2, h3, r, r1, r2, r3⟩ := h
  refine ⟨fun c hc => ?_, fun c hc => ⟨(h2 c hc).1, (hne _ _ (by omega)).trans (h2 c hc).2.1, (h2 c hc).2.2⟩, fun c g hc hg => (h3 c g hc hg).cg fun j hj => hne _ _ (by omega), r, r1, (hne _ _ (by omega)).trans r2, fun g q1 q2 => (hne _ _ (by omega)).trans (r3 g q1 q2)⟩
  by_cases q : c = e
  · subst q
    obtain ⟨a1, a2, a3, a4, a5, a6⟩ := h1 c hc
    refine ⟨a1, a2, ?_, ?_, a5, k + 1, hk, ?_⟩
    · rw [zI_a (by omega), zI_a (by omega), zI_a (by omega)]
      exact a3
    · rw [zI_a (by omega)]
      exact a4
    · rw [zI_s]
      have : nI (k + 1) = nI k + 1 := Int32.ofNat_add k 1
      rw [this, Int32.add_sub_cancel]
  · exact (h1 c hc).cg hc (fun j hj => hne _ _ (by omega)) (hne _ _ (by omega)) (hne _ _ (by omega))
theorem wf_B {g : Nat} {L : List (Int32 × Int32)} {m : Nat} (h : WfD A e0 d x) (hm : m ≤ 200) : WfD (yB A e g (L, nI m)) e0 d x := by
  refine ⟨fun c hc => ?_, h.2.1, h.2.2.1, h.2.2.2⟩
  obtain ⟨a1, a2, a3⟩ := h.1 c hc
  refine ⟨a1, fun i hi => ?_, a3⟩
  by_cases q : c = e ∧ i = g
  · obtain ⟨rfl, rfl⟩ := q
    exact ⟨m, hm, by rw [show zB (yB A c i (L, nI m)) c i = (L, nI m) from up2_same]⟩
  · rw [show zB (yB A e g (L, nI m)) c i = zB A c i from up2_ne q]
    exact a2 i hi
theorem wf_D {D : List (Int32 × Int32)} (h : WfD A e0 d x) (hD : ∀ y, y ∈ D → y.1 = 1 ∨ y.1 = 3 ∨ y.1 = 4) : WfD (yD A e D) e0 d x := by
  refine ⟨fun c hc => ?_, h.2.1, h.2.2.1, h.2.2.2⟩
  obtain ⟨a1, a2, a3, a4, a5, a6⟩ := h.1 c hc
  refine ⟨a1, a2, a3, a4, fun y hy => ?_, a6⟩
  have hy2 : y ∈ upf (zD A) e D c := hy
  by_cases q : c = e
  · subst q
    rw [upf_same] at hy2
    exact hD y hy2
  · rw [upf_ne q] at hy2
    exact a5 y hy2
theorem wf_19 {v : Int32} (h : WfD A e0 d x) (he : e < 2) (hv : v = 0 ∨ v = 1) : WfD (yI A (19 + 80 * e) 1 v) e0 d x := by
  have hne : ∀ b i, ¬ (b = 19 + 80 * e ∧ i = 1) → up2 (zI A) (19 + 80 * e) 1 v b i = zI A b i := fun b i q => up2_ne q
  obtain ⟨h1, h2, h3, r, r1, r2, r3⟩ := h
  refine ⟨fun c hc => ?_, fun c hc => ⟨(h2 c hc).1, (hne _ _ (by omega)).trans (h2 c hc).2.1, (h2 c hc).2.2⟩, fun c g hc hg => (h3 c g hc hg).cg fun j hj => hne _ _ (by omega), r, r1, (hne _ _ (by omega)).trans r2, fun g q1 q2 => (hne _ _ (by omega)).trans (r3 g q1 q2)⟩
  by_cases q : c = e
  · subst q
    obtain ⟨a1, a2, a3, a4, a5, a6⟩ := h1 c hc
    refine ⟨a1, a2, ?_, ?_, a5, ?_⟩
    · rw [zI_a (by omega), zI_a (by omega), zI_a (by omega)]
      exact a3
    · rw [zI_s]
      exact hv
    · rw [zI_a (by omega)]
      exact a6
  · exact (h1 c hc).cg hc (fun j hj => hne _ _ (by omega)) (hne _ _ (by omega)) (hne _ _ (by omega))
theorem wf_14 {f : Nat → Nat → Int32} (h : WfD A e0 d x) (he : e < 2) (hf : ∀ b i, b ≠ 14 + 80 * e → f b i = zI A b i) (hn : ¬ f (14 + 80 * e) 1 = 0 → 0 ≤ f (14 + 80 * e) 2 ∧ ∃ mt : Nat, mt ≤ 200 ∧ f (14 + 80 * e) 3 = nI mt) : WfD (yII A f) e0 d x := by
  obtain ⟨h1, h2, h3, r, r1, r2, r3⟩ := h
  refine ⟨fun c hc => ?_, fun c hc => ⟨(h2 c hc).1, (hf _ _ (by omega)).trans (h2 c hc).2.1, (h2 c hc).2.2⟩, fun c g hc hg => (h3 c g hc hg).cg fun j hj => hf _ _ (by omega), r, r1, (hf _ _ (by omega)).trans r2, fun g q1 q2 => (hf _ _ (by omega)).trans (r3 g q1 q2)⟩
  by_cases q : c = e
  · subst q
    obtain ⟨a1, a2, a3, a4, a5, a6⟩ := h1 c hc
    refine ⟨a1, a2, hn, ?_, a5, ?_⟩
    · show f (19 + 80 * c) 1 = 0 ∨ f (19 + 80 * c) 1 = 1
      rw [hf _ _ (by omega)]
      exact a4
    · show ∃ q : Nat, q ≤ 12 ∧ f (9 + 80 * c) 16 = nI q - 1
      rw [hf _ _ (by omega)]
      exact a6
  · exact (h1 c hc).cg hc (fun j hj => hf _ _ (by omega)) (hf _ _ (by omega)) (hf _ _ (by omega))
end WFA
theorem nI_ad (a b : Nat) : nI a + nI b = nI (a + b) := (Int32.ofNat_add a b).symm
theorem unU_len : ∀ (U : List (Int32 × Int32)) (k : Nat), (unU U k).length + (unrd U k).length = U.length
  | [], _ => rfl
  | y :: U, k => by
    have ih := unU_len U k
    unfold unU unrd at *
    by_cases q : y.1 == nI (2 * k + 1)
    · rw [List.filter_cons_of_neg (by simp [q]), List.filter_cons_of_pos (by simp [q]), List.map_cons, List.length_cons, List.length_cons]
      omega
    · rw [List.filter_cons_of_pos (by simp [q]), List.filter_cons_of_neg (by simp [q]), List.length_cons, List.length_cons]
      omega
theorem tkU_cnt : ∀ (U : List (Int32 × Int32)) (k t : Nat), t ≤ (unrd U k).length → (tkU U k t).length + t = U.length
  | [], _, t, h => by
    have : t = 0 := by simpa [unrd] using h
    subst this
    rfl
  | y :: U, k, t, h => by
    unfold tkU
    by_cases q : y.1 = nI (2 * k + 1)
    · rw [if_pos q]
      by_cases q2 : t = 0
      · rw [if_pos q2, q2]
        rfl
      · have hu : unrd (y :: U) k = y.2 :: unrd U k := by unfold unrd; simp [q]
        rw [hu, List.length_cons] at h
        rw [if_neg q2, List.length_cons]
        have := tkU_cnt U k (t - 1) (by omega)
        omega
    · have hu : unrd (y :: U) k = unrd U k := by unfold unrd; simp [q]
      rw [hu] at h
      rw [if_neg q, List.length_cons, List.length_cons]
      have := tkU_cnt U k t h
      omega
theorem tkU_mem : ∀ (U : List (Int32 × Int32)) (k t : Nat) (y : Int32 × Int32), y ∈ tkU U k t → y ∈ U
  | [], _, _, _, h => h
  | z :: U, k, t, y, h => by
    unfold tkU at h
    split at h
    · split at h
      · exact h
      · exact List.mem_cons_of_mem _ (tkU_mem U k (t - 1) y h)
    · rcases List.mem_cons.mp h with q | q
      · rw [q]
        exact List.mem_cons_self ..
      · exact List.mem_cons_of_mem _ (tkU_mem U k t y q)
theorem unU_mem {U : List (Int32 × Int32)} {k : Nat} {y : Int32 × Int32} (h : y ∈ unU U k) : y ∈ U := (List.mem_filter.mp h).1
/-- frames that carry neither bytes nor steps -/
theorem frw_o {kd s a fl dt : Int32} (h : kd = 3 ∨ kd = 4 ∨ kd = 7 ∨ kd = 8) (hf : fl = 0 ∨ fl = 1) : FrW (kd, s, a, fl, dt, [], []) := by
  refine ⟨by show kd = 0 ∨ kd = 1 ∨ kd = 3 ∨ kd = 4 ∨ kd = 7 ∨ kd = 8; rcases h with q | q | q | q <;> simp [q], hf, fun q => ?_, fun q => ?_⟩
  · have q : kd = 0 := q
    subst q
    rcases h with q | q | q | q <;> exact absurd q (by decide)
  · have q : kd = 1 := q
    subst q
    rcases h with q | q | q | q <;> exact absurd q (by decide)

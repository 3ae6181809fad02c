/-! ===== what every state keeps: every step keeps it ===== -/
section WFO
variable {A : zA} {e0 d x e k : Nat}
theorem wi_in {v a b : Int32} (h : ¬ wi v a b = 0) : a ≤ v ∧ v ≤ b := by
  unfold wi at h
  by_cases q : v < a
  · rw [if_pos q] at h
    exact absurd rfl h
  · rw [if_neg q] at h
    by_cases q2 : b < v
    · rw [if_pos q2] at h
      exact absurd rfl h
    · exact ⟨Int32.not_lt.mp q, Int32.not_lt.mp q2⟩
theorem nI_200 {v : Int32} (h0 : 0 ≤ v) (h : v ≤ 200) : ∃ m : Nat, m ≤ 200 ∧ v = nI m := by
  have e1 := nI_cl (Int32.not_lt.mpr h0)
  have b1 := v.toNatClampNeg_lt
  refine ⟨v.toNatClampNeg, ?_, e1.symm⟩
  rw [← e1] at h
  exact (nI_leI (a := v.toNatClampNeg) (b := 200) b1 (by decide)).mp h
theorem wf_give (h : WfD A e d x) (he : e < 2) : WfD (give A e (nI d)) e 0 x := by
  obtain ⟨u1, u2, u3⟩ := h.u he
  by_cases q : d = 0
  · subst q
    rw [give_0 (by decide)]
    exact h
  · rw [give_1 (fun w => q (Nat.le_zero.mp ((nI_leI (a := d) (b := 0) (by omega) (by decide)).mp w)))]
    refine wf_push (wf_5 h he (d' := 0) (by omega) ?_) (by omega) (frw_o (by decide) (by decide))
    rw [u2, nI_ad]
    congr 1
    omega
theorem wf_cut (h : WfD A e d x) (he : e < 2) (hk : k < 12) (hr : e = 0 → ¬ zI A (29 + 80 * e + 5 * k) 1 = 0) : WfD (cutA A e k) e (d + (unrd (zU A e) k).length) x := by
  have h1 := wf_I (v := 1) (wf_s1 (v := 4) h he hk (by decide) hr) (n_S (j := 2) he hk (Or.inl rfl))
  have h2 := wf_W (L := []) h1 he hk (fun y hy => absurd hy (by simp)) (fun _ => rfl)
  obtain ⟨u1, u2, u3⟩ := h.u he
  have hl := unU_len (zU A e) k
  refine wf_U (k := k) h2 he hk ?_ (fun g hg q => unU_g hg hk q) (fun _ => unU_k _ _)
  unfold WU
  rw [show zU (yU (yW (yI (yI A (29 + 80 * e + 5 * k) 1 4) (29 + 80 * e + 5 * k) 2 1) e k []) e (unU (zU A e) k)) e = unU (zU A e) k from upf_same]
  refine ⟨by omega, ?_, fun y hy => u3 y (unU_mem hy)⟩
  show zI (yI (yI A (29 + 80 * e + 5 * k) 1 4) (29 + 80 * e + 5 * k) 2 1) (9 + 80 * e) 5 = _
  rw [zI_a (by omega), zI_a (by omega), u2]
  congr 1
  omega
theorem wf_rst {n : Nat} {c : Int32} (h : WfD A e n x) (he : e < 2) (hk : k < 12) (hr : e = 0 → ¬ zI A (29 + 80 * e + 5 * k) 1 = 0) : WfD (rstA A e k c (nI n)) e 0 x := by
  unfold rstA
  have h1 : WfD (cutA (push A (1 - e) (3, nI (2 * k + 1), c, 0, 0, [], [])) e k) e (n + (unrd (zU A e) k).length) x := wf_cut (wf_push h (by omega) (frw_o (by decide) (by decide))) he hk hr
  rw [nI_ad, Nat.add_comm (unrd (zU A e) k).length n]
  exact wf_give h1 he
theorem wf_rst0 {c : Int32} (h : WfD A e 0 x) (he : e < 2) (hk : k < 12) (hr : e = 0 → ¬ zI A (29 + 80 * e + 5 * k) 1 = 0) : WfD (rstA A e k c 0) e 0 x := wf_rst (n := 0) h he hk hr
theorem wf_lerr {c : Int32} (h : WfD A e0 d x) (he : e < 2) : WfD (lerr A e c) e0 d x := wf_I (wf_push h (by omega) (frw_o (by decide) (by decide))) (n_E he (Or.inl rfl))
theorem wf_endS (h : WfD A e0 d x) (he : e < 2) (hk : k < 12) (ho : ¬ zI A (29 + 80 * e + 5 * k) 1 = 0) : WfD (endS A e k) e0 d x := by
  unfold endS
  split
  · exact wf_s1 h he hk (by decide) fun _ => ho
  · exact wf_s1 h he hk (by decide) fun _ => ho
theorem wf_endG (h : WfD A e0 d x) (he : e < 2) (hk : k < 12) (ho : ¬ zI A (29 + 80 * e + 5 * k) 1 = 0) : WfD (endG A e k) e0 d x := by
  unfold endG
  split
  · exact wf_s1 h he hk (by decide) fun _ => ho
  · exact wf_s1 h he hk (by decide) fun _ => ho
theorem wf_gRs (h : WfD A e 0 x) (he : e < 2) (hk : k < 12) : WfD (gRs A e k).2 e 0 x := by
  unfold gRs
  split
  · exact wf_lerr h he
  · rename_i q
    split
    · exact h
    · have h1 := wf_cut h he hk (fun _ => q)
      rw [Nat.zero_add] at h1
      exact wf_give h1 he
theorem wf_gLW {n : Int32} (h : WfD A e 0 x) (he : e < 2) : WfD (gLW A e n).2 e 0 x := by
  unfold gLW
  split
  · split
    · exact wf_I h (n_E he (Or.inr rfl))
    · exact wf_lerr h he
  · exact wf_lerr h he
theorem wf_gSW {n : Int32} (h : WfD A e 0 x) (he : e < 2) (hk : k < 12) : WfD (gSW A e k n).2 e 0 x := by
  unfold gSW
  split
  · exact wf_lerr h he
  · rename_i q
    split
    · exact h
    · split
      · split
        · exact wf_I h (n_S he hk (by omega))
        · exact wf_rst0 h he hk fun _ => q
      · exact wf_rst0 h he hk fun _ => q
theorem wf_tkL {L : List (Int32 × Int32)} {z : Int32} (h : WfD A e0 d x) (he : e < 2) (hk : k < 12) (ho : ¬ zI A (29 + 80 * e + 5 * k) 1 = 0) : WfD (tkL A e k L z) e0 d x := by
  have h1 : WfD (yL A e k (some L)) e0 d x := h
  unfold tkL
  split
  · exact h1
  · exact wf_endG h1 he hk ho
theorem wf_mvW {j : Nat} {c : Int32} (h : WfD A e0 d x) (he : e < 2) (hj : j = 3 ∨ j = 4) : ∀ n, n ≤ 12 → WfD (mvW A e j c n) e0 d x
  | 0, _ => h
  | n + 1, hn => by
    unfold mvW
    split
    · exact wf_mvW h he hj n (by omega)
    · exact wf_I (wf_mvW h he hj n (by omega)) (n_S he (by omega) (by omega))
theorem wf_clI (h : WfD A e0 d x) (he : e = 1) : ∀ n, n ≤ 12 → WfD (clI A e n) e0 d x
  | 0, _ => h
  | n + 1, hn => by
    unfold clI
    split
    · exact wf_s1 (wf_clI h he n (by omega)) (by omega) (by omega) (by decide) (fun q => absurd q (by omega))
    · exact wf_clI h he n (by omega)
theorem clI_U : ∀ n, zU (clI A e n) = zU A
  | 0 => rfl
  | n + 1 => by
    unfold clI
    split
    · exact clI_U n
    · exact clI_U n
theorem wf_hrS {s v : Int32} (h : WfD A e0 d x) (he : e < 2) (hr : ¬ rgC s v = 0) : WfD (hrS A e s v) e0 d x := by
  unfold hrS
  split
  · rename_i q
    subst q
    have hv := wi_in (show ¬ wi v 0 200 = 0 from hr)
    obtain ⟨m, hm, hm2⟩ := nI_200 hv.1 hv.2
    refine wf_14 (A := A) (f := up2 (up2 (up2 (zI A) (14 + 80 * e) 2 (if zI A (14 + 80 * e) 1 = 0 then v else if v < zI A (14 + 80 * e) 2 then v else zI A (14 + 80 * e) 2)) (14 + 80 * e) 3 v) (14 + 80 * e) 1 1) h he (fun b i q => (up2_a q).trans ((up2_a q).trans (up2_a q))) fun _ => ⟨?_, m, hm, ?_⟩
    · rw [up2_k (by decide), up2_k (by decide), up2_same]
      by_cases q : zI A (14 + 80 * e) 1 = 0
      · rw [if_pos q]
        exact hv.1
      · rw [if_neg q]
        by_cases q2 : v < zI A (14 + 80 * e) 2
        · rw [if_pos q2]
          exact hv.1
        · rw [if_neg q2]
          exact ((h.1 e he).2.2.1 q).1
    · rw [up2_k (by decide), up2_same]
      exact hm2
  · split
    · exact wf_I h (n_T he)
    · split
      · exact wf_I (wf_mvW h he (Or.inl rfl) 12 (Nat.le_refl _)) (n_T he)
      · exact h
theorem wf_gSt {s v : Int32} (h : WfD A e 0 x) (he : e < 2) : WfD (gSt A e s v).2 e 0 x := by
  unfold gSt
  split
  · split
    · exact wf_lerr h he
    · exact wf_lerr h he
  · exact wf_push (wf_hrS h he (by assumption)) (by omega) (frw_o (by decide) (by decide))
theorem wf_frc {s v : Int32} (h : WfD A e0 d x) (he : e < 2) : WfD (frcA A e s v) e0 d x := by
  unfold frcA lifA
  split
  · refine wf_I ?_ (n_F he)
    split
    · exact h
    · exact wf_19 h he (Or.inr rfl)
  · split
    · exact wf_I h (n_F he)
    · exact wf_I (wf_mvW h he (Or.inr rfl) 12 (Nat.le_refl _)) (n_F he)
theorem wf_opn {s r : Int32} (h : WfD A e0 d x) (he : e < 2) (hk : k < 12) (hr : e = 0 → ¬ zI A (29 + 80 * e + 5 * k) 1 = 0) : WfD (opnA A e k s r) e0 d x := wf_I (wf_I (wf_s1 h he hk (by decide) hr) (n_S he hk (by omega))) (n_S he hk (by omega))
theorem opn_1 {s r : Int32} : ¬ zI (opnA A e k s r) (29 + 80 * e + 5 * k) 1 = 0 := by
  unfold opnA
  rw [zI_k (by decide), zI_k (by decide), zI_s]
  decide
theorem wf_gRq {L : List (Int32 × Int32)} {z : Int32} (h : WfD A e 0 x) (he : e = 1) (hk : k < 12) (hu : unrd (zU A e) k = []) : WfD (gRq A e k L z).2 e 0 x := by
  unfold gRq
  split
  · exact wf_tkL (wf_opn h (by omega) hk (fun q => absurd q (by omega))) (by omega) hk opn_1
  · have h1 : WfD (cutA (push A (1 - e) (3, nI (2 * k + 1), 7, 0, 0, [], [])) e k) e (0 + (unrd (zU A e) k).length) x := wf_cut (wf_push h (by omega) (frw_o (by decide) (by decide))) (by omega) hk (fun q => absurd q (by omega))
    rw [hu] at h1
    exact h1
theorem wf_gHd {b : Bool} {L : List (Int32 × Int32)} {z : Int32} (h : WfD A e 0 x) (he : e < 2) (hk : k < 12) (hid : ¬ (e = 0 ∧ zI A (29 + 80 * e + 5 * k) 1 = 0)) : WfD (gHd A b e k L z).2 e 0 x := by
  unfold gHd
  split
  · rename_i q
    have he1 : e = 1 := by
      rcases Nat.lt_or_ge e 1 with w | w
      · exact absurd ⟨by omega, q⟩ hid
      · omega
    exact wf_gRq (wf_clI h he1 k (by omega)) he1 hk (by rw [clI_U]; exact ((h.2.2.1 e k he hk).2.2.1 q).2.2)
  · rename_i q
    split
    · split
      · exact wf_lerr h he
      · exact h
    · split
      · exact wf_rst0 h he hk fun _ => q
      · split
        · exact wf_tkL h he hk q
        · exact wf_rst0 h he hk fun _ => q
theorem decR_mx {lim due : Int32} : ∀ (S : List zS) (n : Nat) (al : Int32) (L : List (Int32 × Int32)) (mx : Int32) (acc : List (Int32 × Int32)), (∃ m : Nat, m ≤ 200 ∧ mx = nI m) → (∀ t, t ∈ S → t.1 = 0 → ∃ m : Nat, m ≤ 200 ∧ t.2.1 = nI m) → ∃ m : Nat, m ≤ 200 ∧ (decR lim due S n al L mx acc).2.2 = nI m
  | [], _, _, _, _, _, h, _ => h
  | s :: S, n, al, L, mx, acc, h, hs => by
    have ht : ∀ t, t ∈ S → t.1 = 0 → ∃ m : Nat, m ≤ 200 ∧ t.2.1 = nI m := fun t q => hs t (List.mem_cons_of_mem _ q)
    unfold decR
    split
    · rename_i q
      split
      · exact h
      · split
        · exact decR_mx S _ _ _ _ _ (hs s (List.mem_cons_self ..) q) ht
        · exact h
    · split
      · exact h
      · cases decF L s with
        | none => exact h
        | some y => exact decR_mx S _ _ _ _ _ h ht
theorem wf_dec {lim : Int32} {S : List zS} (h : WfD A e0 d x) (he : e < 2) (hs : ∀ t, t ∈ S → t.1 = 0 → ∃ m : Nat, m ≤ 200 ∧ t.2.1 = nI m) : WfD (decA A e lim S).2 e0 d x := by
  obtain ⟨m, hm, hm2⟩ := decR_mx (lim := lim) (due := zI A (19 + 80 * e) 1) S 0 1 (zB A e 1).1 (zB A e 1).2 [] ((h.1 e he).2.1 1 (by omega)) hs
  unfold decA
  split
  · show WfD (yI (yB A e 1 (_, _)) (19 + 80 * e) 1 _) e0 d x
    rw [hm2]
    exact wf_19 (wf_B h hm) he (h.1 e he).2.2.2.1
  · show WfD (yI (yB A e 1 (_, _)) (19 + 80 * e) 1 _) e0 d x
    rw [hm2]
    exact wf_19 (wf_B h hm) he (Or.inl rfl)
theorem dec_1 {lim : Int32} {S : List zS} {j : Nat} (he : e < 2) (hk : k < 12) : zI (decA A e lim S).2 (29 + 80 * e + 5 * k) j = zI A (29 + 80 * e + 5 * k) j := by
  unfold decA
  split
  · exact zI_a (by omega)
  · exact zI_a (by omega)
theorem wf_gDt2 {f : zF} (h : WfD A e f.2.2.2.2.2.1.length x) (he : e < 2) (hk : k < 12) (hs : ¬ zI A (29 + 80 * e + 5 * k) 1 = 0) (hb : ∀ y, y ∈ f.2.2.2.2.2.1 → bW y) : WfD (gDt2 A e k f).2 e 0 x := by
  have h1 : WfD (addU (yI A (29 + 80 * e + 5 * k) 4 (zI A (29 + 80 * e + 5 * k) 4 - f.2.2.1)) e k f.2.2.2.2.2.1) e 0 x := by
    have h2 := wf_I (v := zI A (29 + 80 * e + 5 * k) 4 - f.2.2.1) h (n_S (j := 4) he hk (by omega))
    obtain ⟨u1, u2, u3⟩ := h.u he
    have hs2 : ¬ zI (yI A (29 + 80 * e + 5 * k) 4 (zI A (29 + 80 * e + 5 * k) 4 - f.2.2.1)) (29 + 80 * e + 5 * k) 1 = 0 := by rw [zI_k (by decide)]; exact hs
    refine wf_U (k := k) h2 he hk ?_ (fun g hg q => unrd_addne hg hk q) (fun q => absurd q hs2)
    unfold WU
    rw [show zU (yU (yI A (29 + 80 * e + 5 * k) 4 (zI A (29 + 80 * e + 5 * k) 4 - f.2.2.1)) e (zU (yI A (29 + 80 * e + 5 * k) 4 (zI A (29 + 80 * e + 5 * k) 4 - f.2.2.1)) e ++ f.2.2.2.2.2.1.map fun b => (nI (2 * k + 1), b))) e = zU A e ++ f.2.2.2.2.2.1.map fun b => (nI (2 * k + 1), b) from upf_same, List.length_append, List.length_map]
    refine ⟨by omega, ?_, fun y hy => ?_⟩
    · show zI (yI A (29 + 80 * e + 5 * k) 4 _) (9 + 80 * e) 5 = _
      rw [zI_a (by omega), u2]
      congr 1
      omega
    · rcases List.mem_append.mp hy with q | q
      · exact u3 y q
      · obtain ⟨b, hb1, rfl⟩ := List.mem_map.mp q
        exact hb b hb1
  unfold gDt2
  split
  · exact h1
  · refine wf_endG h1 he hk ?_
    show ¬ zI (yI A (29 + 80 * e + 5 * k) 4 _) (29 + 80 * e + 5 * k) 1 = 0
    rw [zI_k (by decide)]
    exact hs
theorem wf_gDt {f : zF} {b : Bool} (h : WfD A e 0 x) (he : e < 2) (hk : k < 12) (hf : FrW f) (h0 : f.1 = 0) : WfD (gDt A b e k f).2 e 0 x := by
  obtain ⟨hn, hn15, hb⟩ := hf.2.2.1 h0
  obtain ⟨u1, u2, u3⟩ := h.u he
  unfold gDt
  split
  · exact wf_lerr h he
  · rename_i hs
    split
    · rename_i hle
      have hle2 : f.2.2.2.2.2.1.length ≤ 40 - (zU A e).length := by
        rw [hn, u2] at hle
        have := (nI_leI (a := f.2.2.2.2.2.1.length) (b := 40 - (zU A e).length - 0) (by omega) (by omega)).mp hle
        omega
      have h1 : WfD (yI A (9 + 80 * e) 5 (zI A (9 + 80 * e) 5 - f.2.2.1)) e f.2.2.2.2.2.1.length x := wf_5 h he (by omega) (by rw [hn, u2, nI_sub' (by omega)]; congr 1)
      have hs1 : ¬ zI (yI A (9 + 80 * e) 5 (zI A (9 + 80 * e) 5 - f.2.2.1)) (29 + 80 * e + 5 * k) 1 = 0 := by rw [zI_a (by omega)]; exact hs
      have h2 : WfD (gDt1 (yI A (9 + 80 * e) 5 (zI A (9 + 80 * e) 5 - f.2.2.1)) b e k f).2 e 0 x := by
        have hr : ∀ c, WfD (rstA (yI A (9 + 80 * e) 5 (zI A (9 + 80 * e) 5 - f.2.2.1)) e k c f.2.2.1) e 0 x := fun c => by
          have := wf_rst (c := c) h1 he hk (fun _ => hs1)
          rw [← hn] at this
          exact this
        unfold gDt1
        split
        · exact hr 5
        · split
          · exact hr 1
          · split
            · exact wf_gDt2 h1 he hk hs1 hb
            · split
              · exact wf_gDt2 h1 he hk hs1 hb
              · exact hr 3
      split
      · split
        · exact h2
        · show WfD (give _ e f.2.2.1) e 0 x
          have := wf_give h1 he
          rw [← hn] at this
          exact this
      · exact h2
    · exact wf_lerr h he
theorem nfld_q (mx : Int32) : ∀ (K : List (Int32 × Int32 × Int32)) (L : List (Int32 × Int32)), nfld (encQ mx K L) = K.length ∧ ∀ t, t ∈ encQ mx K L → ¬ t.1 = 0
  | [], _ => ⟨rfl, fun t h => absurd h (by simp [encQ])⟩
  | y :: K, L => by
    have ih := nfld_q mx K (encL L mx y.1 y.2.1 y.2.2)
    have h1 : ¬ (encS L y.1 y.2.1 y.2.2).1 = 0 := by
      unfold encS
      split
      · split
        · exact (by decide : ¬ (2 : Int32) = 0)
        · exact (by decide : ¬ (1 : Int32) = 0)
      · exact (by decide : ¬ (3 : Int32) = 0)
    refine ⟨?_, fun t ht => ?_⟩
    · unfold encQ nfld
      rw [if_neg h1, ih.1]
      rfl
    · unfold encQ at ht
      rcases List.mem_cons.mp ht with q | q
      · rw [q]
        exact h1
      · exact ih.2 t q
theorem encM_W (h : WfD A e0 d x) (he : e < 2) : (∃ m : Nat, m ≤ 200 ∧ (encM A e).2.1 = nI m) ∧ nfld ((encM A e).2.2) = 0 ∧ ∀ t, t ∈ (encM A e).2.2 → ∃ m : Nat, m ≤ 200 ∧ t.2.1 = nI m := by
  have hB := (h.1 e he).2.1 0 (by omega)
  have hN := (h.1 e he).2.2.1
  unfold encM
  by_cases q : zI A (14 + 80 * e) 1 = 0
  · rw [if_pos q]
    exact ⟨hB, rfl, fun t ht => absurd ht (by simp)⟩
  · rw [if_neg q]
    obtain ⟨n0, mt, hmt, hn3⟩ := hN q
    by_cases q2 : zI A (14 + 80 * e) 3 ≤ zI A (14 + 80 * e) 2
    · rw [if_pos q2]
      refine ⟨⟨mt, hmt, hn3⟩, rfl, fun t ht => ?_⟩
      rw [List.mem_singleton.mp ht]
      exact ⟨mt, hmt, hn3⟩
    · rw [if_neg q2]
      refine ⟨⟨mt, hmt, hn3⟩, rfl, fun t ht => ?_⟩
      rcases List.mem_cons.mp ht with w | w
      · rw [w]
        have h3 : zI A (14 + 80 * e) 3 ≤ 200 := by
          rw [hn3]
          exact (nI_leI (a := mt) (b := 200) (by omega) (by decide)).mpr hmt
        exact nI_200 n0 (Int32.le_trans (Int32.le_of_lt (Int32.not_le.mp q2)) h3)
      · rw [List.mem_singleton.mp w]
        exact ⟨mt, hmt, hn3⟩
theorem nfld_app : ∀ (S T : List zS), nfld (S ++ T) = nfld S + nfld T
  | [], T => (Nat.zero_add _).symm
  | s :: S, T => by
    have ih := nfld_app S T
    show (if s.1 = 0 then nfld (S ++ T) else nfld (S ++ T) + 1) = (if s.1 = 0 then nfld S else nfld S + 1) + nfld T
    split
    · exact ih
    · rw [ih]
      omega
theorem frw_h {s z : Int32} (h : WfD A e0 d x) (he : e < 2) (hK : (zK A e).length ≤ 6) (hz : z = 0 ∨ z = 1) : FrW (1, s, nI (encB A e).length, z, sumS (encB A e), [], encB A e) := by
  obtain ⟨h1, h2, h3⟩ := encM_W h he
  have hq := nfld_q (encM A e).2.1 (zK A e) (encM A e).1
  refine ⟨Or.inr (Or.inl rfl), hz, fun q => absurd (show (1 : Int32) = 0 from q) (by decide), fun _ => ⟨?_, fun t ht t0 => ?_⟩⟩
  · show nfld (encB A e) ≤ 6
    unfold encB
    rw [nfld_app, h2, hq.1]
    omega
  · have ht2 : t ∈ encB A e := ht
    unfold encB at ht2
    rcases List.mem_append.mp ht2 with w | w
    · exact h3 t w
    · exact absurd t0 (hq.2 t w)
theorem wf_enc (h : WfD A e0 d x) (he : e < 2) : WfD (encA A e) e0 d x := by
  obtain ⟨⟨m, hm, hm2⟩, _⟩ := encM_W h he
  unfold encA
  rw [hm2]
  refine wf_14 (A := yB A e 0 (encT (nI m) (zK A e) (encM A e).1, nI m)) (f := up2 (zI A) (14 + 80 * e) 1 0) (wf_B h hm) he (fun b i q => up2_a q) fun q => absurd up2_same q
theorem enc_S {j : Nat} (he : e < 2) (hk : k < 12) : zI (encA A e) (29 + 80 * e + 5 * k) j = zI A (29 + 80 * e + 5 * k) j := zI_a (by omega)
theorem wf_sh0 {z : Int32} (h : WfD A e0 d x) (he : e < 2) (hK : (zK A e).length ≤ 6) (hz : z = 0 ∨ z = 1) : WfD (yK (push (encA A e) (1 - e) (1, nI (2 * k + 1), nI (encB A e).length, z, sumS (encB A e), [], encB A e)) e []) e0 d x := by
  have h1 := wf_push (p := 1 - e) (f := (1, nI (2 * k + 1), nI (encB A e).length, z, sumS (encB A e), [], encB A e)) (wf_enc h he) (by omega) (frw_h h he hK hz)
  exact h1
theorem wf_sh1 {z : Int32} {B : zA} (hB : WfD (sHd1 A e k z) e0 d x) (he : e < 2) (hk : k < 12) (h1 : ¬ zI A (29 + 80 * e + 5 * k) 1 = 0) : WfD (sHd A e k z) e0 d x := by
  have e1 : zI (sHd1 A e k z) (29 + 80 * e + 5 * k) 1 = zI A (29 + 80 * e + 5 * k) 1 := (zI_k (by decide)).trans (enc_S he hk)
  have e5 : zI (sHd1 A e k z) (29 + 80 * e + 5 * k) 5 = 1 := zI_s
  unfold sHd
  split
  · exact hB
  · refine wf_endS (wf_s6 hB he hk (Or.inr rfl) (by rw [e5]; decide) (by rw [e1]; exact h1)) he hk ?_
    rw [zI_k (by decide), e1]
    exact h1
theorem wf_sHd {z : Int32} (h : WfD A e0 d x) (he : e < 2) (hk : k < 12) (hK : (zK A e).length ≤ 6) (hz : z = 0 ∨ z = 1) (h1 : ¬ zI A (29 + 80 * e + 5 * k) 1 = 0) : WfD (sHd A e k z) e0 d x := wf_sh1 (B := A) (wf_s5 (wf_sh0 h he hK hz) he hk) he hk h1
theorem wf_op1 {s r : Int32} (h : WfD A e0 d 12) (hk : k < 12) (hno : zI A (9 + 80 * 0) 15 = nI (2 * k + 1)) (hid : zI A (29 + 80 * 0 + 5 * k) 1 = 0) : WfD (opnA (op1 A 0) 0 k s r) e0 d k := by
  have h0 : WfD (yI (op1 A 0) (29 + 80 * 0 + 5 * k) 1 1) e0 d k := by
    have hne : ∀ b i, ¬ (b = 9 + 80 * 0 ∧ i = 15) → ¬ (b = 29 + 80 * 0 + 5 * k ∧ i = 1) → zI (yI (op1 A 0) (29 + 80 * 0 + 5 * k) 1 1) b i = zI A b i := fun b i q1 q2 => (up2_ne q2).trans (up2_ne q1)
    obtain ⟨h1, h2, h3, rr, r1, r2, r3⟩ := wf_x (x := k) h
    have hrk : k = rr := by have := (nI_eq (a := 2 * rr + 1) (b := 2 * k + 1) (by omega) (by omega)).mp (r2.symm.trans hno); omega
    subst hrk
    refine ⟨fun c hc => (h1 c hc).cg (f := zI (yI (op1 A 0) (29 + 80 * 0 + 5 * k) 1 1)) hc (fun j hj => hne _ _ (by omega) (by omega)) (hne _ _ (by omega) (by omega)) (hne _ _ (by omega) (by omega)), fun c hc => ⟨(h2 c hc).1, (hne _ _ (by omega) (by omega)).trans (h2 c hc).2.1, (h2 c hc).2.2⟩, fun c g hc hg => ?_, k + 1, hk, ?_, fun g q1 q2 => (hne _ _ (by omega) (by omega)).trans (r3 g (by omega) q2)⟩
    · by_cases q : c = 0 ∧ g = k
      · obtain ⟨rfl, rfl⟩ := q
        obtain ⟨a1, a2, a3, a4, a5⟩ := h3 0 g hc hg
        unfold WS
        rw [hne (29 + 80 * 0 + 5 * g) 6 (by omega) (by omega), hne (29 + 80 * 0 + 5 * g) 5 (by omega) (by omega), zI_s]
        exact ⟨a1, a2, fun q => absurd q (by decide), fun _ q _ => absurd rfl q, a5⟩
      · exact (h3 c g hc hg).cg (f := zI (yI (op1 A 0) (29 + 80 * 0 + 5 * k) 1 1)) fun j hj => hne _ _ (by omega) (by omega)
    · have e1 : zI (yI (op1 A 0) (29 + 80 * 0 + 5 * k) 1 1) 9 15 = zI A (9 + 80 * 0) 15 + 2 := (zI_a (by omega)).trans zI_s
      rw [e1, hno]
      exact nI_ad (2 * k + 1) 2
  exact wf_I (wf_I h0 (n_S (e := 0) (by omega) hk (by omega))) (n_S (e := 0) (by omega) hk (by omega))
theorem wf_opS {z : Int32} (h : WfD A e0 d 12) (hk : k < 12) (hK : (zK A 0).length ≤ 6) (hz : z = 0 ∨ z = 1) (hno : zI A (9 + 80 * 0) 15 = nI (2 * k + 1)) (hid : zI A (29 + 80 * 0 + 5 * k) 1 = 0) : WfD (opS A 0 k z) e0 d 12 := by
  unfold opS
  have h1 := wf_op1 (s := zI (op1 A 0) (25 + 80 * 0) 2) (r := zI (op1 A 0) (26 + 80 * 0) 2) h hk hno hid
  exact wf_sh1 (B := A) (wf_s5x (wf_sh0 h1 (by omega) hK hz) hk) (by omega) hk opn_1
theorem bW_and (y : Int32) : bW (y &&& 255) := by
  unfold bW
  rw [Int32.and_assoc]
  rfl
theorem lowB_W (b : Int64) : ∀ n y, y ∈ lowB b n → bW y
  | 0, y, h => absurd h (by simp [lowB])
  | n + 1, y, h => by
    unfold lowB at h
    rcases List.mem_append.mp h with q | q
    · exact lowB_W b n y q
    · rw [List.mem_singleton.mp q]
      exact bW_and _
theorem wf_wr {b : Int64} {n : Nat} {z : Int32} (h : WfD A e0 d x) (he : e < 2) (hk : k < 12) (hz : z = 0 ∨ z = 1) (h5 : ¬ zI A (29 + 80 * e + 5 * k) 5 = 0) (h1 : ¬ zI A (29 + 80 * e + 5 * k) 1 = 0) : WfD (wrA A e k b n z) e0 d x := by
  refine wf_s6 (wf_W h he hk (fun y hy => ?_) (fun q => absurd q h1)) he hk hz h5 h1
  rcases List.mem_append.mp hy with q | q
  · exact (h.2.2.1 e k he hk).2.2.2.2 y q
  · exact lowB_W b n y q
theorem wf_sDt (h : WfD A e0 d x) (he : e < 2) (hk : k < 12) (h1 : ¬ zI A (29 + 80 * e + 5 * k) 1 = 0) : WfD (sDt A e k) e0 d x := by
  have hbW := (h.2.2.1 e k he hk).2.2.2.2
  have h3 : WfD (sD3 A e k) e0 d x := wf_I (wf_I (wf_W h he hk (fun y hy => hbW y (List.mem_of_mem_drop hy)) (fun q => absurd q h1)) (n_S he hk (by omega))) (n_E he (by omega))
  have h4 : ∀ z, z = 0 ∨ z = 1 → WfD (sD4 A e k z) e0 d x := fun z hz => wf_push h3 (by omega) ⟨Or.inl rfl, hz, fun _ => ⟨rfl, by
    show (sDp A e k).length ≤ 15
    unfold sDp
    rw [List.length_take]
    have := tkn8 (c := (zW A e k).length) (mostW_le A e k)
    omega, fun y hy => hbW y (List.mem_of_mem_take hy)⟩, fun q => absurd (show (0 : Int32) = 1 from q) (by decide)⟩
  have e1 : ∀ z, zI (sD4 A e k z) (29 + 80 * e + 5 * k) 1 = zI A (29 + 80 * e + 5 * k) 1 := fun z => (zI_a (by omega)).trans (zI_k (by decide))
  unfold sDt
  split
  · exact h4 0 (Or.inl rfl)
  · split
    · exact wf_endS (h4 1 (Or.inr rfl)) he hk (by rw [e1]; exact h1)
    · exact h4 0 (Or.inl rfl)
theorem wf_pmp (he : e < 2) : ∀ (n q : Nat) (A : zA), WfD A e0 d x → WfD (pmp e n q A).2 e0 d x
  | 0, _, _, h => h
  | n + 1, q, A, h => by
    unfold pmp
    split
    · exact h
    · cases hx : nxF (csZ A e) q 12 1 with
      | none => exact h
      | some k =>
        have hk := nxF_lt 12 1 hx
        have hs := cs_st (nxF_some 12 1 hx)
        refine wf_pmp he n (k + 1) _ (wf_sDt (wf_16 h he hk) he hk ?_)
        rw [zI_a (by omega)]
        rcases hs with w | w <;> rw [w] <;> decide
theorem wf_rd {n : Int32} (h : WfD A e 0 x) (he : e < 2) (hk : k < 12) : WfD (rdA A e k n) e 0 x := by
  obtain ⟨u1, u2, u3⟩ := h.u he
  have hl : tkn n (unrd (zU A e) k).length ≤ (unrd (zU A e) k).length := Nat.min_le_right _ _
  have hc := tkU_cnt (zU A e) k _ hl
  have hlen : (rdP A e k n).length = tkn n (unrd (zU A e) k).length := by
    unfold rdP
    rw [List.length_take]
    omega
  have h0 : WfD (yU A e (tkU (zU A e) k (tkn n (unrd (zU A e) k).length))) e (tkn n (unrd (zU A e) k).length) x := by
    refine wf_U (k := k) h he hk ?_ (fun g hg q => tkU_g _ _ _ _ hg hk q) (fun q => ?_)
    · unfold WU
      rw [show zU (yU A e (tkU (zU A e) k (tkn n (unrd (zU A e) k).length))) e = tkU (zU A e) k (tkn n (unrd (zU A e) k).length) from upf_same]
      refine ⟨by omega, ?_, fun y hy => u3 y (tkU_mem _ _ _ _ hy)⟩
      show zI A (9 + 80 * e) 5 = _
      rw [u2]
      congr 1
      omega
    · rw [tkU_k, ((h.2.2.1 e k he hk).2.2.1 q).2.2, List.drop_nil]
  have h1 : WfD (rd1 A e k n) e 0 x := by
    unfold rd1
    rw [hlen]
    exact wf_give h0 he
  unfold rdA
  split
  · exact h1
  · split
    · exact h1
    · exact wf_push (wf_I h1 (n_S he hk (by omega))) (by omega) (frw_o (by decide) (by decide))
theorem kn_in {s : Int32} (h : ¬ knC s = 0) : s = 1 ∨ s = 3 ∨ s = 4 := by
  unfold knC at h
  by_cases q1 : s = 1
  · exact Or.inl q1
  · by_cases q3 : s = 3
    · exact Or.inr (Or.inl q3)
    · by_cases q4 : s = 4
      · exact Or.inr (Or.inr q4)
      · rw [if_neg q1, if_neg q3, if_pos q4] at h
        exact absurd rfl h
theorem wf_sSt {s v : Int32} (h : WfD A e0 d x) (he : e < 2) (hs : ¬ knC s = 0) : WfD (sSt A e s v) e0 d x := by
  refine wf_push (wf_D h fun y hy => ?_) (by omega) (frw_o (by decide) (by decide))
  rcases List.mem_append.mp hy with q | q
  · exact (h.1 e he).2.2.2.2.1 y q
  · rw [List.mem_singleton.mp q]
    exact kn_in hs
theorem frw_0 {s z : Int32} {j : Nat} (hj : j ≤ 15) (hz : z = 0 ∨ z = 1) : FrW (0, s, nI j, z, 0, List.replicate j 0, []) := by
  refine ⟨Or.inl rfl, hz, fun _ => ⟨?_, ?_, fun y hy => ?_⟩, fun q => absurd (show (0 : Int32) = 1 from q) (by decide)⟩
  · show nI j = nI (List.replicate j (0 : Int32)).length
    rw [List.length_replicate]
  · show (List.replicate j (0 : Int32)).length ≤ 15
    rw [List.length_replicate]
    exact hj
  · rw [(List.mem_replicate.mp hy).2]
    exact (by decide : (0 : Int32) &&& 255 = 0)
theorem frw_1 {s z v : Int32} (hz : z = 0 ∨ z = 1) : FrW (hfr s z [(1, v, 0, 0)]) := by
  refine ⟨Or.inr (Or.inl rfl), hz, fun q => absurd (show (1 : Int32) = 0 from q) (by decide), fun _ => ⟨?_, fun t ht t0 => ?_⟩⟩
  · show (if (1 : Int32) = 0 then 0 else 0 + 1) ≤ 6
    decide
  · rw [List.mem_singleton.mp ht] at t0
    exact absurd (show (1 : Int32) = 0 from t0) (by decide)
end WFO

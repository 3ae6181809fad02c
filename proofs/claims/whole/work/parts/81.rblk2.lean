theorem dMod_getBlock_0 : decode uMod_getBlock.2.1 0 = .ok (.aload_n 0, 1) := by decide +kernel
theorem dMod_getBlock_1 : decode uMod_getBlock.2.1 1 = .ok (.iconst 0, 1) := by decide +kernel
theorem dMod_getBlock_2 : decode uMod_getBlock.2.1 2 = .ok (.putfield 238, 3) := by decide +kernel
theorem dMod_getBlock_5 : decode uMod_getBlock.2.1 5 = .ok (.iconst 0, 1) := by decide +kernel
theorem dMod_getBlock_6 : decode uMod_getBlock.2.1 6 = .ok (.istore_n 3, 1) := by decide +kernel
theorem dMod_getBlock_7 : decode uMod_getBlock.2.1 7 = .ok (.iconst 0, 1) := by decide +kernel
theorem dMod_getBlock_8 : decode uMod_getBlock.2.1 8 = .ok (.istore 4, 2) := by decide +kernel
theorem dMod_getBlock_10 : decode uMod_getBlock.2.1 10 = .ok (.iload 4, 2) := by decide +kernel
theorem dMod_getBlock_12 : decode uMod_getBlock.2.1 12 = .ok (.aload_n 0, 1) := by decide +kernel
theorem dMod_getBlock_13 : decode uMod_getBlock.2.1 13 = .ok (.getfield 25, 3) := by decide +kernel
theorem dMod_getBlock_16 : decode uMod_getBlock.2.1 16 = .ok (.iload_n 2, 1) := by decide +kernel
theorem dMod_getBlock_17 : decode uMod_getBlock.2.1 17 = .ok (.iaload, 1) := by decide +kernel
theorem dMod_getBlock_18 : decode uMod_getBlock.2.1 18 = .ok (.if_icmp .ge 62, 3) := by decide +kernel
theorem dMod_getBlock_21 : decode uMod_getBlock.2.1 21 = .ok (.aload_n 0, 1) := by decide +kernel
theorem dMod_getBlock_22 : decode uMod_getBlock.2.1 22 = .ok (.iload_n 1, 1) := by decide +kernel
theorem dMod_getBlock_23 : decode uMod_getBlock.2.1 23 = .ok (.bipush 8, 2) := by decide +kernel
theorem dMod_getBlock_25 : decode uMod_getBlock.2.1 25 = .ok (.iload_n 2, 1) := by decide +kernel
theorem dMod_getBlock_26 : decode uMod_getBlock.2.1 26 = .ok (.imul, 1) := by decide +kernel
theorem dMod_getBlock_27 : decode uMod_getBlock.2.1 27 = .ok (.iload 4, 2) := by decide +kernel
theorem dMod_getBlock_29 : decode uMod_getBlock.2.1 29 = .ok (.iadd, 1) := by decide +kernel
theorem dMod_getBlock_30 : decode uMod_getBlock.2.1 30 = .ok (.iload 4, 2) := by decide +kernel
theorem dMod_getBlock_32 : decode uMod_getBlock.2.1 32 = .ok (.ifCond .ne 7, 3) := by decide +kernel
theorem dMod_getBlock_35 : decode uMod_getBlock.2.1 35 = .ok (.iconst 1, 1) := by decide +kernel
theorem dMod_getBlock_36 : decode uMod_getBlock.2.1 36 = .ok (.goto 4, 3) := by decide +kernel
theorem dMod_getBlock_39 : decode uMod_getBlock.2.1 39 = .ok (.iconst 0, 1) := by decide +kernel
theorem dMod_getBlock_40 : decode uMod_getBlock.2.1 40 = .ok (.iload_n 3, 1) := by decide +kernel
theorem dMod_getBlock_41 : decode uMod_getBlock.2.1 41 = .ok (.invokevirtual 242, 3) := by decide +kernel
theorem dMod_getBlock_44 : decode uMod_getBlock.2.1 44 = .ok (.ifCond .ne 5, 3) := by decide +kernel
theorem dMod_getBlock_47 : decode uMod_getBlock.2.1 47 = .ok (.iconst 0, 1) := by decide +kernel
theorem dMod_getBlock_48 : decode uMod_getBlock.2.1 48 = .ok (.ireturn, 1) := by decide +kernel
theorem dMod_getBlock_49 : decode uMod_getBlock.2.1 49 = .ok (.iload_n 3, 1) := by decide +kernel
theorem dMod_getBlock_50 : decode uMod_getBlock.2.1 50 = .ok (.ifCond .ne 18, 3) := by decide +kernel
theorem dMod_getBlock_53 : decode uMod_getBlock.2.1 53 = .ok (.aload_n 0, 1) := by decide +kernel
theorem dMod_getBlock_54 : decode uMod_getBlock.2.1 54 = .ok (.getfield 39, 3) := by decide +kernel
theorem dMod_getBlock_57 : decode uMod_getBlock.2.1 57 = .ok (.bipush 8, 2) := by decide +kernel
theorem dMod_getBlock_59 : decode uMod_getBlock.2.1 59 = .ok (.iload_n 2, 1) := by decide +kernel
theorem dMod_getBlock_60 : decode uMod_getBlock.2.1 60 = .ok (.imul, 1) := by decide +kernel
theorem dMod_getBlock_61 : decode uMod_getBlock.2.1 61 = .ok (.iload 4, 2) := by decide +kernel
theorem dMod_getBlock_63 : decode uMod_getBlock.2.1 63 = .ok (.iadd, 1) := by decide +kernel
theorem dMod_getBlock_64 : decode uMod_getBlock.2.1 64 = .ok (.iaload, 1) := by decide +kernel
theorem dMod_getBlock_65 : decode uMod_getBlock.2.1 65 = .ok (.ifCond .eq 7, 3) := by decide +kernel
theorem dMod_getBlock_68 : decode uMod_getBlock.2.1 68 = .ok (.iconst 1, 1) := by decide +kernel
theorem dMod_getBlock_69 : decode uMod_getBlock.2.1 69 = .ok (.goto 4, 3) := by decide +kernel
theorem dMod_getBlock_72 : decode uMod_getBlock.2.1 72 = .ok (.iconst 0, 1) := by decide +kernel
theorem dMod_getBlock_73 : decode uMod_getBlock.2.1 73 = .ok (.istore_n 3, 1) := by decide +kernel
theorem dMod_getBlock_74 : decode uMod_getBlock.2.1 74 = .ok (.iinc 4 1, 3) := by decide +kernel
theorem dMod_getBlock_77 : decode uMod_getBlock.2.1 77 = .ok (.goto (-67), 3) := by decide +kernel
theorem dMod_getBlock_80 : decode uMod_getBlock.2.1 80 = .ok (.aload_n 0, 1) := by decide +kernel
theorem dMod_getBlock_81 : decode uMod_getBlock.2.1 81 = .ok (.getfield 129, 3) := by decide +kernel
theorem dMod_getBlock_84 : decode uMod_getBlock.2.1 84 = .ok (.iload_n 1, 1) := by decide +kernel
theorem dMod_getBlock_85 : decode uMod_getBlock.2.1 85 = .ok (.iconst 0, 1) := by decide +kernel
theorem dMod_getBlock_86 : decode uMod_getBlock.2.1 86 = .ok (.bastore, 1) := by decide +kernel
theorem dMod_getBlock_87 : decode uMod_getBlock.2.1 87 = .ok (.iconst 1, 1) := by decide +kernel
theorem dMod_getBlock_88 : decode uMod_getBlock.2.1 88 = .ok (.ireturn, 1) := by decide +kernel
theorem cs_Mod_242 : cV "InterleavedLinkModel" 242 uMod_does 4 := ⟨⟨Or.inl (gW_in 1088 (by decide +kernel) rfl), (gW_in 74 (by decide +kernel) rfl), (gW_in 1091 (by decide +kernel) rfl), ⟨by decide, by decide⟩, by decide +kernel⟩, (gW_in 1090 (by decide +kernel) rfl), (gW_in 37 (by decide +kernel) rfl)⟩
/-! ===== the reference over the state: a whole block ===== -/
def StF (M : mM) (sl : Nat) (S : List zS) : Prop := Ramounts M sl = nI S.length ∧ S.length ≤ 8 ∧ ∀ j s, S[j]? = some s → StpR M (8 * sl + j) s
theorem StF.mv {M M' : mM} {sl : Nat} {S : List zS} {PI PR : Nat → Nat → Prop} (h : StF M sl S) (c : Chg M M' PI PR) (hN : 223 ≤ mN M) (n : ∀ a j, PI a j → a ≠ 175 ∧ ¬ (179 ≤ a ∧ a ≤ 182)) : StF M' sl S := by
  obtain ⟨h1, h2, h3⟩ := h
  refine ⟨(c.2.2.1 175 _ (by omega) fun q => (n _ _ q).1 rfl).trans h1, h2, fun j s hs => ?_⟩
  obtain ⟨s1, s2, s3, s4⟩ := h3 j s hs
  have q : ∀ a i, 179 ≤ a → a ≤ 182 → mI M' a i = mI M a i := fun a i p1 p2 => c.2.2.1 a i (by omega) fun q => (n _ _ q).2 ⟨p1, p2⟩
  exact ⟨(q 179 _ (by omega) (by omega)).trans s1, (q 180 _ (by omega) (by omega)).trans s2, (q 181 _ (by omega) (by omega)).trans s3, (q 182 _ (by omega) (by omega)).trans s4⟩
theorem FrR.stf {M : mM} {sl : Nat} {f : zF} (h : FrR M sl f) (h1 : f.1 = 1) : StF M sl f.2.2.2.2.2.2 := by
  obtain ⟨_, q2, q3, _, q5⟩ := h.2.2.2.2.2.1 h1
  exact ⟨h.2.2.1.trans q2, q3, q5⟩
def fz (k : Nat) : Int32 := if k = 0 then 1 else 0
def fw (w : Int32) (s : zS) : Int32 := if w = 0 then (if s.1 = 0 then 0 else 1) else 1
set_option maxRecDepth 100000 in
set_option maxHeartbeats 4000000 in
theorem bm_no {X : mX} {l : Launch} {M1 : mM} {e sl k : Nat} {w : Int32} {Q : Option Value → mM → Prop} (hS : Shp M1) (he : e < 2) (hsl : sl < 96) (hk : k < 8) (hC : Ct X l uMod_does (rk 3 68) [.ref 169, .int (nI e), .int (nI (8 * sl + k)), .int (fz k), .int w] M1 (fun r M' => r = some (.int 0) ∧ M' = M1)) (hq : Q (some (.int 0)) M1) : G X l uMod_getBlock (rk 4 98) 0 0 M1 21 [some (.ref 169), some (.int (nI e)), some (.int (nI sl)), some (.int w), some (.int (nI k))] [] Q := by
  refine g_aload_n 21 dMod_getBlock_21 rfl ?_
  refine g_iload_n 22 dMod_getBlock_22 rfl ?_
  refine g_bipush 23 (nI 8) dMod_getBlock_23 rfl ?_
  refine g_iload_n 25 dMod_getBlock_25 rfl ?_
  refine g_imulN 26 dMod_getBlock_26 ?_
  refine g_iload 27 dMod_getBlock_27 rfl ?_
  refine g_iaddN 29 dMod_getBlock_29 ?_
  refine g_iload 30 dMod_getBlock_30 rfl ?_
  refine g_if_neN 32 39 dMod_getBlock_32 rfl (by omega) (fun h32 => ?_) (fun h32 => ?_)
  · refine g_iconst 39 0 dMod_getBlock_39 rfl ?_
    refine g_top (fz k) (by unfold fz; first | rw [if_pos h32] | rw [if_neg h32]) ?_
    refine g_iload_n 40 dMod_getBlock_40 rfl ?_
    refine g_callV 41 [_, _, _, _] dMod_getBlock_41 cs_Mod_242 rfl (ci := 10) rfl (by decide) hS.mod rfl ⟨(Nat.le_of_ble_eq_true rfl), (Nat.le_of_ble_eq_true rfl)⟩ (Nat.le_of_ble_eq_true rfl) (hC) (Nat.le_of_ble_eq_true rfl) (Nat.le_of_ble_eq_true rfl) ?_
    rintro _ M2 ⟨rfl, hM2⟩
    rw [hM2]
    clear hM2 M2
    refine g_if_ne 44 49 dMod_getBlock_44 rfl (fun h44 => ?_) (fun h44 => ?_)
    · exact absurd rfl h44
    · refine g_iconst 47 0 dMod_getBlock_47 rfl ?_
      exact g_zret 48 dMod_getBlock_48 rfl (by decide) hq
  · refine g_iconst 35 1 dMod_getBlock_35 rfl ?_
    refine g_goto 36 40 dMod_getBlock_36 rfl ?_
    refine g_top (fz k) (by unfold fz; first | rw [if_pos h32] | rw [if_neg h32]) ?_
    refine g_iload_n 40 dMod_getBlock_40 rfl ?_
    refine g_callV 41 [_, _, _, _] dMod_getBlock_41 cs_Mod_242 rfl (ci := 10) rfl (by decide) hS.mod rfl ⟨(Nat.le_of_ble_eq_true rfl), (Nat.le_of_ble_eq_true rfl)⟩ (Nat.le_of_ble_eq_true rfl) (hC) (Nat.le_of_ble_eq_true rfl) (Nat.le_of_ble_eq_true rfl) ?_
    rintro _ M2 ⟨rfl, hM2⟩
    rw [hM2]
    clear hM2 M2
    refine g_if_ne 44 49 dMod_getBlock_44 rfl (fun h44 => ?_) (fun h44 => ?_)
    · exact absurd rfl h44
    · refine g_iconst 47 0 dMod_getBlock_47 rfl ?_
      exact g_zret 48 dMod_getBlock_48 rfl (by decide) hq
set_option maxRecDepth 100000 in
set_option maxHeartbeats 4000000 in
theorem bm_yes {X : mX} {l : Launch} {M1 : mM} {e sl k : Nat} {w : Int32} {Q : Option Value → mM → Prop} (hS : Shp M1) (he : e < 2) (hsl : sl < 96) (hk : k < 8) {s : zS} {P : mM → Prop} (hC : Ct X l uMod_does (rk 3 68) [.ref 169, .int (nI e), .int (nI (8 * sl + k)), .int (fz k), .int w] M1 (fun r M' => r = some (.int 1) ∧ P M')) (hP : ∀ M', P M' → Shp M' ∧ RstepKind M' (8 * sl + k) = s.1) (hq : ∀ M', P M' → G X l uMod_getBlock (rk 4 98) 0 0 M' 10 [some (.ref 169), some (.int (nI e)), some (.int (nI sl)), some (.int (fw w s)), some (.int (nI (k + 1)))] [] Q) : G X l uMod_getBlock (rk 4 98) 0 0 M1 21 [some (.ref 169), some (.int (nI e)), some (.int (nI sl)), some (.int w), some (.int (nI k))] [] Q := by
  refine g_aload_n 21 dMod_getBlock_21 rfl ?_
  refine g_iload_n 22 dMod_getBlock_22 rfl ?_
  refine g_bipush 23 (nI 8) dMod_getBlock_23 rfl ?_
  refine g_iload_n 25 dMod_getBlock_25 rfl ?_
  refine g_imulN 26 dMod_getBlock_26 ?_
  refine g_iload 27 dMod_getBlock_27 rfl ?_
  refine g_iaddN 29 dMod_getBlock_29 ?_
  refine g_iload 30 dMod_getBlock_30 rfl ?_
  refine g_if_neN 32 39 dMod_getBlock_32 rfl (by omega) (fun h32 => ?_) (fun h32 => ?_)
  · refine g_iconst 39 0 dMod_getBlock_39 rfl ?_
    refine g_top (fz k) (by unfold fz; first | rw [if_pos h32] | rw [if_neg h32]) ?_
    refine g_iload_n 40 dMod_getBlock_40 rfl ?_
    refine g_callV 41 [_, _, _, _] dMod_getBlock_41 cs_Mod_242 rfl (ci := 10) rfl (by decide) hS.mod rfl ⟨(Nat.le_of_ble_eq_true rfl), (Nat.le_of_ble_eq_true rfl)⟩ (Nat.le_of_ble_eq_true rfl) (hC) (Nat.le_of_ble_eq_true rfl) (Nat.le_of_ble_eq_true rfl) ?_
    rintro _ M2 ⟨rfl, hp⟩
    have hS2 := (hP M2 hp).1
    refine g_if_ne 44 49 dMod_getBlock_44 rfl (fun h44 => ?_) (fun h44 => ?_)
    · refine g_iload_n 49 dMod_getBlock_49 rfl ?_
      refine g_if_ne 50 68 dMod_getBlock_50 rfl (fun h50 => ?_) (fun h50 => ?_)
      · refine g_iconst 68 1 dMod_getBlock_68 rfl ?_
        refine g_goto 69 73 dMod_getBlock_69 rfl ?_
        refine g_top (fw w s) (by unfold fw; first | (rw [if_neg h50]; done) | (rw [if_pos h50, if_pos h65]; done) | (rw [if_pos h50, if_neg h65]; done)) ?_
        refine g_istore_n 73 dMod_getBlock_73 (by decide) rfl ?_
        refine g_iincN 74 dMod_getBlock_74 rfl (by decide) rfl ?_
        refine g_goto 77 10 dMod_getBlock_77 rfl ?_
        exact hq M2 hp
      · refine g_aload_n 53 dMod_getBlock_53 rfl ?_
        refine g_getr 54 10 9 dMod_getBlock_54 fs_Mod_39 rfl hS2.mod hS2.R_stepKind ?_
        refine g_bipush 57 (nI 8) dMod_getBlock_57 rfl ?_
        refine g_iload_n 59 dMod_getBlock_59 rfl ?_
        refine g_imulN 60 dMod_getBlock_60 ?_
        refine g_iload 61 dMod_getBlock_61 rfl ?_
        refine g_iaddN 63 dMod_getBlock_63 ?_
        refine g_ialdN 64 dMod_getBlock_64 hS2.T_stepKind (by omega) (by decide) ?_
        refine g_top (s.1) ((hP M2 hp).2) ?_
        refine g_if_eq 65 72 dMod_getBlock_65 rfl (fun h65 => ?_) (fun h65 => ?_)
        · refine g_iconst 72 0 dMod_getBlock_72 rfl ?_
          refine g_top (fw w s) (by unfold fw; first | (rw [if_neg h50]; done) | (rw [if_pos h50, if_pos h65]; done) | (rw [if_pos h50, if_neg h65]; done)) ?_
          refine g_istore_n 73 dMod_getBlock_73 (by decide) rfl ?_
          refine g_iincN 74 dMod_getBlock_74 rfl (by decide) rfl ?_
          refine g_goto 77 10 dMod_getBlock_77 rfl ?_
          exact hq M2 hp
        · refine g_iconst 68 1 dMod_getBlock_68 rfl ?_
          refine g_goto 69 73 dMod_getBlock_69 rfl ?_
          refine g_top (fw w s) (by unfold fw; first | (rw [if_neg h50]; done) | (rw [if_pos h50, if_pos h65]; done) | (rw [if_pos h50, if_neg h65]; done)) ?_
          refine g_istore_n 73 dMod_getBlock_73 (by decide) rfl ?_
          refine g_iincN 74 dMod_getBlock_74 rfl (by decide) rfl ?_
          refine g_goto 77 10 dMod_getBlock_77 rfl ?_
          exact hq M2 hp
    · exact absurd h44 (by decide)
  · refine g_iconst 35 1 dMod_getBlock_35 rfl ?_
    refine g_goto 36 40 dMod_getBlock_36 rfl ?_
    refine g_top (fz k) (by unfold fz; first | rw [if_pos h32] | rw [if_neg h32]) ?_
    refine g_iload_n 40 dMod_getBlock_40 rfl ?_
    refine g_callV 41 [_, _, _, _] dMod_getBlock_41 cs_Mod_242 rfl (ci := 10) rfl (by decide) hS.mod rfl ⟨(Nat.le_of_ble_eq_true rfl), (Nat.le_of_ble_eq_true rfl)⟩ (Nat.le_of_ble_eq_true rfl) (hC) (Nat.le_of_ble_eq_true rfl) (Nat.le_of_ble_eq_true rfl) ?_
    rintro _ M2 ⟨rfl, hp⟩
    have hS2 := (hP M2 hp).1
    refine g_if_ne 44 49 dMod_getBlock_44 rfl (fun h44 => ?_) (fun h44 => ?_)
    · refine g_iload_n 49 dMod_getBlock_49 rfl ?_
      refine g_if_ne 50 68 dMod_getBlock_50 rfl (fun h50 => ?_) (fun h50 => ?_)
      · refine g_iconst 68 1 dMod_getBlock_68 rfl ?_
        refine g_goto 69 73 dMod_getBlock_69 rfl ?_
        refine g_top (fw w s) (by unfold fw; first | (rw [if_neg h50]; done) | (rw [if_pos h50, if_pos h65]; done) | (rw [if_pos h50, if_neg h65]; done)) ?_
        refine g_istore_n 73 dMod_getBlock_73 (by decide) rfl ?_
        refine g_iincN 74 dMod_getBlock_74 rfl (by decide) rfl ?_
        refine g_goto 77 10 dMod_getBlock_77 rfl ?_
        exact hq M2 hp
      · refine g_aload_n 53 dMod_getBlock_53 rfl ?_
        refine g_getr 54 10 9 dMod_getBlock_54 fs_Mod_39 rfl hS2.mod hS2.R_stepKind ?_
        refine g_bipush 57 (nI 8) dMod_getBlock_57 rfl ?_
        refine g_iload_n 59 dMod_getBlock_59 rfl ?_
        refine g_imulN 60 dMod_getBlock_60 ?_
        refine g_iload 61 dMod_getBlock_61 rfl ?_
        refine g_iaddN 63 dMod_getBlock_63 ?_
        refine g_ialdN 64 dMod_getBlock_64 hS2.T_stepKind (by omega) (by decide) ?_
        refine g_top (s.1) ((hP M2 hp).2) ?_
        refine g_if_eq 65 72 dMod_getBlock_65 rfl (fun h65 => ?_) (fun h65 => ?_)
        · refine g_iconst 72 0 dMod_getBlock_72 rfl ?_
          refine g_top (fw w s) (by unfold fw; first | (rw [if_neg h50]; done) | (rw [if_pos h50, if_pos h65]; done) | (rw [if_pos h50, if_neg h65]; done)) ?_
          refine g_istore_n 73 dMod_getBlock_73 (by decide) rfl ?_
          refine g_iincN 74 dMod_getBlock_74 rfl (by decide) rfl ?_
          refine g_goto 77 10 dMod_getBlock_77 rfl ?_
          exact hq M2 hp
        · refine g_iconst 68 1 dMod_getBlock_68 rfl ?_
          refine g_goto 69 73 dMod_getBlock_69 rfl ?_
          refine g_top (fw w s) (by unfold fw; first | (rw [if_neg h50]; done) | (rw [if_pos h50, if_pos h65]; done) | (rw [if_pos h50, if_neg h65]; done)) ?_
          refine g_istore_n 73 dMod_getBlock_73 (by decide) rfl ?_
          refine g_iincN 74 dMod_getBlock_74 rfl (by decide) rfl ?_
          refine g_goto 77 10 dMod_getBlock_77 rfl ?_
          exact hq M2 hp
    · exact absurd h44 (by decide)
set_option maxRecDepth 100000 in
set_option maxHeartbeats 4000000 in
theorem bk_enter {X : mX} {l : Launch} {M1 : mM} {e sl k : Nat} {w : Int32} {S0 : List zS} {Q : Option Value → mM → Prop} (hS : Shp M1) (he : e < 2) (hsl : sl < 96) (hk : k < 8) (hF : StF M1 sl S0) (hlt : k < S0.length) (hq : G X l uMod_getBlock (rk 4 98) 0 0 M1 21 [some (.ref 169), some (.int (nI e)), some (.int (nI sl)), some (.int w), some (.int (nI k))] [] Q) : G X l uMod_getBlock (rk 4 98) 0 0 M1 10 [some (.ref 169), some (.int (nI e)), some (.int (nI sl)), some (.int w), some (.int (nI k))] [] Q := by
  have hk8 := hF.2.1
  refine g_iload 10 dMod_getBlock_10 rfl ?_
  refine g_aload_n 12 dMod_getBlock_12 rfl ?_
  refine g_getr 13 10 5 dMod_getBlock_13 fs_Mod_25 rfl hS.mod hS.R_amounts ?_
  refine g_iload_n 16 dMod_getBlock_16 rfl ?_
  refine g_ialdN 17 dMod_getBlock_17 hS.T_amounts (by omega) (by decide) ?_
  refine g_top (nI (S0.length)) (hF.1) ?_
  refine g_icmp_geN 18 80 dMod_getBlock_18 rfl (by omega) (by omega) (fun h18 => ?_) (fun h18 => ?_)
  · exact absurd h18 (by omega)
  · exact hq
set_option maxRecDepth 100000 in
set_option maxHeartbeats 4000000 in
theorem g_blk {X : mX} {l : Launch} {e sl : Nat} {lim due : Int32} {S0 : List zS} {Q : Option Value → mM → Prop} (he : e < 2) (hsl : sl < 96) : ∀ (S : List zS) (k : Nat) (al w : Int32) (L : List (Int32 × Int32)) (mm : Nat) (acc : List (Int32 × Int32)) (M1 : mM), Shp M1 → TbR M1 (2 * e + 1) L (nI mm) → mm ≤ 200 → S0.drop k = S → k ≤ S0.length → LiR M1 acc → acc.length + nfld S ≤ 6 → StF M1 sl S0 → Rforce M1 (3 * e) = lim → Rneed M1 e = due → ((w = 0 ∧ al = 1) ∨ (w = 1 ∧ al = 0)) → (∀ t, t ∈ S → t.1 = 0 → ∃ m : Nat, m ≤ 200 ∧ t.2.1 = nI m) → (∀ M', (decR lim due S k al L (nI mm) acc).1 = none → TbR M' (2 * e + 1) (decR lim due S k al L (nI mm) acc).2.1 (decR lim due S k al L (nI mm) acc).2.2 → Chg M1 M' (blP e) no2 → Q (some (.int 0)) M') → (∀ M' ac, (decR lim due S k al L (nI mm) acc).1 = some ac → TbR M' (2 * e + 1) (decR lim due S k al L (nI mm) acc).2.1 (decR lim due S k al L (nI mm) acc).2.2 → LiR M' ac → Chg M1 M' (blP e) no2 → Q (some (.int 1)) (setI M' 209 e 0)) → G X l uMod_getBlock (rk 4 98) 0 0 M1 10 [some (.ref 169), some (.int (nI e)), some (.int (nI sl)), some (.int w), some (.int (nI k))] [] Q
  | [], k, al, w, L, mm, acc, M1, hS, hB, hmm, hR, hk, hLi, hnf, hF, hlim, hdu, hal, hmx, hq0, hq1 => by
    have hk8 := hF.2.1
    have hle : S0.length ≤ k := List.drop_eq_nil_iff.mp hR
    refine g_iload 10 dMod_getBlock_10 rfl ?_
    refine g_aload_n 12 dMod_getBlock_12 rfl ?_
    refine g_getr 13 10 5 dMod_getBlock_13 fs_Mod_25 rfl hS.mod hS.R_amounts ?_
    refine g_iload_n 16 dMod_getBlock_16 rfl ?_
    refine g_ialdN 17 dMod_getBlock_17 hS.T_amounts (by omega) (by decide) ?_
    refine g_top (nI (S0.length)) (hF.1) ?_
    refine g_icmp_geN 18 80 dMod_getBlock_18 rfl (by omega) (by omega) (fun h18 => ?_) (fun h18 => ?_)
    · refine g_aload_n 80 dMod_getBlock_80 rfl ?_
      refine g_getr 81 10 40 dMod_getBlock_81 fs_Mod_129 rfl hS.mod hS.R_need ?_
      refine g_iload_n 84 dMod_getBlock_84 rfl ?_
      refine g_iconst 85 0 dMod_getBlock_85 rfl ?_
      refine g_zastN 86 dMod_getBlock_86 hS.T_need (by omega) (by decide) (by decide) ?_
      refine g_iconst 87 1 dMod_getBlock_87 rfl ?_
      exact g_zret 88 dMod_getBlock_88 rfl (by decide) (hq1 M1 acc rfl hB hLi Chg.rf)
    · exact absurd hle h18
  | s :: S, k, al, w, L, mm, acc, M1, hS, hB, hmm, hR, hk, hLi, hnf, hF, hlim, hdu, hal, hmx, hq0, hq1 => by
    have hlt : k < S0.length := by
      apply Nat.lt_of_not_le
      intro q
      rw [List.drop_eq_nil_iff.mpr q] at hR
      cases hR
    have hx : S0[k]? = some s := by
      have := congrArg (fun z => z[0]?) hR
      simpa using this
    have hst := hF.2.2 k s hx
    have hk8 : k < 8 := by have := hF.2.1; omega
    have hR2 : S0.drop (k + 1) = S := by rw [← List.drop_drop, hR]; rfl
    have hmx2 : ∀ t, t ∈ S → t.1 = 0 → ∃ m : Nat, m ≤ 200 ∧ t.2.1 = nI m := fun t ht => hmx t (List.mem_cons_of_mem _ ht)
    refine bk_enter hS he hsl hk8 hF hlt ?_
    by_cases h0 : s.1 = 0
    · by_cases hal0 : al = 0
      · have hz : decR lim due (s :: S) k al L (nI mm) acc = (none, L, nI mm) := by rw [decR, if_pos h0, if_pos hal0]
        have hw : ¬ w = 0 := fun q => by rcases hal with ⟨_, q2⟩ | ⟨q1, _⟩; rw [q2] at hal0; exact absurd hal0 (by decide); rw [q1] at q; exact absurd q (by decide)
        exact bm_no hS he hsl hk8 (ct_do_m0 hS he hB (by omega) hst hlim hdu h0 hw) (hq0 M1 (by rw [hz]) (by rw [hz]; exact hB) Chg.rf)
      · have hw : w = 0 := by rcases hal with ⟨q1, _⟩ | ⟨_, q2⟩; exact q1; exact absurd q2 hal0
        by_cases hx1 : s.2.1 ≤ lim
        · have hz : decR lim due (s :: S) k al L (nI mm) acc = decR lim due S (k + 1) al (dropT s.2.1 L) s.2.1 acc := by rw [decR, if_pos h0, if_neg hal0, if_pos hx1]
          obtain ⟨m2, hm2, hs2⟩ := hmx s (List.mem_cons_self ..) h0
          refine bm_yes (s := s) (P := fun M2 => TbR M2 (2 * e + 1) (dropT s.2.1 L) s.2.1 ∧ Chg M1 M2 (blP e) no2 ∧ LiR M2 acc) hS he hsl hk8 ((ct_do_m hS he hB (by omega) hst hlim hdu h0 hw hx1 (by rw [hs2]; exact nI_pos' (by omega))).post fun r M2 q => ⟨q.1, q.2.1, q.2.2.mono (fun a j q => by unfold blP; omega) (fun _ _ q => q), hLi.mv q.2.2 hS.1 fun a j q => by omega⟩) (fun M2 q => ⟨hS.mv q.2.1 fun _ _ q => q.elim, ((hF.mv q.2.1 hS.1 (fun a j q => by unfold blP at q; omega)).2.2 k s hx).1⟩) (fun M2 q => ?_)
          rw [hz] at hq0 hq1
          rw [hs2] at q hq0 hq1
          have hfw : fw w s = 0 := by unfold fw; rw [if_pos hw, if_pos h0]
          have hnf2 : acc.length + nfld S ≤ 6 := by unfold nfld at hnf; rw [if_pos h0] at hnf; exact hnf
          exact g_blk he hsl S (k + 1) al (fw w s) _ m2 acc M2 (hS.mv q.2.1 fun _ _ q => q.elim) q.1 hm2 hR2 hlt q.2.2 hnf2 (hF.mv q.2.1 hS.1 (fun a j q => by unfold blP at q; omega)) ((q.2.1.2.2.1 205 _ (by have := hS.1; omega) (by unfold blP; omega)).trans hlim) ((q.2.1.2.2.1 209 _ (by have := hS.1; omega) (by unfold blP; omega)).trans hdu) (by rw [hfw]; rcases hal with ⟨_, q2⟩ | ⟨_, q2⟩; exact Or.inl ⟨rfl, q2⟩; exact absurd q2 hal0) hmx2 (fun M3 h1 h2 h3 => hq0 M3 h1 h2 (q.2.1.tr h3)) (fun M3 ac h1 h2 h3 h4 => hq1 M3 ac h1 h2 h3 (q.2.1.tr h4))
        · have hz : decR lim due (s :: S) k al L (nI mm) acc = (none, L, nI mm) := by rw [decR, if_pos h0, if_neg hal0, if_neg hx1]
          exact bm_no hS he hsl hk8 (ct_do_m1 hS he hB (by omega) hst hlim hdu h0 hx1) (hq0 M1 (by rw [hz]) (by rw [hz]; exact hB) Chg.rf)
    · have hnf1 : acc.length + (nfld S + 1) ≤ 6 := by unfold nfld at hnf; rw [if_neg h0] at hnf; exact hnf
      by_cases hkd : k = 0 ∧ ¬ due = 0
      · have hz : decR lim due (s :: S) k al L (nI mm) acc = (none, L, nI mm) := by rw [decR, if_neg h0, if_pos hkd]
        have hfz : ¬ fz k = 0 := by unfold fz; rw [if_pos hkd.1]; decide
        exact bm_no hS he hsl hk8 (ct_do_due hS he hB (by omega) hst hlim hdu h0 hfz hkd.2) (hq0 M1 (by rw [hz]) (by rw [hz]; exact hB) Chg.rf)
      · have hzd : ¬ (¬ fz k = 0 ∧ ¬ due = 0) := fun q => hkd ⟨Decidable.byContradiction fun q2 => q.1 (by unfold fz; rw [if_neg q2]), q.2⟩
        rcases hd : decF L s with _ | x
        · have hz : decR lim due (s :: S) k al L (nI mm) acc = (none, L, nI mm) := by rw [decR, if_neg h0, if_neg hkd, hd]
          have hn : ¬ (s.2.1 = 0 ∧ ¬ s.1 = 1) := fun q => by unfold decF at hd; rw [if_pos q] at hd; cases hd
          have hi : hiT L s.2.1 = 0 := Decidable.byContradiction fun q => by unfold decF at hd; rw [if_neg hn, if_neg q] at hd; cases hd
          exact bm_no hS he hsl hk8 (ct_do_no hS he hB (by omega) hst hlim hdu h0 hzd hn hi) (hq0 M1 (by rw [hz]) (by rw [hz]; exact hB) Chg.rf)
        · have hz : decR lim due (s :: S) k al L (nI mm) acc = decR lim due S (k + 1) 0 (decL L (nI mm) s.1 x.1 x.2) (nI mm) (acc ++ [x]) := by rw [decR, if_neg h0, if_neg hkd, hd]
          rw [hz] at hq0 hq1
          have hfw : fw w s = 1 := by unfold fw; rw [if_neg h0]; split <;> rfl
          have hC : Ct X l uMod_does (rk 3 68) [.ref 169, .int (nI e), .int (nI (8 * sl + k)), .int (fz k), .int w] M1 (fun r M2 => r = some (.int 1) ∧ (TbR M2 (2 * e + 1) (decL L (nI mm) s.1 x.1 x.2) (nI mm) ∧ LiR M2 (acc ++ [x]) ∧ Chg M1 M2 (blP e) no2)) := by
            by_cases hn : s.2.1 = 0 ∧ ¬ s.1 = 1
            · unfold decF at hd
              rw [if_pos hn] at hd
              cases hd
              exact ct_do_named hS he hB (by omega) hst hlim hdu hmm hLi (by omega) h0 hzd hn.1 hn.2
            · by_cases hi : hiT L s.2.1 = 0
              · unfold decF at hd
                rw [if_neg hn, if_pos hi] at hd
                cases hd
              · obtain ⟨i, h1, h2, hsi⟩ := hiT_of hi hB.2.1
                have hn5 := hB.2.1
                unfold decF at hd
                rw [if_neg hn, if_neg hi, hsi, nI_clamp (by omega)] at hd
                cases hd
                exact ct_do_idx hS he hB (by omega) hst hlim hdu hmm hLi (by omega) h0 hzd hsi h1 h2
          refine bm_yes (s := s) (P := fun M2 => TbR M2 (2 * e + 1) (decL L (nI mm) s.1 x.1 x.2) (nI mm) ∧ LiR M2 (acc ++ [x]) ∧ Chg M1 M2 (blP e) no2) hS he hsl hk8 hC (fun M2 q => ⟨hS.mv q.2.2 fun _ _ q => q.elim, ((hF.mv q.2.2 hS.1 (fun a j q => by unfold blP at q; omega)).2.2 k s hx).1⟩) (fun M2 q => ?_)
          have hnf2 : (acc ++ [x]).length + nfld S ≤ 6 := by rw [List.length_append]; show acc.length + 1 + nfld S ≤ 6; omega
          exact g_blk he hsl S (k + 1) 0 (fw w s) _ mm (acc ++ [x]) M2 (hS.mv q.2.2 fun _ _ q => q.elim) q.1 hmm hR2 hlt q.2.1 hnf2 (hF.mv q.2.2 hS.1 (fun a j q => by unfold blP at q; omega)) ((q.2.2.2.2.1 205 _ (by have := hS.1; omega) (by unfold blP; omega)).trans hlim) ((q.2.2.2.2.1 209 _ (by have := hS.1; omega) (by unfold blP; omega)).trans hdu) (Or.inr ⟨hfw, rfl⟩) hmx2 (fun M3 h1 h2 h3 => hq0 M3 h1 h2 (q.2.2.tr h3)) (fun M3 ac h1 h2 h3 h4 => hq1 M3 ac h1 h2 h3 (q.2.2.tr h4))
theorem RR.needS {M : mM} {A : zA} {e : Nat} {z : Int32} (h : RR M A) (he : e < 2) : RR (setI M 209 e z) (yI A (19 + 80 * e) 1 z) := by
  obtain ⟨⟨a1, a2, a3⟩, ⟨b1, b2⟩, c1, d1, e1⟩ := h.se he
  have u : ∀ a j, a ≠ 209 → mI (setI M 209 e z) a j = mI M a j := fun a j q => up2_a q
  have w : ∀ a j, a ≠ 19 + 80 * e → up2 (zI A) (19 + 80 * e) 1 z a j = zI A a j := fun a j q => up2_a q
  refine h.yN (f := up2 (zI A) (19 + 80 * e) 1 z) he (fun a j _ _ _ p => up2_a p) (Chg.rf.setI (Or.inl (Or.inr ⟨by omega, by omega, rfl⟩))) ⟨⟨(u _ _ (by decide)).trans (a1.trans (w _ _ (by omega)).symm), (u _ _ (by decide)).trans (a2.trans (w _ _ (by omega)).symm), (u _ _ (by decide)).trans (a3.trans (w _ _ (by omega)).symm)⟩, ⟨(u _ _ (by decide)).trans (b1.trans (w _ _ (by omega)).symm), (u _ _ (by decide)).trans (b2.trans (w _ _ (by omega)).symm)⟩, (u _ _ (by decide)).trans (c1.trans (w _ _ (by omega)).symm), fun q => ?_, ?_⟩ (u _ _ (by decide)) (u _ _ (by decide))
  · have q' : ¬ zI A (14 + 80 * e) 1 = 0 := fun z => q ((w _ _ (by omega)).trans z)
    exact ⟨(u _ _ (by decide)).trans ((d1 q').1.trans (w _ _ (by omega)).symm), (u _ _ (by decide)).trans ((d1 q').2.trans (w _ _ (by omega)).symm)⟩
  · show up2 _ 209 e z 209 e = up2 _ _ _ _ _ _
    rw [up2_same, up2_same]
theorem yI_same {A : zA} {a j : Nat} {v : Int32} (h : v = zI A a j) : yI A a j v = A := by
  show (up2 (zI A) a j v, A.2) = A
  have : up2 (zI A) a j v = zI A := by
    funext b i
    unfold up2
    split
    · rename_i q
      obtain ⟨rfl, rfl⟩ := q
      exact h
    · rfl
  rw [this]
set_option maxRecDepth 100000 in
set_option maxHeartbeats 4000000 in
theorem ct_blkM {X : mX} {l : Launch} {M : mM} {A : zA} {e : Nat} (hR : RR M A) (he : e < 2) {sl mm : Nat} {S : List zS} (hsl : sl < 96) (hF : StF M sl S) (hnf : nfld S ≤ 6) (hmb : (zB A e 1).2 = nI mm) (hmm : mm ≤ 200) (hmx : ∀ t, t ∈ S → t.1 = 0 → ∃ m : Nat, m ≤ 200 ∧ t.2.1 = nI m) : Ct X l uMod_getBlock (rk 4 98) [.ref 169, .int (nI e), .int (nI sl)] M (fun r M' => RR M' (decA A e (zI A (26 + 80 * e) 0) S).2 ∧ Chg M M' (fun a j => blP e a j ∨ (a = 209 ∧ j = e)) no2 ∧ ((decA A e (zI A (26 + 80 * e) 0) S).1 = none → r = some (.int 0)) ∧ ∀ L, (decA A e (zI A (26 + 80 * e) 0) S).1 = some L → r = some (.int 1) ∧ LiR M' L) := by
  refine Ct.of (by decide) (Nat.le_of_ble_eq_true rfl) ?_
  show G X l uMod_getBlock (rk 4 98) 0 0 M 0 [some (.ref 169), some (.int (nI e)), some (.int (nI sl)), none, none] [] _
  have hC : Chg M M mP no2 := Chg.rf
  refine g_aload_n 0 dMod_getBlock_0 rfl ?_
  refine g_iconst 1 0 dMod_getBlock_1 rfl ?_
  refine g_puti 2 10 52 dMod_getBlock_2 ps_Mod_238 rfl hR.1.mod ?_
  refine g_iconst 5 0 dMod_getBlock_5 rfl ?_
  refine g_istore_n 6 dMod_getBlock_6 (by decide) rfl ?_
  refine g_iconst 7 (nI 0) dMod_getBlock_7 rfl ?_
  refine g_istore 8 dMod_getBlock_8 (by decide) rfl ?_
  have hN := hR.1.1
  have hcl : Chg M (setI M 169 52 0) (fun a j => a = 169 ∧ j = 52) no2 := Chg.rf.setI (Or.inl ⟨rfl, rfl⟩)
  have hc0 : Chg M (setI M 169 52 0) (blP e) no2 := hcl.mono (fun a j q => by unfold blP; omega) fun _ _ q => q
  have hB := hR.tb he (g := 1) (by decide)
  rw [hmb] at hB
  refine g_blk (lim := zI A (26 + 80 * e) 0) (due := zI A (19 + 80 * e) 1) he hsl S 0 1 0 _ mm [] _ hR.1 (hB.mv hcl hN fun a j q => by omega) hmm rfl (Nat.zero_le _) ⟨(sI_s : mI (setI M 169 52 0) 169 52 = 0), Nat.zero_le _, fun j x hx => by simp at hx⟩ (by rw [List.length_nil, Nat.zero_add]; exact hnf) (hF.mv hcl hN fun a j q => by omega) ((sI_a (by decide)).trans (hR.se he).1.1) ((sI_a (by decide)).trans (hR.se he).2.2.2.2) (Or.inl ⟨rfl, rfl⟩) hmx (fun M2 h1 h2 h3 => ?_) (fun M2 ac h1 h2 h3 h4 => ?_)
  · have hz := rr_blk hR he (hc0.tr h3) h2
    unfold decA
    rw [hmb, h1]
    refine ⟨?_, (hc0.tr h3).mono (fun _ _ q => Or.inl q) (fun _ _ q => q), fun _ => rfl, fun L q => by cases q⟩
    have hy := yI_same (A := yB A e 1 ((decR (zI A (26 + 80 * e) 0) (zI A (19 + 80 * e) 1) S 0 1 (zB A e 1).1 (nI mm) []).2.1, (decR (zI A (26 + 80 * e) 0) (zI A (19 + 80 * e) 1) S 0 1 (zB A e 1).1 (nI mm) []).2.2)) (a := 19 + 80 * e) (j := 1) (v := zI A (19 + 80 * e) 1) rfl
    rw [hy]
    exact hz
  · have hz := rr_blk hR he (hc0.tr h4) h2
    unfold decA
    rw [hmb, h1]
    refine ⟨hz.needS he, ((hc0.tr h4).mono (fun _ _ q => Or.inl q) (fun _ _ q => q)).setI (Or.inl (Or.inr ⟨rfl, rfl⟩)), fun q => (by cases q), fun L q => ?_⟩
    cases q
    exact ⟨rfl, h3.mv (Chg.rf.setI (PI := fun a j => a = 209 ∧ j = e) (PR := no2) (Or.inl ⟨rfl, rfl⟩)) (Nat.le_trans hN h4.1) fun a j q => by omega⟩

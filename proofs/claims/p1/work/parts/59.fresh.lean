
/-! ===== one call on the fresh memory ===== -/
theorem prx_mk {X : mX} {l : Launch} {uC uM : mU} {as : List Value} {M F F2 : mM} {J : mM → Prop} {rC rM : Room} {v v' : Int32} (h1 : rC.frames ≤ 8 ∧ rC.locals ≤ 200 ∧ rC.cells ≤ 40 ∧ rC.slots ≤ 400) (h2 : rM.frames ≤ 8 ∧ rM.locals ≤ 200 ∧ rM.cells = 0 ∧ rM.slots = 0) (hC : Ct X l uC rC (.ref 3 :: as) M (fun r M' => r = some (.int v) ∧ M' = F)) (hS : Shp F) (hM : Ct X l uM rM (.ref 169 :: as) F (fun r M' => r = some (.int v') ∧ M' = F2)) (hv : v' = v) (hJ : J F2) : Prx X l uC uM as M J := by
  subst hv
  exact ⟨rC, rM, h1, h2, hC.post fun r M1 h => ⟨v', h.1, by rw [h.2]; exact hS, by rw [h.2]; exact hM.post fun r' M2 h' => ⟨h'.1, by rw [h'.2]; exact hJ⟩⟩⟩
theorem prl_mk {X : mX} {l : Launch} {uC uM : mU} {as : List Value} {M F F2 : mM} {J : mM → Prop} {rC rM : Room} {v v' : Int64} (h1 : rC.frames ≤ 8 ∧ rC.locals ≤ 200 ∧ rC.cells ≤ 40 ∧ rC.slots ≤ 400) (h2 : rM.frames ≤ 8 ∧ rM.locals ≤ 200 ∧ rM.cells = 0 ∧ rM.slots = 0) (hC : Ct X l uC rC (.ref 3 :: as) M (fun r M' => r = some (.long v) ∧ M' = F)) (hS : Shp F) (hM : Ct X l uM rM (.ref 169 :: as) F (fun r M' => r = some (.long v') ∧ M' = F2)) (hv : v' = v) (hJ : J F2) : Prl X l uC uM as M J := by
  subst hv
  exact ⟨rC, rM, h1, h2, hC.post fun r M1 h => ⟨v', h.1, by rw [h.2]; exact hS, by rw [h.2]; exact hM.post fun r' M2 h' => ⟨h'.1, by rw [h'.2]; exact hJ⟩⟩⟩
/-- an end, or none -/
theorem end_or (x : Int32) : (∃ e, e < 2 ∧ x = nI e) ∨ (¬ x = 0 ∧ ¬ x = 1) := by
  by_cases h0 : x = 0
  · exact Or.inl ⟨0, by decide, h0⟩
  by_cases h1 : x = 1
  · exact Or.inl ⟨1, by decide, h1⟩
  exact Or.inr ⟨h0, h1⟩
set_option maxRecDepth 100000 in
set_option maxHeartbeats 4000000 in
theorem f_down0 : ∀ e, e < 2 → Kdown mi e = 0 := by decide +kernel
theorem f_down {M : mM} (hm : M = mi) : ∀ e, e < 2 → Kdown M e = 0 := by subst hm; exact f_down0
set_option maxRecDepth 100000 in
set_option maxHeartbeats 4000000 in
theorem f_rdown0 : ∀ e, e < 2 → Rdowns mi e = 0 := by decide +kernel
theorem f_rdown {M : mM} (hm : M = mi) : ∀ e, e < 2 → Rdowns M e = 0 := by subst hm; exact f_rdown0
set_option maxRecDepth 100000 in
set_option maxHeartbeats 4000000 in
theorem f_state0 : ∀ e, e < 2 → ∀ k, k < 12 → Kstate mi e k = 0 := by decide +kernel
theorem f_state {M : mM} (hm : M = mi) : ∀ e, e < 2 → ∀ k, k < 12 → Kstate M e k = 0 := by subst hm; exact f_state0
set_option maxRecDepth 100000 in
set_option maxHeartbeats 4000000 in
theorem f_ac0 : ∀ e, e < 2 → ∀ k, k < 12 → acC mi e k = 0 := by decide +kernel
theorem f_ac {M : mM} (hm : M = mi) : ∀ e, e < 2 → ∀ k, k < 12 → acC M e k = 0 := by subst hm; exact f_ac0
set_option maxRecDepth 100000 in
set_option maxHeartbeats 4000000 in
theorem f_ms0 : ∀ e, e < 2 → ∀ k, k < 12 → msC mi e k = 0 := by decide +kernel
theorem f_ms {M : mM} (hm : M = mi) : ∀ e, e < 2 → ∀ k, k < 12 → msC M e k = 0 := by subst hm; exact f_ms0
set_option maxRecDepth 100000 in
set_option maxHeartbeats 4000000 in
theorem f_st0 : ∀ i, i < 24 → stA mi i = 0 := by decide +kernel
theorem f_st {M : mM} (hm : M = mi) : ∀ i, i < 24 → stA M i = 0 := by subst hm; exact f_st0
set_option maxRecDepth 100000 in
set_option maxHeartbeats 4000000 in
theorem f_acA0 : ∀ i, i < 24 → acA mi i = 0 := by decide +kernel
theorem f_acA {M : mM} (hm : M = mi) : ∀ i, i < 24 → acA M i = 0 := by subst hm; exact f_acA0
set_option maxRecDepth 100000 in
set_option maxHeartbeats 4000000 in
theorem f_op0 : ∀ i, i < 24 → Ropened mi i = 0 := by decide +kernel
theorem f_op {M : mM} (hm : M = mi) : ∀ i, i < 24 → Ropened M i = 0 := by subst hm; exact f_op0
set_option maxRecDepth 100000 in
set_option maxHeartbeats 4000000 in
theorem f_fl0 : ∀ e, e < 2 → mI mi (10 + 80 * e) 3 = nI 0 := by decide +kernel
theorem f_fl {M : mM} (hm : M = mi) : ∀ e, e < 2 → mI M (10 + 80 * e) 3 = nI 0 := by subst hm; exact f_fl0
set_option maxRecDepth 100000 in
set_option maxHeartbeats 4000000 in
theorem f_mk0 : ∀ e, e < 2 → Rmaking mi e = nI 0 := by decide +kernel
theorem f_mk {M : mM} (hm : M = mi) : ∀ e, e < 2 → Rmaking M e = nI 0 := by subst hm; exact f_mk0
set_option maxRecDepth 100000 in
set_option maxHeartbeats 4000000 in
theorem f_mo0 : moC mi 0 = 0 := by decide +kernel
theorem f_mo {M : mM} (hm : M = mi) : moC M 0 = 0 := by subst hm; exact f_mo0
set_option maxRecDepth 100000 in
set_option maxHeartbeats 4000000 in
theorem f_ls0 : ∀ e, e < 2 → mI mi (9 + 80 * e) 16 = nI 0 - 1 := by decide +kernel
theorem f_ls {M : mM} (hm : M = mi) : ∀ e, e < 2 → mI M (9 + 80 * e) 16 = nI 0 - 1 := by subst hm; exact f_ls0
set_option maxRecDepth 100000 in
set_option maxHeartbeats 4000000 in
theorem f_ld0 : ∀ e, e < 2 → RlastData mi e = nI 0 - 1 := by decide +kernel
theorem f_ld {M : mM} (hm : M = mi) : ∀ e, e < 2 → RlastData M e = nI 0 - 1 := by subst hm; exact f_ld0
set_option maxRecDepth 100000 in
set_option maxHeartbeats 4000000 in
theorem f_sd0 : ∀ e, e < 2 → ∀ k, k < 12 → mI mi (29 + 80 * e + 5 * k) 6 = 0 ∨ mI mi (29 + 80 * e + 5 * k) 6 = 1 := by decide +kernel
theorem f_sd {M : mM} (hm : M = mi) : ∀ e, e < 2 → ∀ k, k < 12 → mI M (29 + 80 * e + 5 * k) 6 = 0 ∨ mI M (29 + 80 * e + 5 * k) 6 = 1 := by subst hm; exact f_sd0
set_option maxRecDepth 100000 in
set_option maxHeartbeats 4000000 in
theorem f_rsd0 : ∀ i, i < 24 → RlastSaid mi i = 0 ∨ RlastSaid mi i = 1 := by decide +kernel
theorem f_rsd {M : mM} (hm : M = mi) : ∀ i, i < 24 → RlastSaid M i = 0 ∨ RlastSaid M i = 1 := by subst hm; exact f_rsd0
set_option maxRecDepth 100000 in
set_option maxHeartbeats 4000000 in
theorem f_nx0 : ∀ e, e < 2 → nxF (csC mi e) 0 12 1 = none := by decide +kernel
theorem f_nx {M : mM} (hm : M = mi) : ∀ e, e < 2 → nxF (csC M e) 0 12 1 = none := by subst hm; exact f_nx0
set_option maxRecDepth 100000 in
set_option maxHeartbeats 4000000 in
theorem f_nxA0 : ∀ e, e < 2 → nxF (fun k => caA mi e (12 * e + k)) 0 12 1 = none := by decide +kernel
theorem f_nxA {M : mM} (hm : M = mi) : ∀ e, e < 2 → nxF (fun k => caA M e (12 * e + k)) 0 12 1 = none := by subst hm; exact f_nxA0
set_option maxRecDepth 100000 in
set_option maxHeartbeats 4000000 in
theorem f_pc0 : ∀ e, e < 2 → mI mi (9 + 80 * e) 14 = nI 0 := by decide +kernel
theorem f_pc {M : mM} (hm : M = mi) : ∀ e, e < 2 → mI M (9 + 80 * e) 14 = nI 0 := by subst hm; exact f_pc0
set_option maxRecDepth 100000 in
set_option maxHeartbeats 4000000 in
theorem f_opn0 : ∀ e, e < 2 → Ropen mi e = nI 0 := by decide +kernel
theorem f_opn {M : mM} (hm : M = mi) : ∀ e, e < 2 → Ropen M e = nI 0 := by subst hm; exact f_opn0
set_option maxRecDepth 100000 in
set_option maxHeartbeats 4000000 in
theorem f_p10 : ∀ e, e < 2 → mI mi (4 + 2 * e) 1 = nI 0 := by decide +kernel
theorem f_p1 {M : mM} (hm : M = mi) : ∀ e, e < 2 → mI M (4 + 2 * e) 1 = nI 0 := by subst hm; exact f_p10
set_option maxRecDepth 100000 in
set_option maxHeartbeats 4000000 in
theorem f_p20 : ∀ e, e < 2 → mI mi (4 + 2 * e) 2 = nI 0 := by decide +kernel
theorem f_p2 {M : mM} (hm : M = mi) : ∀ e, e < 2 → mI M (4 + 2 * e) 2 = nI 0 := by subst hm; exact f_p20
set_option maxRecDepth 100000 in
set_option maxHeartbeats 4000000 in
theorem f_o10 : ∀ e, e < 2 → mI mi (6 - 2 * e) 1 = nI 0 := by decide +kernel
theorem f_o1 {M : mM} (hm : M = mi) : ∀ e, e < 2 → mI M (6 - 2 * e) 1 = nI 0 := by subst hm; exact f_o10
set_option maxRecDepth 100000 in
set_option maxHeartbeats 4000000 in
theorem f_o20 : ∀ e, e < 2 → mI mi (6 - 2 * e) 2 = nI 0 := by decide +kernel
theorem f_o2 {M : mM} (hm : M = mi) : ∀ e, e < 2 → mI M (6 - 2 * e) 2 = nI 0 := by subst hm; exact f_o20
set_option maxRecDepth 100000 in
set_option maxHeartbeats 4000000 in
theorem f_hd0 : ∀ e, e < 2 → Rhead mi e = nI 0 := by decide +kernel
theorem f_hd {M : mM} (hm : M = mi) : ∀ e, e < 2 → Rhead M e = nI 0 := by subst hm; exact f_hd0
set_option maxRecDepth 100000 in
set_option maxHeartbeats 4000000 in
theorem f_ct0 : ∀ e, e < 2 → Rcount mi e = nI 0 := by decide +kernel
theorem f_ct {M : mM} (hm : M = mi) : ∀ e, e < 2 → Rcount M e = nI 0 := by subst hm; exact f_ct0
set_option maxRecDepth 100000 in
set_option maxHeartbeats 4000000 in
theorem f_w0 : ∀ e, e < 2 → mI mi (9 + 80 * e) 4 = 40 ∧ mI mi (9 + 80 * e) 5 = 40 ∧ RlinkCredit mi e = 0 ∧ RlinkSent mi e = 0 ∧ Runread mi e = nI 0 := by decide +kernel
theorem f_w {M : mM} (hm : M = mi) : ∀ e, e < 2 → mI M (9 + 80 * e) 4 = 40 ∧ mI M (9 + 80 * e) 5 = 40 ∧ RlinkCredit M e = 0 ∧ RlinkSent M e = 0 ∧ Runread M e = nI 0 := by subst hm; exact f_w0
set_option maxRecDepth 100000 in
set_option maxHeartbeats 4000000 in
theorem f_by0 : ∀ e, e < 2 → ∀ k, k < 12 → mI mi (30 + 80 * e + 5 * k) 1 = 0 ∧ mI mi (32 + 80 * e + 5 * k) 1 = 0 ∧ Rwaits mi (12 * e + k) = 0 ∧ Rfields mi (12 * e + k) = 0 := by decide +kernel
theorem f_by {M : mM} (hm : M = mi) : ∀ e, e < 2 → ∀ k, k < 12 → mI M (30 + 80 * e + 5 * k) 1 = 0 ∧ mI M (32 + 80 * e + 5 * k) 1 = 0 ∧ Rwaits M (12 * e + k) = 0 ∧ Rfields M (12 * e + k) = 0 := by subst hm; exact f_by0
set_option maxRecDepth 100000 in
set_option maxHeartbeats 4000000 in
theorem f_li0 : ∀ e, e < 2 → ∀ k, k < 12 → mR mi (29 + 80 * e + 5 * k) 7 = none := by decide +kernel
theorem f_li {M : mM} (hm : M = mi) : ∀ e, e < 2 → ∀ k, k < 12 → mR M (29 + 80 * e + 5 * k) 7 = none := by subst hm; exact f_li0
set_option maxRecDepth 100000 in
set_option maxHeartbeats 4000000 in
theorem f_tb0 : ∀ e, e < 2 → mI mi (15 + 80 * e) 3 = 0 ∧ mI mi (20 + 80 * e) 3 = 0 ∧ mI mi (15 + 80 * e) 4 = 0 ∧ mI mi (20 + 80 * e) 4 = 0 ∧ mI mi (15 + 80 * e) 5 = 100 ∧ mI mi (20 + 80 * e) 5 = 100 := by decide +kernel
theorem f_tb {M : mM} (hm : M = mi) : ∀ e, e < 2 → mI M (15 + 80 * e) 3 = 0 ∧ mI M (20 + 80 * e) 3 = 0 ∧ mI M (15 + 80 * e) 4 = 0 ∧ mI M (20 + 80 * e) 4 = 0 ∧ mI M (15 + 80 * e) 5 = 100 ∧ mI M (20 + 80 * e) 5 = 100 := by subst hm; exact f_tb0
set_option maxRecDepth 100000 in
set_option maxHeartbeats 4000000 in
theorem f_tr0 : ∀ t, t < 4 → Rsize mi t = nI 0 ∧ Rmaximum mi t = 100 := by decide +kernel
theorem f_tr {M : mM} (hm : M = mi) : ∀ t, t < 4 → Rsize M t = nI 0 ∧ Rmaximum M t = 100 := by subst hm; exact f_tr0
theorem mM_N {M : mM} (hm : M = mi) : mN M = 223 := by subst hm; exact mi_N


/-! ===== where the class's own cells lie ===== -/
set_option maxRecDepth 100000 in
set_option maxHeartbeats 4000000 in
theorem mi_E0 : ∀ e, e < 2 → mT mi (9 + 80 * e) = (2, 17) := by decide +kernel
set_option maxRecDepth 100000 in
set_option maxHeartbeats 4000000 in
theorem mi_E1 : ∀ e, e < 2 → mT mi (10 + 80 * e) = (3, 4) := by decide +kernel
set_option maxRecDepth 100000 in
set_option maxHeartbeats 4000000 in
theorem mi_E2 : ∀ e, e < 2 → mT mi (11 + 80 * e) = (100, 6) := by decide +kernel
set_option maxRecDepth 100000 in
set_option maxHeartbeats 4000000 in
theorem mi_E3 : ∀ e, e < 2 → mT mi (12 + 80 * e) = (100, 6) := by decide +kernel
set_option maxRecDepth 100000 in
set_option maxHeartbeats 4000000 in
theorem mi_E4 : ∀ e, e < 2 → mT mi (13 + 80 * e) = (102, 6) := by decide +kernel
set_option maxRecDepth 100000 in
set_option maxHeartbeats 4000000 in
theorem mi_E5 : ∀ e, e < 2 → mT mi (14 + 80 * e) = (4, 4) := by decide +kernel
set_option maxRecDepth 100000 in
set_option maxHeartbeats 4000000 in
theorem mi_E6 : ∀ e, e < 2 → mT mi (15 + 80 * e) = (5, 6) := by decide +kernel
set_option maxRecDepth 100000 in
set_option maxHeartbeats 4000000 in
theorem mi_E7 : ∀ e, e < 2 → mT mi (16 + 80 * e) = (100, 5) := by decide +kernel
set_option maxRecDepth 100000 in
set_option maxHeartbeats 4000000 in
theorem mi_E8 : ∀ e, e < 2 → mT mi (17 + 80 * e) = (100, 5) := by decide +kernel
set_option maxRecDepth 100000 in
set_option maxHeartbeats 4000000 in
theorem mi_E9 : ∀ e, e < 2 → mT mi (18 + 80 * e) = (100, 5) := by decide +kernel
set_option maxRecDepth 100000 in
set_option maxHeartbeats 4000000 in
theorem mi_E10 : ∀ e, e < 2 → mT mi (19 + 80 * e) = (6, 2) := by decide +kernel
set_option maxRecDepth 100000 in
set_option maxHeartbeats 4000000 in
theorem mi_E11 : ∀ e, e < 2 → mT mi (20 + 80 * e) = (5, 6) := by decide +kernel
set_option maxRecDepth 100000 in
set_option maxHeartbeats 4000000 in
theorem mi_E12 : ∀ e, e < 2 → mT mi (21 + 80 * e) = (100, 5) := by decide +kernel
set_option maxRecDepth 100000 in
set_option maxHeartbeats 4000000 in
theorem mi_E13 : ∀ e, e < 2 → mT mi (22 + 80 * e) = (100, 5) := by decide +kernel
set_option maxRecDepth 100000 in
set_option maxHeartbeats 4000000 in
theorem mi_E14 : ∀ e, e < 2 → mT mi (23 + 80 * e) = (100, 5) := by decide +kernel
set_option maxRecDepth 100000 in
set_option maxHeartbeats 4000000 in
theorem mi_E15 : ∀ e, e < 2 → mT mi (24 + 80 * e) = (105, 12) := by decide +kernel
set_option maxRecDepth 100000 in
set_option maxHeartbeats 4000000 in
theorem mi_E16 : ∀ e, e < 2 → mT mi (25 + 80 * e) = (7, 3) := by decide +kernel
set_option maxRecDepth 100000 in
set_option maxHeartbeats 4000000 in
theorem mi_E17 : ∀ e, e < 2 → mT mi (26 + 80 * e) = (7, 3) := by decide +kernel
set_option maxRecDepth 100000 in
set_option maxHeartbeats 4000000 in
theorem mi_E18 : ∀ e, e < 2 → mT mi (27 + 80 * e) = (100, 8) := by decide +kernel
set_option maxRecDepth 100000 in
set_option maxHeartbeats 4000000 in
theorem mi_E19 : ∀ e, e < 2 → mT mi (28 + 80 * e) = (100, 8) := by decide +kernel
set_option maxRecDepth 100000 in
set_option maxHeartbeats 4000000 in
theorem mi_E20 : ∀ e, e < 2 → mT mi (4 + 2 * e) = (1, 3) := by decide +kernel
set_option maxRecDepth 100000 in
set_option maxHeartbeats 4000000 in
theorem mi_E21 : ∀ e, e < 2 → mT mi (5 + 2 * e) = (104, 48) := by decide +kernel
set_option maxRecDepth 100000 in
set_option maxHeartbeats 4000000 in
theorem mi_R0 : ∀ e, e < 2 → mR mi (9 + 80 * e) 1 = some (4 + 2 * e) := by decide +kernel
set_option maxRecDepth 100000 in
set_option maxHeartbeats 4000000 in
theorem mi_R1 : ∀ e, e < 2 → mR mi (9 + 80 * e) 6 = some (10 + 80 * e) := by decide +kernel
set_option maxRecDepth 100000 in
set_option maxHeartbeats 4000000 in
theorem mi_R2 : ∀ e, e < 2 → mR mi (9 + 80 * e) 7 = some (14 + 80 * e) := by decide +kernel
set_option maxRecDepth 100000 in
set_option maxHeartbeats 4000000 in
theorem mi_R3 : ∀ e, e < 2 → mR mi (9 + 80 * e) 8 = some (19 + 80 * e) := by decide +kernel
set_option maxRecDepth 100000 in
set_option maxHeartbeats 4000000 in
theorem mi_R4 : ∀ e, e < 2 → mR mi (9 + 80 * e) 9 = some (24 + 80 * e) := by decide +kernel
set_option maxRecDepth 100000 in
set_option maxHeartbeats 4000000 in
theorem mi_R5 : ∀ e, e < 2 → mR mi (9 + 80 * e) 10 = some (25 + 80 * e) := by decide +kernel
set_option maxRecDepth 100000 in
set_option maxHeartbeats 4000000 in
theorem mi_R6 : ∀ e, e < 2 → mR mi (9 + 80 * e) 11 = some (26 + 80 * e) := by decide +kernel
set_option maxRecDepth 100000 in
set_option maxHeartbeats 4000000 in
theorem mi_R7 : ∀ e, e < 2 → mR mi (9 + 80 * e) 12 = some (27 + 80 * e) := by decide +kernel
set_option maxRecDepth 100000 in
set_option maxHeartbeats 4000000 in
theorem mi_R8 : ∀ e, e < 2 → mR mi (9 + 80 * e) 13 = some (28 + 80 * e) := by decide +kernel
set_option maxRecDepth 100000 in
set_option maxHeartbeats 4000000 in
theorem mi_R9 : ∀ e, e < 2 → mR mi (10 + 80 * e) 0 = some (11 + 80 * e) := by decide +kernel
set_option maxRecDepth 100000 in
set_option maxHeartbeats 4000000 in
theorem mi_R10 : ∀ e, e < 2 → mR mi (10 + 80 * e) 1 = some (12 + 80 * e) := by decide +kernel
set_option maxRecDepth 100000 in
set_option maxHeartbeats 4000000 in
theorem mi_R11 : ∀ e, e < 2 → mR mi (10 + 80 * e) 2 = some (13 + 80 * e) := by decide +kernel
set_option maxRecDepth 100000 in
set_option maxHeartbeats 4000000 in
theorem mi_R12 : ∀ e, e < 2 → mR mi (14 + 80 * e) 0 = some (15 + 80 * e) := by decide +kernel
set_option maxRecDepth 100000 in
set_option maxHeartbeats 4000000 in
theorem mi_R13 : ∀ e, e < 2 → mR mi (15 + 80 * e) 0 = some (16 + 80 * e) := by decide +kernel
set_option maxRecDepth 100000 in
set_option maxHeartbeats 4000000 in
theorem mi_R14 : ∀ e, e < 2 → mR mi (15 + 80 * e) 1 = some (17 + 80 * e) := by decide +kernel
set_option maxRecDepth 100000 in
set_option maxHeartbeats 4000000 in
theorem mi_R15 : ∀ e, e < 2 → mR mi (15 + 80 * e) 2 = some (18 + 80 * e) := by decide +kernel
set_option maxRecDepth 100000 in
set_option maxHeartbeats 4000000 in
theorem mi_R16 : ∀ e, e < 2 → mR mi (19 + 80 * e) 0 = some (20 + 80 * e) := by decide +kernel
set_option maxRecDepth 100000 in
set_option maxHeartbeats 4000000 in
theorem mi_R17 : ∀ e, e < 2 → mR mi (20 + 80 * e) 0 = some (21 + 80 * e) := by decide +kernel
set_option maxRecDepth 100000 in
set_option maxHeartbeats 4000000 in
theorem mi_R18 : ∀ e, e < 2 → mR mi (20 + 80 * e) 1 = some (22 + 80 * e) := by decide +kernel
set_option maxRecDepth 100000 in
set_option maxHeartbeats 4000000 in
theorem mi_R19 : ∀ e, e < 2 → mR mi (20 + 80 * e) 2 = some (23 + 80 * e) := by decide +kernel
set_option maxRecDepth 100000 in
set_option maxHeartbeats 4000000 in
theorem mi_R20 : ∀ e, e < 2 → mR mi (4 + 2 * e) 0 = some (5 + 2 * e) := by decide +kernel
set_option maxRecDepth 100000 in
set_option maxHeartbeats 4000000 in
theorem mi_RO : ∀ e, e < 2 → mR mi (9 + 80 * e) 2 = some (6 - 2 * e) := by decide +kernel
set_option maxRecDepth 100000 in
set_option maxHeartbeats 4000000 in
theorem mi_S0 : ∀ e, e < 2 → ∀ k, k < 12 → mT mi (29 + 80 * e + 5 * k) = (8, 10) := by decide +kernel
set_option maxRecDepth 100000 in
set_option maxHeartbeats 4000000 in
theorem mi_S1 : ∀ e, e < 2 → ∀ k, k < 12 → mT mi (30 + 80 * e + 5 * k) = (9, 2) := by decide +kernel
set_option maxRecDepth 100000 in
set_option maxHeartbeats 4000000 in
theorem mi_S2 : ∀ e, e < 2 → ∀ k, k < 12 → mT mi (31 + 80 * e + 5 * k) = (101, 32) := by decide +kernel
set_option maxRecDepth 100000 in
set_option maxHeartbeats 4000000 in
theorem mi_S3 : ∀ e, e < 2 → ∀ k, k < 12 → mT mi (32 + 80 * e + 5 * k) = (9, 2) := by decide +kernel
set_option maxRecDepth 100000 in
set_option maxHeartbeats 4000000 in
theorem mi_S4 : ∀ e, e < 2 → ∀ k, k < 12 → mT mi (33 + 80 * e + 5 * k) = (101, 40) := by decide +kernel
set_option maxRecDepth 100000 in
set_option maxHeartbeats 4000000 in
theorem mi_Q0 : ∀ e, e < 2 → ∀ k, k < 12 → mR mi (29 + 80 * e + 5 * k) 8 = some (30 + 80 * e + 5 * k) := by decide +kernel
set_option maxRecDepth 100000 in
set_option maxHeartbeats 4000000 in
theorem mi_Q1 : ∀ e, e < 2 → ∀ k, k < 12 → mR mi (29 + 80 * e + 5 * k) 9 = some (32 + 80 * e + 5 * k) := by decide +kernel
set_option maxRecDepth 100000 in
set_option maxHeartbeats 4000000 in
theorem mi_Q2 : ∀ e, e < 2 → ∀ k, k < 12 → mR mi (30 + 80 * e + 5 * k) 0 = some (31 + 80 * e + 5 * k) := by decide +kernel
set_option maxRecDepth 100000 in
set_option maxHeartbeats 4000000 in
theorem mi_Q3 : ∀ e, e < 2 → ∀ k, k < 12 → mR mi (32 + 80 * e + 5 * k) 0 = some (33 + 80 * e + 5 * k) := by decide +kernel
set_option maxRecDepth 100000 in
set_option maxHeartbeats 4000000 in
theorem mi_RS : ∀ e, e < 2 → ∀ k, k < 12 → mR mi (24 + 80 * e) k = some (29 + 80 * e + 5 * k) := by decide +kernel
set_option maxRecDepth 100000 in
set_option maxHeartbeats 4000000 in
theorem mi_num : ∀ e, e < 2 → ∀ k, k < 12 → mI mi (29 + 80 * e + 5 * k) 0 = nI (2 * k + 1) := by decide +kernel
set_option maxRecDepth 100000 in
set_option maxHeartbeats 4000000 in
theorem mi_L : mT mi 8 = (106, 2) ∧ mR mi 3 0 = some 8 ∧ ∀ e, e < 2 → mR mi 8 e = some (9 + 80 * e) := by decide +kernel
theorem Shp.TEnd {M : mM} (h : Shp M) {e : Nat} (he : e < 2) : mT M (9 + 80 * e) = (2, 17) := by rw [h.2.1 _ (by omega)]; exact mi_E0 e he
theorem Shp.tEnd {M : mM} (h : Shp M) {e : Nat} (he : e < 2) : (mT M (9 + 80 * e)).1 = 2 := by rw [h.TEnd he]
theorem Shp.TFL {M : mM} (h : Shp M) {e : Nat} (he : e < 2) : mT M (10 + 80 * e) = (3, 4) := by rw [h.2.1 _ (by omega)]; exact mi_E1 e he
theorem Shp.tFL {M : mM} (h : Shp M) {e : Nat} (he : e < 2) : (mT M (10 + 80 * e)).1 = 3 := by rw [h.TFL he]
theorem Shp.TFLn {M : mM} (h : Shp M) {e : Nat} (he : e < 2) : mT M (11 + 80 * e) = (100, 6) := by rw [h.2.1 _ (by omega)]; exact mi_E2 e he
theorem Shp.TFLv {M : mM} (h : Shp M) {e : Nat} (he : e < 2) : mT M (12 + 80 * e) = (100, 6) := by rw [h.2.1 _ (by omega)]; exact mi_E3 e he
theorem Shp.TFLs {M : mM} (h : Shp M) {e : Nat} (he : e < 2) : mT M (13 + 80 * e) = (102, 6) := by rw [h.2.1 _ (by omega)]; exact mi_E4 e he
theorem Shp.TEnc {M : mM} (h : Shp M) {e : Nat} (he : e < 2) : mT M (14 + 80 * e) = (4, 4) := by rw [h.2.1 _ (by omega)]; exact mi_E5 e he
theorem Shp.tEnc {M : mM} (h : Shp M) {e : Nat} (he : e < 2) : (mT M (14 + 80 * e)).1 = 4 := by rw [h.TEnc he]
theorem Shp.TTabE {M : mM} (h : Shp M) {e : Nat} (he : e < 2) : mT M (15 + 80 * e) = (5, 6) := by rw [h.2.1 _ (by omega)]; exact mi_E6 e he
theorem Shp.tTabE {M : mM} (h : Shp M) {e : Nat} (he : e < 2) : (mT M (15 + 80 * e)).1 = 5 := by rw [h.TTabE he]
theorem Shp.TTEn {M : mM} (h : Shp M) {e : Nat} (he : e < 2) : mT M (16 + 80 * e) = (100, 5) := by rw [h.2.1 _ (by omega)]; exact mi_E7 e he
theorem Shp.TTEv {M : mM} (h : Shp M) {e : Nat} (he : e < 2) : mT M (17 + 80 * e) = (100, 5) := by rw [h.2.1 _ (by omega)]; exact mi_E8 e he
theorem Shp.TTEs {M : mM} (h : Shp M) {e : Nat} (he : e < 2) : mT M (18 + 80 * e) = (100, 5) := by rw [h.2.1 _ (by omega)]; exact mi_E9 e he
theorem Shp.TDec {M : mM} (h : Shp M) {e : Nat} (he : e < 2) : mT M (19 + 80 * e) = (6, 2) := by rw [h.2.1 _ (by omega)]; exact mi_E10 e he
theorem Shp.tDec {M : mM} (h : Shp M) {e : Nat} (he : e < 2) : (mT M (19 + 80 * e)).1 = 6 := by rw [h.TDec he]
theorem Shp.TTabD {M : mM} (h : Shp M) {e : Nat} (he : e < 2) : mT M (20 + 80 * e) = (5, 6) := by rw [h.2.1 _ (by omega)]; exact mi_E11 e he
theorem Shp.tTabD {M : mM} (h : Shp M) {e : Nat} (he : e < 2) : (mT M (20 + 80 * e)).1 = 5 := by rw [h.TTabD he]
theorem Shp.TTDn {M : mM} (h : Shp M) {e : Nat} (he : e < 2) : mT M (21 + 80 * e) = (100, 5) := by rw [h.2.1 _ (by omega)]; exact mi_E12 e he
theorem Shp.TTDv {M : mM} (h : Shp M) {e : Nat} (he : e < 2) : mT M (22 + 80 * e) = (100, 5) := by rw [h.2.1 _ (by omega)]; exact mi_E13 e he
theorem Shp.TTDs {M : mM} (h : Shp M) {e : Nat} (he : e < 2) : mT M (23 + 80 * e) = (100, 5) := by rw [h.2.1 _ (by omega)]; exact mi_E14 e he
theorem Shp.TStrs {M : mM} (h : Shp M) {e : Nat} (he : e < 2) : mT M (24 + 80 * e) = (105, 12) := by rw [h.2.1 _ (by omega)]; exact mi_E15 e he
theorem Shp.TTold {M : mM} (h : Shp M) {e : Nat} (he : e < 2) : mT M (25 + 80 * e) = (7, 3) := by rw [h.2.1 _ (by omega)]; exact mi_E16 e he
theorem Shp.tTold {M : mM} (h : Shp M) {e : Nat} (he : e < 2) : (mT M (25 + 80 * e)).1 = 7 := by rw [h.TTold he]
theorem Shp.TForce {M : mM} (h : Shp M) {e : Nat} (he : e < 2) : mT M (26 + 80 * e) = (7, 3) := by rw [h.2.1 _ (by omega)]; exact mi_E17 e he
theorem Shp.tForce {M : mM} (h : Shp M) {e : Nat} (he : e < 2) : (mT M (26 + 80 * e)).1 = 7 := by rw [h.TForce he]
theorem Shp.TPS {M : mM} (h : Shp M) {e : Nat} (he : e < 2) : mT M (27 + 80 * e) = (100, 8) := by rw [h.2.1 _ (by omega)]; exact mi_E18 e he
theorem Shp.TPV {M : mM} (h : Shp M) {e : Nat} (he : e < 2) : mT M (28 + 80 * e) = (100, 8) := by rw [h.2.1 _ (by omega)]; exact mi_E19 e he
theorem Shp.TPipe {M : mM} (h : Shp M) {e : Nat} (he : e < 2) : mT M (4 + 2 * e) = (1, 3) := by rw [h.2.1 _ (by omega)]; exact mi_E20 e he
theorem Shp.tPipe {M : mM} (h : Shp M) {e : Nat} (he : e < 2) : (mT M (4 + 2 * e)).1 = 1 := by rw [h.TPipe he]
theorem Shp.TRow {M : mM} (h : Shp M) {e : Nat} (he : e < 2) : mT M (5 + 2 * e) = (104, 48) := by rw [h.2.1 _ (by omega)]; exact mi_E21 e he
theorem Shp.rEnd1 {M : mM} (h : Shp M) {e : Nat} (he : e < 2) : mR M (9 + 80 * e) 1 = some (4 + 2 * e) := by rw [h.2.2 _ 1 (by omega) (by unfold mvR; omega)]; exact mi_R0 e he
theorem Shp.rEnd6 {M : mM} (h : Shp M) {e : Nat} (he : e < 2) : mR M (9 + 80 * e) 6 = some (10 + 80 * e) := by rw [h.2.2 _ 6 (by omega) (by unfold mvR; omega)]; exact mi_R1 e he
theorem Shp.rEnd7 {M : mM} (h : Shp M) {e : Nat} (he : e < 2) : mR M (9 + 80 * e) 7 = some (14 + 80 * e) := by rw [h.2.2 _ 7 (by omega) (by unfold mvR; omega)]; exact mi_R2 e he
theorem Shp.rEnd8 {M : mM} (h : Shp M) {e : Nat} (he : e < 2) : mR M (9 + 80 * e) 8 = some (19 + 80 * e) := by rw [h.2.2 _ 8 (by omega) (by unfold mvR; omega)]; exact mi_R3 e he
theorem Shp.rEnd9 {M : mM} (h : Shp M) {e : Nat} (he : e < 2) : mR M (9 + 80 * e) 9 = some (24 + 80 * e) := by rw [h.2.2 _ 9 (by omega) (by unfold mvR; omega)]; exact mi_R4 e he
theorem Shp.rEnd10 {M : mM} (h : Shp M) {e : Nat} (he : e < 2) : mR M (9 + 80 * e) 10 = some (25 + 80 * e) := by rw [h.2.2 _ 10 (by omega) (by unfold mvR; omega)]; exact mi_R5 e he
theorem Shp.rEnd11 {M : mM} (h : Shp M) {e : Nat} (he : e < 2) : mR M (9 + 80 * e) 11 = some (26 + 80 * e) := by rw [h.2.2 _ 11 (by omega) (by unfold mvR; omega)]; exact mi_R6 e he
theorem Shp.rEnd12 {M : mM} (h : Shp M) {e : Nat} (he : e < 2) : mR M (9 + 80 * e) 12 = some (27 + 80 * e) := by rw [h.2.2 _ 12 (by omega) (by unfold mvR; omega)]; exact mi_R7 e he
theorem Shp.rEnd13 {M : mM} (h : Shp M) {e : Nat} (he : e < 2) : mR M (9 + 80 * e) 13 = some (28 + 80 * e) := by rw [h.2.2 _ 13 (by omega) (by unfold mvR; omega)]; exact mi_R8 e he
theorem Shp.rFL0 {M : mM} (h : Shp M) {e : Nat} (he : e < 2) : mR M (10 + 80 * e) 0 = some (11 + 80 * e) := by rw [h.2.2 _ 0 (by omega) (by unfold mvR; omega)]; exact mi_R9 e he
theorem Shp.rFL1 {M : mM} (h : Shp M) {e : Nat} (he : e < 2) : mR M (10 + 80 * e) 1 = some (12 + 80 * e) := by rw [h.2.2 _ 1 (by omega) (by unfold mvR; omega)]; exact mi_R10 e he
theorem Shp.rFL2 {M : mM} (h : Shp M) {e : Nat} (he : e < 2) : mR M (10 + 80 * e) 2 = some (13 + 80 * e) := by rw [h.2.2 _ 2 (by omega) (by unfold mvR; omega)]; exact mi_R11 e he
theorem Shp.rEnc0 {M : mM} (h : Shp M) {e : Nat} (he : e < 2) : mR M (14 + 80 * e) 0 = some (15 + 80 * e) := by rw [h.2.2 _ 0 (by omega) (by unfold mvR; omega)]; exact mi_R12 e he
theorem Shp.rTabE0 {M : mM} (h : Shp M) {e : Nat} (he : e < 2) : mR M (15 + 80 * e) 0 = some (16 + 80 * e) := by rw [h.2.2 _ 0 (by omega) (by unfold mvR; omega)]; exact mi_R13 e he
theorem Shp.rTabE1 {M : mM} (h : Shp M) {e : Nat} (he : e < 2) : mR M (15 + 80 * e) 1 = some (17 + 80 * e) := by rw [h.2.2 _ 1 (by omega) (by unfold mvR; omega)]; exact mi_R14 e he
theorem Shp.rTabE2 {M : mM} (h : Shp M) {e : Nat} (he : e < 2) : mR M (15 + 80 * e) 2 = some (18 + 80 * e) := by rw [h.2.2 _ 2 (by omega) (by unfold mvR; omega)]; exact mi_R15 e he
theorem Shp.rDec0 {M : mM} (h : Shp M) {e : Nat} (he : e < 2) : mR M (19 + 80 * e) 0 = some (20 + 80 * e) := by rw [h.2.2 _ 0 (by omega) (by unfold mvR; omega)]; exact mi_R16 e he
theorem Shp.rTabD0 {M : mM} (h : Shp M) {e : Nat} (he : e < 2) : mR M (20 + 80 * e) 0 = some (21 + 80 * e) := by rw [h.2.2 _ 0 (by omega) (by unfold mvR; omega)]; exact mi_R17 e he
theorem Shp.rTabD1 {M : mM} (h : Shp M) {e : Nat} (he : e < 2) : mR M (20 + 80 * e) 1 = some (22 + 80 * e) := by rw [h.2.2 _ 1 (by omega) (by unfold mvR; omega)]; exact mi_R18 e he
theorem Shp.rTabD2 {M : mM} (h : Shp M) {e : Nat} (he : e < 2) : mR M (20 + 80 * e) 2 = some (23 + 80 * e) := by rw [h.2.2 _ 2 (by omega) (by unfold mvR; omega)]; exact mi_R19 e he
theorem Shp.rPipe0 {M : mM} (h : Shp M) {e : Nat} (he : e < 2) : mR M (4 + 2 * e) 0 = some (5 + 2 * e) := by rw [h.2.2 _ 0 (by omega) (by unfold mvR; omega)]; exact mi_R20 e he
theorem Shp.rEnd2 {M : mM} (h : Shp M) {e : Nat} (he : e < 2) : mR M (9 + 80 * e) 2 = some (6 - 2 * e) := by rw [h.2.2 _ 2 (by omega) (by unfold mvR; omega)]; exact mi_RO e he
theorem Shp.TPipeO {M : mM} (h : Shp M) {e : Nat} (he : e < 2) : mT M (6 - 2 * e) = (1, 3) := by have := h.TPipe (e := 1 - e) (by omega); rwa [show 4 + 2 * (1 - e) = 6 - 2 * e by omega] at this
theorem Shp.tPipeO {M : mM} (h : Shp M) {e : Nat} (he : e < 2) : (mT M (6 - 2 * e)).1 = 1 := by rw [h.TPipeO he]
theorem Shp.rPipeO0 {M : mM} (h : Shp M) {e : Nat} (he : e < 2) : mR M (6 - 2 * e) 0 = some (7 - 2 * e) := by have := h.rPipe0 (e := 1 - e) (by omega); rwa [show 4 + 2 * (1 - e) = 6 - 2 * e by omega, show 5 + 2 * (1 - e) = 7 - 2 * e by omega] at this
theorem Shp.TRowO {M : mM} (h : Shp M) {e : Nat} (he : e < 2) : mT M (7 - 2 * e) = (104, 48) := by have := h.TRow (e := 1 - e) (by omega); rwa [show 5 + 2 * (1 - e) = 7 - 2 * e by omega] at this
theorem Shp.TStr {M : mM} (h : Shp M) {e k : Nat} (he : e < 2) (hk : k < 12) : mT M (29 + 80 * e + 5 * k) = (8, 10) := by rw [h.2.1 _ (by omega)]; exact mi_S0 e he k hk
theorem Shp.tStr {M : mM} (h : Shp M) {e k : Nat} (he : e < 2) (hk : k < 12) : (mT M (29 + 80 * e + 5 * k)).1 = 8 := by rw [h.TStr he hk]
theorem Shp.TWt {M : mM} (h : Shp M) {e k : Nat} (he : e < 2) (hk : k < 12) : mT M (30 + 80 * e + 5 * k) = (9, 2) := by rw [h.2.1 _ (by omega)]; exact mi_S1 e he k hk
theorem Shp.tWt {M : mM} (h : Shp M) {e k : Nat} (he : e < 2) (hk : k < 12) : (mT M (30 + 80 * e + 5 * k)).1 = 9 := by rw [h.TWt he hk]
theorem Shp.TWtR {M : mM} (h : Shp M) {e k : Nat} (he : e < 2) (hk : k < 12) : mT M (31 + 80 * e + 5 * k) = (101, 32) := by rw [h.2.1 _ (by omega)]; exact mi_S2 e he k hk
theorem Shp.TUr {M : mM} (h : Shp M) {e k : Nat} (he : e < 2) (hk : k < 12) : mT M (32 + 80 * e + 5 * k) = (9, 2) := by rw [h.2.1 _ (by omega)]; exact mi_S3 e he k hk
theorem Shp.tUr {M : mM} (h : Shp M) {e k : Nat} (he : e < 2) (hk : k < 12) : (mT M (32 + 80 * e + 5 * k)).1 = 9 := by rw [h.TUr he hk]
theorem Shp.TUrR {M : mM} (h : Shp M) {e k : Nat} (he : e < 2) (hk : k < 12) : mT M (33 + 80 * e + 5 * k) = (101, 40) := by rw [h.2.1 _ (by omega)]; exact mi_S4 e he k hk
theorem Shp.rStr8 {M : mM} (h : Shp M) {e k : Nat} (he : e < 2) (hk : k < 12) : mR M (29 + 80 * e + 5 * k) 8 = some (30 + 80 * e + 5 * k) := by rw [h.2.2 _ 8 (by omega) (by unfold mvR; omega)]; exact mi_Q0 e he k hk
theorem Shp.rStr9 {M : mM} (h : Shp M) {e k : Nat} (he : e < 2) (hk : k < 12) : mR M (29 + 80 * e + 5 * k) 9 = some (32 + 80 * e + 5 * k) := by rw [h.2.2 _ 9 (by omega) (by unfold mvR; omega)]; exact mi_Q1 e he k hk
theorem Shp.rWt0 {M : mM} (h : Shp M) {e k : Nat} (he : e < 2) (hk : k < 12) : mR M (30 + 80 * e + 5 * k) 0 = some (31 + 80 * e + 5 * k) := by rw [h.2.2 _ 0 (by omega) (by unfold mvR; omega)]; exact mi_Q2 e he k hk
theorem Shp.rUr0 {M : mM} (h : Shp M) {e k : Nat} (he : e < 2) (hk : k < 12) : mR M (32 + 80 * e + 5 * k) 0 = some (33 + 80 * e + 5 * k) := by rw [h.2.2 _ 0 (by omega) (by unfold mvR; omega)]; exact mi_Q3 e he k hk
theorem Shp.rStrs {M : mM} (h : Shp M) {e k : Nat} (he : e < 2) (hk : k < 12) : mR M (24 + 80 * e) k = some (29 + 80 * e + 5 * k) := by rw [h.2.2 _ k (by omega) (by unfold mvR; omega)]; exact mi_RS e he k hk
theorem Shp.TEnds {M : mM} (h : Shp M) : mT M 8 = (106, 2) := by rw [h.2.1 8 (by decide)]; exact mi_L.1
theorem Shp.rLink {M : mM} (h : Shp M) : mR M 3 0 = some 8 := by rw [h.2.2 3 0 (by decide) (by unfold mvR; omega)]; exact mi_L.2.1
theorem Shp.rEnds {M : mM} (h : Shp M) {e : Nat} (he : e < 2) : mR M 8 e = some (9 + 80 * e) := by rw [h.2.2 8 e (by decide) (by unfold mvR; omega)]; exact mi_L.2.2 e he
theorem Shp.mi : Shp mi := ⟨by rw [mi_N]; exact Nat.le_refl _, fun _ _ => rfl, fun _ _ _ _ => rfl⟩

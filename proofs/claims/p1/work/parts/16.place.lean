
/-! ===== where everything lies: the memory as the law begins, and what stays of it ===== -/
def m00 : mM := (3, fun _ => (999, 0), fun _ _ => 0, fun _ _ => 0, fun _ _ => none)
/-- the class at 3, the reference at 169; behind 222 what later calls make -/
def mi : mM := mkMod (newM (mkLink (newM m00 0 1) 3) 10 56) 169
/-- places of references that calls change: the rows of the two pipes, a stream's list -/
def mvR (a k : Nat) : Prop := a = 5 ∨ a = 7 ∨ (k = 7 ∧ ((29 ≤ a ∧ a < 89 ∧ (a - 29) % 5 = 0) ∨ (109 ≤ a ∧ a < 169 ∧ (a - 109) % 5 = 0)))
def Shp (M : mM) : Prop := 223 ≤ mN M ∧ (∀ a, a < 223 → mT M a = mT mi a) ∧ ∀ a k, a < 223 → ¬ mvR a k → mR M a k = mR mi a k
theorem Shp.setR {M : mM} {a k : Nat} {v : Option Nat} (h : Shp M) (hm : mvR a k ∨ 223 ≤ a) : Shp (setR M a k v) := ⟨h.1, h.2.1, fun b j hb hj => by
  show up2 (mR M) a k v b j = _
  rw [up2_ne (fun q => by obtain ⟨rfl, rfl⟩ := q; rcases hm with q | q; exact hj q; omega)]
  exact h.2.2 b j hb hj⟩
theorem Shp.new {M : mM} {t n : Nat} (h : Shp M) : Shp (newM M t n) := ⟨Nat.le_succ_of_le h.1, fun a ha => by rw [mT_new_ne (by have := h.1; omega)]; exact h.2.1 a ha, fun a k ha hk => by rw [mR_new_ne (by have := h.1; omega)]; exact h.2.2 a k ha hk⟩

set_option maxRecDepth 100000 in
set_option maxHeartbeats 4000000 in
theorem mi_N : mN mi = 223 := by decide +kernel
set_option maxRecDepth 100000 in
set_option maxHeartbeats 4000000 in
theorem mi_mod : (mT mi 169).1 = 10 := by decide +kernel
theorem Shp.mod {M : mM} (h : Shp M) : (mT M 169).1 = 10 := by rw [h.2.1 169 (by decide)]; exact mi_mod
set_option maxRecDepth 100000 in
set_option maxHeartbeats 4000000 in
theorem mi_T0 : mT mi 170 = (100, 2) ∧ mR mi 169 0 = some 170 := by decide +kernel
theorem Shp.T_downs {M : mM} (h : Shp M) : mT M 170 = (100, 2) := by rw [h.2.1 170 (by decide)]; exact mi_T0.1
theorem Shp.R_downs {M : mM} (h : Shp M) : mR M 169 0 = some 170 := by rw [h.2.2 169 0 (by decide) (by unfold mvR; omega)]; exact mi_T0.2
set_option maxRecDepth 100000 in
set_option maxHeartbeats 4000000 in
theorem mi_T1 : mT mi 171 = (100, 2) ∧ mR mi 169 1 = some 171 := by decide +kernel
theorem Shp.T_head {M : mM} (h : Shp M) : mT M 171 = (100, 2) := by rw [h.2.1 171 (by decide)]; exact mi_T1.1
theorem Shp.R_head {M : mM} (h : Shp M) : mR M 169 1 = some 171 := by rw [h.2.2 169 1 (by decide) (by unfold mvR; omega)]; exact mi_T1.2
set_option maxRecDepth 100000 in
set_option maxHeartbeats 4000000 in
theorem mi_T2 : mT mi 172 = (100, 2) ∧ mR mi 169 2 = some 172 := by decide +kernel
theorem Shp.T_count {M : mM} (h : Shp M) : mT M 172 = (100, 2) := by rw [h.2.1 172 (by decide)]; exact mi_T2.1
theorem Shp.R_count {M : mM} (h : Shp M) : mR M 169 2 = some 172 := by rw [h.2.2 169 2 (by decide) (by unfold mvR; omega)]; exact mi_T2.2
set_option maxRecDepth 100000 in
set_option maxHeartbeats 4000000 in
theorem mi_T3 : mT mi 173 = (100, 96) ∧ mR mi 169 3 = some 173 := by decide +kernel
theorem Shp.T_kinds {M : mM} (h : Shp M) : mT M 173 = (100, 96) := by rw [h.2.1 173 (by decide)]; exact mi_T3.1
theorem Shp.R_kinds {M : mM} (h : Shp M) : mR M 169 3 = some 173 := by rw [h.2.2 169 3 (by decide) (by unfold mvR; omega)]; exact mi_T3.2
set_option maxRecDepth 100000 in
set_option maxHeartbeats 4000000 in
theorem mi_T4 : mT mi 174 = (100, 96) ∧ mR mi 169 4 = some 174 := by decide +kernel
theorem Shp.T_streams {M : mM} (h : Shp M) : mT M 174 = (100, 96) := by rw [h.2.1 174 (by decide)]; exact mi_T4.1
theorem Shp.R_streams {M : mM} (h : Shp M) : mR M 169 4 = some 174 := by rw [h.2.2 169 4 (by decide) (by unfold mvR; omega)]; exact mi_T4.2
set_option maxRecDepth 100000 in
set_option maxHeartbeats 4000000 in
theorem mi_T5 : mT mi 175 = (100, 96) ∧ mR mi 169 5 = some 175 := by decide +kernel
theorem Shp.T_amounts {M : mM} (h : Shp M) : mT M 175 = (100, 96) := by rw [h.2.1 175 (by decide)]; exact mi_T5.1
theorem Shp.R_amounts {M : mM} (h : Shp M) : mR M 169 5 = some 175 := by rw [h.2.2 169 5 (by decide) (by unfold mvR; omega)]; exact mi_T5.2
set_option maxRecDepth 100000 in
set_option maxHeartbeats 4000000 in
theorem mi_T6 : mT mi 176 = (102, 96) ∧ mR mi 169 6 = some 176 := by decide +kernel
theorem Shp.T_flags {M : mM} (h : Shp M) : mT M 176 = (102, 96) := by rw [h.2.1 176 (by decide)]; exact mi_T6.1
theorem Shp.R_flags {M : mM} (h : Shp M) : mR M 169 6 = some 176 := by rw [h.2.2 169 6 (by decide) (by unfold mvR; omega)]; exact mi_T6.2
set_option maxRecDepth 100000 in
set_option maxHeartbeats 4000000 in
theorem mi_T7 : mT mi 177 = (100, 96) ∧ mR mi 169 7 = some 177 := by decide +kernel
theorem Shp.T_settings {M : mM} (h : Shp M) : mT M 177 = (100, 96) := by rw [h.2.1 177 (by decide)]; exact mi_T7.1
theorem Shp.R_settings {M : mM} (h : Shp M) : mR M 169 7 = some 177 := by rw [h.2.2 169 7 (by decide) (by unfold mvR; omega)]; exact mi_T7.2
set_option maxRecDepth 100000 in
set_option maxHeartbeats 4000000 in
theorem mi_T8 : mT mi 178 = (103, 96) ∧ mR mi 169 8 = some 178 := by decide +kernel
theorem Shp.T_loads {M : mM} (h : Shp M) : mT M 178 = (103, 96) := by rw [h.2.1 178 (by decide)]; exact mi_T8.1
theorem Shp.R_loads {M : mM} (h : Shp M) : mR M 169 8 = some 178 := by rw [h.2.2 169 8 (by decide) (by unfold mvR; omega)]; exact mi_T8.2
set_option maxRecDepth 100000 in
set_option maxHeartbeats 4000000 in
theorem mi_T9 : mT mi 179 = (100, 768) ∧ mR mi 169 9 = some 179 := by decide +kernel
theorem Shp.T_stepKind {M : mM} (h : Shp M) : mT M 179 = (100, 768) := by rw [h.2.1 179 (by decide)]; exact mi_T9.1
theorem Shp.R_stepKind {M : mM} (h : Shp M) : mR M 169 9 = some 179 := by rw [h.2.2 169 9 (by decide) (by unfold mvR; omega)]; exact mi_T9.2
set_option maxRecDepth 100000 in
set_option maxHeartbeats 4000000 in
theorem mi_T10 : mT mi 180 = (100, 768) ∧ mR mi 169 10 = some 180 := by decide +kernel
theorem Shp.T_stepIndex {M : mM} (h : Shp M) : mT M 180 = (100, 768) := by rw [h.2.1 180 (by decide)]; exact mi_T10.1
theorem Shp.R_stepIndex {M : mM} (h : Shp M) : mR M 169 10 = some 180 := by rw [h.2.2 169 10 (by decide) (by unfold mvR; omega)]; exact mi_T10.2
set_option maxRecDepth 100000 in
set_option maxHeartbeats 4000000 in
theorem mi_T11 : mT mi 181 = (100, 768) ∧ mR mi 169 11 = some 181 := by decide +kernel
theorem Shp.T_stepName {M : mM} (h : Shp M) : mT M 181 = (100, 768) := by rw [h.2.1 181 (by decide)]; exact mi_T11.1
theorem Shp.R_stepName {M : mM} (h : Shp M) : mR M 169 11 = some 181 := by rw [h.2.2 169 11 (by decide) (by unfold mvR; omega)]; exact mi_T11.2
set_option maxRecDepth 100000 in
set_option maxHeartbeats 4000000 in
theorem mi_T12 : mT mi 182 = (100, 768) ∧ mR mi 169 12 = some 182 := by decide +kernel
theorem Shp.T_stepValue {M : mM} (h : Shp M) : mT M 182 = (100, 768) := by rw [h.2.1 182 (by decide)]; exact mi_T12.1
theorem Shp.R_stepValue {M : mM} (h : Shp M) : mR M 169 12 = some 182 := by rw [h.2.2 169 12 (by decide) (by unfold mvR; omega)]; exact mi_T12.2
set_option maxRecDepth 100000 in
set_option maxHeartbeats 4000000 in
theorem mi_T13 : mT mi 183 = (102, 24) ∧ mR mi 169 13 = some 183 := by decide +kernel
theorem Shp.T_opened {M : mM} (h : Shp M) : mT M 183 = (102, 24) := by rw [h.2.1 183 (by decide)]; exact mi_T13.1
theorem Shp.R_opened {M : mM} (h : Shp M) : mR M 169 13 = some 183 := by rw [h.2.2 169 13 (by decide) (by unfold mvR; omega)]; exact mi_T13.2
set_option maxRecDepth 100000 in
set_option maxHeartbeats 4000000 in
theorem mi_T14 : mT mi 184 = (102, 24) ∧ mR mi 169 14 = some 184 := by decide +kernel
theorem Shp.T_cut {M : mM} (h : Shp M) : mT M 184 = (102, 24) := by rw [h.2.1 184 (by decide)]; exact mi_T14.1
theorem Shp.R_cut {M : mM} (h : Shp M) : mR M 169 14 = some 184 := by rw [h.2.2 169 14 (by decide) (by unfold mvR; omega)]; exact mi_T14.2
set_option maxRecDepth 100000 in
set_option maxHeartbeats 4000000 in
theorem mi_T15 : mT mi 185 = (102, 24) ∧ mR mi 169 15 = some 185 := by decide +kernel
theorem Shp.T_sentEnd {M : mM} (h : Shp M) : mT M 185 = (102, 24) := by rw [h.2.1 185 (by decide)]; exact mi_T15.1
theorem Shp.R_sentEnd {M : mM} (h : Shp M) : mR M 169 15 = some 185 := by rw [h.2.2 169 15 (by decide) (by unfold mvR; omega)]; exact mi_T15.2
set_option maxRecDepth 100000 in
set_option maxHeartbeats 4000000 in
theorem mi_T16 : mT mi 186 = (102, 24) ∧ mR mi 169 16 = some 186 := by decide +kernel
theorem Shp.T_gotEnd {M : mM} (h : Shp M) : mT M 186 = (102, 24) := by rw [h.2.1 186 (by decide)]; exact mi_T16.1
theorem Shp.R_gotEnd {M : mM} (h : Shp M) : mR M 169 16 = some 186 := by rw [h.2.2 169 16 (by decide) (by unfold mvR; omega)]; exact mi_T16.2
set_option maxRecDepth 100000 in
set_option maxHeartbeats 4000000 in
theorem mi_T17 : mT mi 187 = (102, 24) ∧ mR mi 169 17 = some 187 := by decide +kernel
theorem Shp.T_came {M : mM} (h : Shp M) : mT M 187 = (102, 24) := by rw [h.2.1 187 (by decide)]; exact mi_T17.1
theorem Shp.R_came {M : mM} (h : Shp M) : mR M 169 17 = some 187 := by rw [h.2.2 169 17 (by decide) (by unfold mvR; omega)]; exact mi_T17.2
set_option maxRecDepth 100000 in
set_option maxHeartbeats 4000000 in
theorem mi_T18 : mT mi 188 = (102, 24) ∧ mR mi 169 18 = some 188 := by decide +kernel
theorem Shp.T_responded {M : mM} (h : Shp M) : mT M 188 = (102, 24) := by rw [h.2.1 188 (by decide)]; exact mi_T18.1
theorem Shp.R_responded {M : mM} (h : Shp M) : mR M 169 18 = some 188 := by rw [h.2.2 169 18 (by decide) (by unfold mvR; omega)]; exact mi_T18.2
set_option maxRecDepth 100000 in
set_option maxHeartbeats 4000000 in
theorem mi_T19 : mT mi 189 = (102, 24) ∧ mR mi 169 19 = some 189 := by decide +kernel
theorem Shp.T_lastSaid {M : mM} (h : Shp M) : mT M 189 = (102, 24) := by rw [h.2.1 189 (by decide)]; exact mi_T19.1
theorem Shp.R_lastSaid {M : mM} (h : Shp M) : mR M 169 19 = some 189 := by rw [h.2.2 169 19 (by decide) (by unfold mvR; omega)]; exact mi_T19.2
set_option maxRecDepth 100000 in
set_option maxHeartbeats 4000000 in
theorem mi_T20 : mT mi 190 = (100, 24) ∧ mR mi 169 20 = some 190 := by decide +kernel
theorem Shp.T_sent {M : mM} (h : Shp M) : mT M 190 = (100, 24) := by rw [h.2.1 190 (by decide)]; exact mi_T20.1
theorem Shp.R_sent {M : mM} (h : Shp M) : mR M 169 20 = some 190 := by rw [h.2.2 169 20 (by decide) (by unfold mvR; omega)]; exact mi_T20.2
set_option maxRecDepth 100000 in
set_option maxHeartbeats 4000000 in
theorem mi_T21 : mT mi 191 = (100, 24) ∧ mR mi 169 21 = some 191 := by decide +kernel
theorem Shp.T_credit {M : mM} (h : Shp M) : mT M 191 = (100, 24) := by rw [h.2.1 191 (by decide)]; exact mi_T21.1
theorem Shp.R_credit {M : mM} (h : Shp M) : mR M 169 21 = some 191 := by rw [h.2.2 169 21 (by decide) (by unfold mvR; omega)]; exact mi_T21.2
set_option maxRecDepth 100000 in
set_option maxHeartbeats 4000000 in
theorem mi_T22 : mT mi 192 = (100, 24) ∧ mR mi 169 22 = some 192 := by decide +kernel
theorem Shp.T_got {M : mM} (h : Shp M) : mT M 192 = (100, 24) := by rw [h.2.1 192 (by decide)]; exact mi_T22.1
theorem Shp.R_got {M : mM} (h : Shp M) : mR M 169 22 = some 192 := by rw [h.2.2 169 22 (by decide) (by unfold mvR; omega)]; exact mi_T22.2
set_option maxRecDepth 100000 in
set_option maxHeartbeats 4000000 in
theorem mi_T23 : mT mi 193 = (100, 24) ∧ mR mi 169 23 = some 193 := by decide +kernel
theorem Shp.T_back {M : mM} (h : Shp M) : mT M 193 = (100, 24) := by rw [h.2.1 193 (by decide)]; exact mi_T23.1
theorem Shp.R_back {M : mM} (h : Shp M) : mR M 169 23 = some 193 := by rw [h.2.2 169 23 (by decide) (by unfold mvR; omega)]; exact mi_T23.2
set_option maxRecDepth 100000 in
set_option maxHeartbeats 4000000 in
theorem mi_T24 : mT mi 194 = (100, 24) ∧ mR mi 169 24 = some 194 := by decide +kernel
theorem Shp.T_fields {M : mM} (h : Shp M) : mT M 194 = (100, 24) := by rw [h.2.1 194 (by decide)]; exact mi_T24.1
theorem Shp.R_fields {M : mM} (h : Shp M) : mR M 169 24 = some 194 := by rw [h.2.2 169 24 (by decide) (by unfold mvR; omega)]; exact mi_T24.2
set_option maxRecDepth 100000 in
set_option maxHeartbeats 4000000 in
theorem mi_T25 : mT mi 195 = (100, 144) ∧ mR mi 169 25 = some 195 := by decide +kernel
theorem Shp.T_fieldName {M : mM} (h : Shp M) : mT M 195 = (100, 144) := by rw [h.2.1 195 (by decide)]; exact mi_T25.1
theorem Shp.R_fieldName {M : mM} (h : Shp M) : mR M 169 25 = some 195 := by rw [h.2.2 169 25 (by decide) (by unfold mvR; omega)]; exact mi_T25.2
set_option maxRecDepth 100000 in
set_option maxHeartbeats 4000000 in
theorem mi_T26 : mT mi 196 = (100, 144) ∧ mR mi 169 26 = some 196 := by decide +kernel
theorem Shp.T_fieldValue {M : mM} (h : Shp M) : mT M 196 = (100, 144) := by rw [h.2.1 196 (by decide)]; exact mi_T26.1
theorem Shp.R_fieldValue {M : mM} (h : Shp M) : mR M 169 26 = some 196 := by rw [h.2.2 169 26 (by decide) (by unfold mvR; omega)]; exact mi_T26.2
set_option maxRecDepth 100000 in
set_option maxHeartbeats 4000000 in
theorem mi_T27 : mT mi 197 = (100, 24) ∧ mR mi 169 27 = some 197 := by decide +kernel
theorem Shp.T_waits {M : mM} (h : Shp M) : mT M 197 = (100, 24) := by rw [h.2.1 197 (by decide)]; exact mi_T27.1
theorem Shp.R_waits {M : mM} (h : Shp M) : mR M 169 27 = some 197 := by rw [h.2.2 169 27 (by decide) (by unfold mvR; omega)]; exact mi_T27.2
set_option maxRecDepth 100000 in
set_option maxHeartbeats 4000000 in
theorem mi_T28 : mT mi 198 = (100, 768) ∧ mR mi 169 28 = some 198 := by decide +kernel
theorem Shp.T_wait {M : mM} (h : Shp M) : mT M 198 = (100, 768) := by rw [h.2.1 198 (by decide)]; exact mi_T28.1
theorem Shp.R_wait {M : mM} (h : Shp M) : mR M 169 28 = some 198 := by rw [h.2.2 169 28 (by decide) (by unfold mvR; omega)]; exact mi_T28.2
set_option maxRecDepth 100000 in
set_option maxHeartbeats 4000000 in
theorem mi_T29 : mT mi 199 = (100, 2) ∧ mR mi 169 29 = some 199 := by decide +kernel
theorem Shp.T_unread {M : mM} (h : Shp M) : mT M 199 = (100, 2) := by rw [h.2.1 199 (by decide)]; exact mi_T29.1
theorem Shp.R_unread {M : mM} (h : Shp M) : mR M 169 29 = some 199 := by rw [h.2.2 169 29 (by decide) (by unfold mvR; omega)]; exact mi_T29.2
set_option maxRecDepth 100000 in
set_option maxHeartbeats 4000000 in
theorem mi_T30 : mT mi 200 = (100, 80) ∧ mR mi 169 30 = some 200 := by decide +kernel
theorem Shp.T_unreadStream {M : mM} (h : Shp M) : mT M 200 = (100, 80) := by rw [h.2.1 200 (by decide)]; exact mi_T30.1
theorem Shp.R_unreadStream {M : mM} (h : Shp M) : mR M 169 30 = some 200 := by rw [h.2.2 169 30 (by decide) (by unfold mvR; omega)]; exact mi_T30.2
set_option maxRecDepth 100000 in
set_option maxHeartbeats 4000000 in
theorem mi_T31 : mT mi 201 = (100, 80) ∧ mR mi 169 31 = some 201 := by decide +kernel
theorem Shp.T_unreadByte {M : mM} (h : Shp M) : mT M 201 = (100, 80) := by rw [h.2.1 201 (by decide)]; exact mi_T31.1
theorem Shp.R_unreadByte {M : mM} (h : Shp M) : mR M 169 31 = some 201 := by rw [h.2.2 169 31 (by decide) (by unfold mvR; omega)]; exact mi_T31.2
set_option maxRecDepth 100000 in
set_option maxHeartbeats 4000000 in
theorem mi_T32 : mT mi 202 = (100, 2) ∧ mR mi 169 32 = some 202 := by decide +kernel
theorem Shp.T_linkSent {M : mM} (h : Shp M) : mT M 202 = (100, 2) := by rw [h.2.1 202 (by decide)]; exact mi_T32.1
theorem Shp.R_linkSent {M : mM} (h : Shp M) : mR M 169 32 = some 202 := by rw [h.2.2 169 32 (by decide) (by unfold mvR; omega)]; exact mi_T32.2
set_option maxRecDepth 100000 in
set_option maxHeartbeats 4000000 in
theorem mi_T33 : mT mi 203 = (100, 2) ∧ mR mi 169 33 = some 203 := by decide +kernel
theorem Shp.T_linkCredit {M : mM} (h : Shp M) : mT M 203 = (100, 2) := by rw [h.2.1 203 (by decide)]; exact mi_T33.1
theorem Shp.R_linkCredit {M : mM} (h : Shp M) : mR M 169 33 = some 203 := by rw [h.2.2 169 33 (by decide) (by unfold mvR; omega)]; exact mi_T33.2
set_option maxRecDepth 100000 in
set_option maxHeartbeats 4000000 in
theorem mi_T34 : mT mi 204 = (100, 2) ∧ mR mi 169 34 = some 204 := by decide +kernel
theorem Shp.T_lastData {M : mM} (h : Shp M) : mT M 204 = (100, 2) := by rw [h.2.1 204 (by decide)]; exact mi_T34.1
theorem Shp.R_lastData {M : mM} (h : Shp M) : mR M 169 34 = some 204 := by rw [h.2.2 169 34 (by decide) (by unfold mvR; omega)]; exact mi_T34.2
set_option maxRecDepth 100000 in
set_option maxHeartbeats 4000000 in
theorem mi_T35 : mT mi 205 = (100, 6) ∧ mR mi 169 36 = some 205 := by decide +kernel
theorem Shp.T_force {M : mM} (h : Shp M) : mT M 205 = (100, 6) := by rw [h.2.1 205 (by decide)]; exact mi_T35.1
theorem Shp.R_force {M : mM} (h : Shp M) : mR M 169 36 = some 205 := by rw [h.2.2 169 36 (by decide) (by unfold mvR; omega)]; exact mi_T35.2
set_option maxRecDepth 100000 in
set_option maxHeartbeats 4000000 in
theorem mi_T36 : mT mi 206 = (100, 6) ∧ mR mi 169 37 = some 206 := by decide +kernel
theorem Shp.T_told {M : mM} (h : Shp M) : mT M 206 = (100, 6) := by rw [h.2.1 206 (by decide)]; exact mi_T36.1
theorem Shp.R_told {M : mM} (h : Shp M) : mR M 169 37 = some 206 := by rw [h.2.2 169 37 (by decide) (by unfold mvR; omega)]; exact mi_T36.2
set_option maxRecDepth 100000 in
set_option maxHeartbeats 4000000 in
theorem mi_T37 : mT mi 207 = (102, 2) ∧ mR mi 169 38 = some 207 := by decide +kernel
theorem Shp.T_toldSince {M : mM} (h : Shp M) : mT M 207 = (102, 2) := by rw [h.2.1 207 (by decide)]; exact mi_T37.1
theorem Shp.R_toldSince {M : mM} (h : Shp M) : mR M 169 38 = some 207 := by rw [h.2.2 169 38 (by decide) (by unfold mvR; omega)]; exact mi_T37.2
set_option maxRecDepth 100000 in
set_option maxHeartbeats 4000000 in
theorem mi_T38 : mT mi 208 = (100, 2) ∧ mR mi 169 39 = some 208 := by decide +kernel
theorem Shp.T_leastTold {M : mM} (h : Shp M) : mT M 208 = (100, 2) := by rw [h.2.1 208 (by decide)]; exact mi_T38.1
theorem Shp.R_leastTold {M : mM} (h : Shp M) : mR M 169 39 = some 208 := by rw [h.2.2 169 39 (by decide) (by unfold mvR; omega)]; exact mi_T38.2
set_option maxRecDepth 100000 in
set_option maxHeartbeats 4000000 in
theorem mi_T39 : mT mi 209 = (102, 2) ∧ mR mi 169 40 = some 209 := by decide +kernel
theorem Shp.T_need {M : mM} (h : Shp M) : mT M 209 = (102, 2) := by rw [h.2.1 209 (by decide)]; exact mi_T39.1
theorem Shp.R_need {M : mM} (h : Shp M) : mR M 169 40 = some 209 := by rw [h.2.2 169 40 (by decide) (by unfold mvR; omega)]; exact mi_T39.2
set_option maxRecDepth 100000 in
set_option maxHeartbeats 4000000 in
theorem mi_T40 : mT mi 210 = (100, 2) ∧ mR mi 169 41 = some 210 := by decide +kernel
theorem Shp.T_open {M : mM} (h : Shp M) : mT M 210 = (100, 2) := by rw [h.2.1 210 (by decide)]; exact mi_T40.1
theorem Shp.R_open {M : mM} (h : Shp M) : mR M 169 41 = some 210 := by rw [h.2.2 169 41 (by decide) (by unfold mvR; omega)]; exact mi_T40.2
set_option maxRecDepth 100000 in
set_option maxHeartbeats 4000000 in
theorem mi_T41 : mT mi 211 = (100, 16) ∧ mR mi 169 42 = some 211 := by decide +kernel
theorem Shp.T_openSetting {M : mM} (h : Shp M) : mT M 211 = (100, 16) := by rw [h.2.1 211 (by decide)]; exact mi_T41.1
theorem Shp.R_openSetting {M : mM} (h : Shp M) : mR M 169 42 = some 211 := by rw [h.2.2 169 42 (by decide) (by unfold mvR; omega)]; exact mi_T41.2
set_option maxRecDepth 100000 in
set_option maxHeartbeats 4000000 in
theorem mi_T42 : mT mi 212 = (100, 16) ∧ mR mi 169 43 = some 212 := by decide +kernel
theorem Shp.T_openValue {M : mM} (h : Shp M) : mT M 212 = (100, 16) := by rw [h.2.1 212 (by decide)]; exact mi_T42.1
theorem Shp.R_openValue {M : mM} (h : Shp M) : mR M 169 43 = some 212 := by rw [h.2.2 169 43 (by decide) (by unfold mvR; omega)]; exact mi_T42.2
set_option maxRecDepth 100000 in
set_option maxHeartbeats 4000000 in
theorem mi_T43 : mT mi 213 = (100, 4) ∧ mR mi 169 44 = some 213 := by decide +kernel
theorem Shp.T_maximum {M : mM} (h : Shp M) : mT M 213 = (100, 4) := by rw [h.2.1 213 (by decide)]; exact mi_T43.1
theorem Shp.R_maximum {M : mM} (h : Shp M) : mR M 169 44 = some 213 := by rw [h.2.2 169 44 (by decide) (by unfold mvR; omega)]; exact mi_T43.2
set_option maxRecDepth 100000 in
set_option maxHeartbeats 4000000 in
theorem mi_T44 : mT mi 214 = (100, 4) ∧ mR mi 169 45 = some 214 := by decide +kernel
theorem Shp.T_size {M : mM} (h : Shp M) : mT M 214 = (100, 4) := by rw [h.2.1 214 (by decide)]; exact mi_T44.1
theorem Shp.R_size {M : mM} (h : Shp M) : mR M 169 45 = some 214 := by rw [h.2.2 169 45 (by decide) (by unfold mvR; omega)]; exact mi_T44.2
set_option maxRecDepth 100000 in
set_option maxHeartbeats 4000000 in
theorem mi_T45 : mT mi 215 = (100, 24) ∧ mR mi 169 46 = some 215 := by decide +kernel
theorem Shp.T_tableName {M : mM} (h : Shp M) : mT M 215 = (100, 24) := by rw [h.2.1 215 (by decide)]; exact mi_T45.1
theorem Shp.R_tableName {M : mM} (h : Shp M) : mR M 169 46 = some 215 := by rw [h.2.2 169 46 (by decide) (by unfold mvR; omega)]; exact mi_T45.2
set_option maxRecDepth 100000 in
set_option maxHeartbeats 4000000 in
theorem mi_T46 : mT mi 216 = (100, 24) ∧ mR mi 169 47 = some 216 := by decide +kernel
theorem Shp.T_tableValue {M : mM} (h : Shp M) : mT M 216 = (100, 24) := by rw [h.2.1 216 (by decide)]; exact mi_T46.1
theorem Shp.R_tableValue {M : mM} (h : Shp M) : mR M 169 47 = some 216 := by rw [h.2.2 169 47 (by decide) (by unfold mvR; omega)]; exact mi_T46.2
set_option maxRecDepth 100000 in
set_option maxHeartbeats 4000000 in
theorem mi_T47 : mT mi 217 = (100, 2) ∧ mR mi 169 48 = some 217 := by decide +kernel
theorem Shp.T_making {M : mM} (h : Shp M) : mT M 217 = (100, 2) := by rw [h.2.1 217 (by decide)]; exact mi_T47.1
theorem Shp.R_making {M : mM} (h : Shp M) : mR M 169 48 = some 217 := by rw [h.2.2 169 48 (by decide) (by unfold mvR; omega)]; exact mi_T47.2
set_option maxRecDepth 100000 in
set_option maxHeartbeats 4000000 in
theorem mi_T48 : mT mi 218 = (100, 12) ∧ mR mi 169 49 = some 218 := by decide +kernel
theorem Shp.T_makingName {M : mM} (h : Shp M) : mT M 218 = (100, 12) := by rw [h.2.1 218 (by decide)]; exact mi_T48.1
theorem Shp.R_makingName {M : mM} (h : Shp M) : mR M 169 49 = some 218 := by rw [h.2.2 169 49 (by decide) (by unfold mvR; omega)]; exact mi_T48.2
set_option maxRecDepth 100000 in
set_option maxHeartbeats 4000000 in
theorem mi_T49 : mT mi 219 = (100, 12) ∧ mR mi 169 50 = some 219 := by decide +kernel
theorem Shp.T_makingValue {M : mM} (h : Shp M) : mT M 219 = (100, 12) := by rw [h.2.1 219 (by decide)]; exact mi_T49.1
theorem Shp.R_makingValue {M : mM} (h : Shp M) : mR M 169 50 = some 219 := by rw [h.2.2 169 50 (by decide) (by unfold mvR; omega)]; exact mi_T49.2
set_option maxRecDepth 100000 in
set_option maxHeartbeats 4000000 in
theorem mi_T50 : mT mi 220 = (102, 12) ∧ mR mi 169 51 = some 220 := by decide +kernel
theorem Shp.T_makingSecret {M : mM} (h : Shp M) : mT M 220 = (102, 12) := by rw [h.2.1 220 (by decide)]; exact mi_T50.1
theorem Shp.R_makingSecret {M : mM} (h : Shp M) : mR M 169 51 = some 220 := by rw [h.2.2 169 51 (by decide) (by unfold mvR; omega)]; exact mi_T50.2
set_option maxRecDepth 100000 in
set_option maxHeartbeats 4000000 in
theorem mi_T51 : mT mi 221 = (100, 8) ∧ mR mi 169 53 = some 221 := by decide +kernel
theorem Shp.T_listName {M : mM} (h : Shp M) : mT M 221 = (100, 8) := by rw [h.2.1 221 (by decide)]; exact mi_T51.1
theorem Shp.R_listName {M : mM} (h : Shp M) : mR M 169 53 = some 221 := by rw [h.2.2 169 53 (by decide) (by unfold mvR; omega)]; exact mi_T51.2
set_option maxRecDepth 100000 in
set_option maxHeartbeats 4000000 in
theorem mi_T52 : mT mi 222 = (100, 8) ∧ mR mi 169 54 = some 222 := by decide +kernel
theorem Shp.T_listValue {M : mM} (h : Shp M) : mT M 222 = (100, 8) := by rw [h.2.1 222 (by decide)]; exact mi_T52.1
theorem Shp.R_listValue {M : mM} (h : Shp M) : mR M 169 54 = some 222 := by rw [h.2.2 169 54 (by decide) (by unfold mvR; omega)]; exact mi_T52.2

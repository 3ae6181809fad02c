/-! ===== calls ===== -/
def cB (own : String) (idx : Nat) (v : mU) (n : Nat) : Prop := (Cond.methodLink own idx v.1 ∈ gW ∨ ∃ host, Cond.methodLinkNest own idx v.1 host ∈ gN) ∧ Cond.initialized v.1.cls ∈ gW ∧ wC v ∈ gW ∧ (v.1.cls ≠ "java/lang/invoke/MethodHandle" ∧ v.1.cls ≠ "java/lang/invoke/VarHandle") ∧ (parseMethodDescriptor v.1.desc).map (fun d => d.parameters.length) = some n
/-- a virtual call, a static one, a constructor's -/
def cV (own : String) (idx : Nat) (v : mU) (n : Nat) : Prop := cB own idx v n ∧ Cond.instanceMethod v.1 ∈ gW ∧ Cond.selects v.1.cls v.1 v.1 ∈ gW
def cSt (own : String) (idx : Nat) (v : mU) (n : Nat) : Prop := cB own idx v n ∧ Cond.static v.1 ∈ gW
def cI (own : String) (idx : Nat) (v : mU) (n : Nat) : Prop := cB own idx v n ∧ Cond.instanceMethod v.1 ∈ gW ∧ v.1.name = "<init>" ∧ v.2.2.2 = none
section GC0
variable {X : mX} {l : Launch} {u v : mU} {rm rm' : Room} {p : Program} {e : Env} {s : State} {m : MethodId} {args : Array Value} {below : List Frame} {meth : Method} {c : Code} {H : Heap} {locs : List Loc} {cells slots bc bs : Nat} {M : mM} {pc : Nat} {lr : Array Slot} {ls : List (Option Value)} {st st0 : List Value} {Q Q' : Option Value → mM → Prop} {aa : Array Value}
theorem h_run (F : Fx X u p s m args meth c) (hS : va_S (xA X) s.heap H locs) (hc : cells + (bc + rm'.cells) ≤ rm.cells) (hs : slots + (bs + rm'.slots) ≤ rm.slots) (hl : LR X lr u.2.2.1 ls)
    (hr : va_Run p l e rm s m args below meth c H locs cells slots rm'.cells rm'.slots (F0 m pc lr (st0.map (rel X))) (st.map (rel X)) (mQc X Q' aa) (xA X))
    (kk : ∀ (r : Option Value) (M' : mM), Q' r M' → G X l u rm bc bs M' (pc + 3) ls (r.toList ++ st) Q) : W p l e rm s m args below meth c H locs cells slots (MQ below (mQc X Q) args s rm.cells rm.slots (xA X)) (F0 m pc lr (st0.map (rel X))) := by
  intro T hT S
  obtain ⟨v, st₀, t, T', L, h0, S', hL, e1, e2, ⟨⟨r, M', hv, hq, hM', hO'⟩, hz, hk⟩, go⟩ := hr T hT S
  cases hv
  rw [h0] at hz hk
  have hS' : va_S (xA X) s.heap T'.heap (locs ++ L) := ⟨Nat.le_trans hS.1 (by rw [e1]; exact hz), fun q h1 h2 => by rw [e1, hk q (Nat.lt_of_lt_of_le h1 hS.1) h2]; exact hS.2.1 q h1 h2, fun q hq => by
    rcases List.mem_append.mp hq with h | h
    · exact hS.2.2 q h
    · exact hL q h⟩
  obtain ⟨t2, a1, b1⟩ := kk r M' hq p e s m args below meth c T'.heap (locs ++ L) (cells + rm'.cells) (slots + rm'.slots) lr F (by rw [e1]; exact hM') hS' (by omega) (by omega) hl T' rfl S'
  refine ⟨t2, go t2 ?_, b1⟩
  have es : (r.toList ++ st).map (rel X) = (r.map (rel X)).toList ++ st.map (rel X) := by cases r <;> simp
  rw [es] at a1
  exact a1
theorem h_room (h : (st.map fun v => v.category).sum ≤ 8) : 2 * (F0 m pc lr (st0.map (rel X))).monitorRoom + ((st.map (rel X)).map fun v => v.category).sum ≤ 8 := by
  refine lv_room ?_
  rw [List.map_map]
  have e : ((fun v : Value => v.category) ∘ rel X) = fun v => v.category := funext fun v => rel_cat X v
  rw [e]
  exact h
end GC0
section GC
variable {X : mX} {l : Launch} {u v : mU} {rm rm' : Room} {bc bs : Nat} {M : mM} {ls : List (Option Value)} {st : List Value} {Q Q' : Option Value → mM → Prop}
theorem g_callV (pc : Nat) {idx n b ci N : Nat} {T : u_T} (As : List Value) {st0 : List Value} (hd : decode u.2.1 pc = .ok (.invokevirtual idx, 3)) (hs' : cV u.1.cls idx v n) (hn : As.length = n) (hcl : vwCl[ci]? = some (v.1.cls, T, N)) (hci : ci < 100) (hT : (mT M b).1 = ci) (hst : As.reverse ++ .ref b :: st = st0) (hR : rm'.frames + 1 ≤ rm.frames ∧ 8 + (v.2.2.1 + 11) + rm'.locals ≤ rm.locals) (h8 : (st.map fun v => v.category).sum ≤ 8)
    (hC : Ct X l v rm' (.ref b :: As) M Q') (h1 : rm'.cells ≤ bc) (h2 : rm'.slots ≤ bs) (kk : ∀ (r : Option Value) (M' : mM), Q' r M' → G X l u rm (bc - rm'.cells) (bs - rm'.slots) M' (pc + 3) ls (r.toList ++ st) Q) : G X l u rm bc bs M pc ls st0 Q := by
  intro p e s m args below meth c H locs cells slots lr F hM hS hc hs hl
  obtain ⟨⟨hlk, hini, hcw, hmh, hpd⟩, him, hsel⟩ := hs'
  have hts := F.2.2.2.2.2.1
  have hO := F.2.2.2.2.2.2.2.2.1
  have hG := gW_sub u v hcw
  have S : CallFix p m c u.2.1 u.2.2.1 s args (wC u :: gW) u.1.cls := ⟨F.1, F.2.1, F.2.2.2.1, F.2.2.2.2.1, hts⟩
  obtain ⟨h3b, hltb⟩ := hM.alloc (a := b) (by rw [hT]; omega)
  obtain ⟨r', hr', cellV, g1, g2, g3, -⟩ := (hM.2.2.2 b h3b hltb).1 (by rw [hT]; exact hci)
  rw [hT] at g2
  have hpre : PreV s H v.1.cls (adr X b) (mPc X (.ref b :: As) M) (As.map (rel X)) := ⟨mPc.blind, ⟨cellV, g1, by rw [g3]; rfl, by rw [g2]; exact (hO.1.1 ci _ hcl).2.1⟩, fun U hU hW => ⟨rfl, by rw [hU]; exact hM, hO.mv hW (by rw [hU]; exact hS)⟩⟩
  have hstk : (st0.map (rel X)) = (As.map (rel X)).reverse ++ .ref (adr X b) :: st.map (rel X) := by rw [← hst]; simp [rel]
  refine h_run (rm' := rm') (bc := bc - rm'.cells) (bs := bs - rm'.slots) F hS (by omega) (by omega) hl (aa := (Value.ref (adr X b) :: As.map (rel X)).toArray) (Q' := Q') ?_ kk
  rcases hlk with hlk | ⟨host, hlk⟩
  · have cw : CallW rm s args u.1.cls v.1.cls idx v.1 v.2.1 v.2.2.1 v.2.2.2 (wC v :: gW) rm' rm'.cells rm'.slots n :=
      ⟨callB_of n hts hG rfl rfl rfl (hts _ (List.mem_cons_of_mem _ hini)) (hts _ (List.mem_cons_of_mem _ hlk)) ⟨hmh.1, hmh.2, hpd⟩ hR, hts _ (List.mem_cons_of_mem _ him), hts _ (List.mem_cons_of_mem _ hsel)⟩
    exact va_runV S hC cw hpre rfl (by simpa using hn) hl.1 hstk (h_room h8) hd ⟨by omega, by omega⟩
  · have cw : va_CN rm s args u.1.cls idx v.1 host v.2.1 v.2.2.1 v.2.2.2 (wC v :: gW) rm' rm'.cells rm'.slots n := va_cnB n hts hG rfl rfl rfl (hO.2.1 _ hlk) (hts _ (List.mem_cons_of_mem _ hini)) ⟨hmh.1, hmh.2, hpd⟩ hR
    exact va_runVN S hC ⟨cw, hts _ (List.mem_cons_of_mem _ him), hts _ (List.mem_cons_of_mem _ hsel)⟩ hpre rfl (by simpa using hn) hl.1 hstk (h_room h8) hd ⟨by omega, by omega⟩
theorem g_callS (pc : Nat) {idx n : Nat} (As : List Value) {st0 : List Value} (hd : decode u.2.1 pc = .ok (.invokestatic idx, 3)) (hs' : cSt u.1.cls idx v n) (hn : As.length = n) (hst : As.reverse ++ st = st0) (hR : rm'.frames + 1 ≤ rm.frames ∧ 8 + (v.2.2.1 + 11) + rm'.locals ≤ rm.locals) (h8 : (st.map fun v => v.category).sum ≤ 8)
    (hC : Ct X l v rm' As M Q') (h1 : rm'.cells ≤ bc) (h2 : rm'.slots ≤ bs) (kk : ∀ (r : Option Value) (M' : mM), Q' r M' → G X l u rm (bc - rm'.cells) (bs - rm'.slots) M' (pc + 3) ls (r.toList ++ st) Q) : G X l u rm bc bs M pc ls st0 Q := by
  intro p e s m args below meth c H locs cells slots lr F hM hS hc hs hl
  obtain ⟨⟨hlk, hini, hcw, hmh, hpd⟩, hstt⟩ := hs'
  have hts := F.2.2.2.2.2.1
  have hO := F.2.2.2.2.2.2.2.2.1
  have hG := gW_sub u v hcw
  have S : CallFix p m c u.2.1 u.2.2.1 s args (wC u :: gW) u.1.cls := ⟨F.1, F.2.1, F.2.2.2.1, F.2.2.2.2.1, hts⟩
  have hpre : PreS s H (mPc X As M) (As.map (rel X)) := ⟨mPc.blind, fun U hU hW => ⟨rfl, by rw [hU]; exact hM, hO.mv hW (by rw [hU]; exact hS)⟩⟩
  have hstk : (st0.map (rel X)) = (As.map (rel X)).reverse ++ st.map (rel X) := by rw [← hst]; simp
  refine h_run (rm' := rm') (bc := bc - rm'.cells) (bs := bs - rm'.slots) F hS (by omega) (by omega) hl (aa := (As.map (rel X)).toArray) (Q' := Q') ?_ kk
  rcases hlk with hlk | ⟨host, hlk⟩
  · exact va_runS S hC ⟨callB_of n hts hG rfl rfl rfl (hts _ (List.mem_cons_of_mem _ hini)) (hts _ (List.mem_cons_of_mem _ hlk)) ⟨hmh.1, hmh.2, hpd⟩ hR, hts _ (List.mem_cons_of_mem _ hstt)⟩ hpre rfl (by simpa using hn) hl.1 hstk (h_room h8) hd ⟨by omega, by omega⟩
  · have cw : va_CN rm s args u.1.cls idx v.1 host v.2.1 v.2.2.1 v.2.2.2 (wC v :: gW) rm' rm'.cells rm'.slots n := va_cnB n hts hG rfl rfl rfl (hO.2.1 _ hlk) (hts _ (List.mem_cons_of_mem _ hini)) ⟨hmh.1, hmh.2, hpd⟩ hR
    exact va_runSN S hC ⟨cw, hts _ (List.mem_cons_of_mem _ hstt), trivial⟩ hpre rfl (by simpa using hn) hl.1 hstk (h_room h8) hd ⟨by omega, by omega⟩
theorem g_callI (pc : Nat) {idx n b : Nat} (As : List Value) {st0 : List Value} (hd : decode u.2.1 pc = .ok (.invokespecial idx, 3)) (hs' : cI u.1.cls idx v n) (hn : As.length = n) (hst : As.reverse ++ .ref b :: st = st0) (hR : rm'.frames + 1 ≤ rm.frames ∧ 8 + (v.2.2.1 + 11) + rm'.locals ≤ rm.locals) (h8 : (st.map fun v => v.category).sum ≤ 8)
    (hC : Ct X l v rm' (.ref b :: As) M Q') (h1 : rm'.cells ≤ bc) (h2 : rm'.slots ≤ bs) (kk : ∀ (r : Option Value) (M' : mM), Q' r M' → G X l u rm (bc - rm'.cells) (bs - rm'.slots) M' (pc + 3) ls (r.toList ++ st) Q) : G X l u rm bc bs M pc ls st0 Q := by
  intro p e s m args below meth c H locs cells slots lr F hM hS hc hs hl
  obtain ⟨v1, v2, v3, v4⟩ := v
  obtain ⟨⟨hlk, hini, hcw, hmh, hpd⟩, him, hnm, hrt⟩ := hs'
  have hrt : v4 = none := hrt
  subst hrt
  have hts := F.2.2.2.2.2.1
  have hO := F.2.2.2.2.2.2.2.2.1
  have hG := gW_sub u (v1, v2, v3, none) hcw
  have S : CallFix p m c u.2.1 u.2.2.1 s args (wC u :: gW) u.1.cls := ⟨F.1, F.2.1, F.2.2.2.1, F.2.2.2.2.1, hts⟩
  have hpre : PreS s H (mPc X (.ref b :: As) M) (.ref (adr X b) :: As.map (rel X)) := ⟨mPc.blind, fun U hU hW => ⟨rfl, by rw [hU]; exact hM, hO.mv hW (by rw [hU]; exact hS)⟩⟩
  have hstk : (st0.map (rel X)) = (As.map (rel X)).reverse ++ .ref (adr X b) :: st.map (rel X) := by rw [← hst]; simp [rel]
  refine h_run (rm' := rm') (bc := bc - rm'.cells) (bs := bs - rm'.slots) F hS (by omega) (by omega) hl (aa := (Value.ref (adr X b) :: As.map (rel X)).toArray) (Q' := Q') ?_ kk
  rcases hlk with hlk | ⟨host, hlk⟩
  · exact va_runI S hC ⟨callB_of n hts hG rfl rfl rfl (hts _ (List.mem_cons_of_mem _ hini)) (hts _ (List.mem_cons_of_mem _ hlk)) ⟨hmh.1, hmh.2, hpd⟩ hR, hnm, hts _ (List.mem_cons_of_mem _ him)⟩ hpre rfl (by simpa using hn) hl.1 hstk (h_room h8) hd ⟨by omega, by omega⟩
  · have cw : va_CN rm s args u.1.cls idx v1 host v2 v3 none (wC (v1, v2, v3, none) :: gW) rm' rm'.cells rm'.slots n := va_cnB n hts hG rfl rfl rfl (hO.2.1 _ hlk) (hts _ (List.mem_cons_of_mem _ hini)) ⟨hmh.1, hmh.2, hpd⟩ hR
    exact va_runIN S hC ⟨cw, hnm, hts _ (List.mem_cons_of_mem _ him)⟩ hpre rfl (by simpa using hn) hl.1 hstk (h_room h8) hd ⟨by omega, by omega⟩
/-- Object's own constructor -/
theorem g_objInit (pc : Nat) {idx a : Nat} (hd : decode u.2.1 pc = .ok (.invokespecial idx, 3)) (hw1 : Cond.methodLink u.1.cls idx Lib.objectInit ∈ gW) (hw2 : Cond.instanceMethod Lib.objectInit ∈ gW) (hw3 : Cond.code Lib.objectInit ⟨#[0xb1]⟩ 1 none ∈ gW) (hR : 1 ≤ rm.frames ∧ (st.map fun v => v.category).sum + 12 ≤ rm.locals)
    (k : G X l u rm bc bs M (pc + 3) ls st Q) : G X l u rm bc bs M pc ls (.ref a :: st) Q := by
  intro p e s m args below meth c H locs cells slots lr F hM hS hc hs hl
  have hts := F.2.2.2.2.2.1
  have K := k p e s m args below meth c H locs cells slots lr F hM hS hc hs hl
  refine W.objInit F.1 F.2.1 F.2.2.2.2.1 (hts _ (List.mem_cons_of_mem _ hw1)) (hts _ (List.mem_cons_of_mem _ hw2)) (hts _ (List.mem_cons_of_mem _ hw3)) rfl (by rw [F.2.2.2.1]; exact hl.1) rfl hd hR.1 ?_ K
  have e1 : ((st.map (rel X)).map fun v => v.category).sum = (st.map fun v => v.category).sum := by
    rw [List.map_map]
    have e : ((fun v : Value => v.category) ∘ rel X) = fun v => v.category := funext fun v => rel_cat X v
    rw [e]
  rw [e1]
  show 2 * 0 + _ + 12 ≤ _
  omega
end GC
/-- less room asked, or a weaker end -/
theorem Ct.post {X : mX} {l : Launch} {u : mU} {rm : Room} {av : List Value} {M : mM} {Q Q' : Option Value → mM → Prop} (h : Ct X l u rm av M Q) (hq : ∀ r M', Q r M' → Q' r M') : Ct X l u rm av M Q' := by
  intro p e ha hc hk s m args below hf hsp hP hK
  obtain ⟨k, o, h1, h2, h3, ⟨⟨⟨r, M', e1, e2, e3⟩, e4⟩, h5⟩⟩ := h p e ha hc hk s m args below hf hsp hP hK
  exact ⟨k, o, h1, h2, h3, ⟨⟨⟨r, M', e1, hq r M' e2, e3⟩, e4⟩, h5⟩⟩

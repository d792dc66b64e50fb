-- contracts: what goes in, what comes out
def fr_Qc (X : fr_X) (Z' : fr_Z) (post : Option Value → fr_I → fr_J → Prop) : Array Value → State → Outcome → State → Prop := fun _ st oc t =>
  ∃ (v : Option Value) (I' : fr_I) (J' : fr_J), oc = .returned v ∧ post v I' J' ∧ t.heap.size = Z'.2.2 ∧ fr_ok X Z' I' J' t t.heap ∧ va_F (fun q => X.2.2.2 ≤ q) st t
def fr_Pr (X : fr_X) (Z : fr_Z) (I : fr_I) (J : fr_J) (U : State) : Prop := U.heap.size = Z.2.2 ∧ fr_ok X Z I J U U.heap ∧ va_K X.2.1 fr_cl [] U ∧ ((∀ q ∈ fr_nw, va_Nw (.methodLinkNest q.1 q.2.1 q.2.2.1 q.2.2.2) U) ∧ va_AO fr_aC U) ∧ X.2.2.2 ≤ U.heap.size
def fr_Ct (X : fr_X) (y : MethodName) (b : ByteArray) (nL : Nat) (ret : Option FieldType) (R : Room) (av : List Value) (Z Z' : fr_Z) (I : fr_I) (J : fr_J) (post : Option Value → fr_I → fr_J → Prop) : Prop :=
  Met X.1 y (Cond.code y b nL ret :: fr_ws) R (va_Pc av (fr_Pr X Z I J)) (fr_Qc X Z' post) R.cells R.slots (fun q => X.2.2.2 ≤ q)
def fr_pi (q : Int32 → fr_I → fr_J → Prop) : Option Value → fr_I → fr_J → Prop := fun v I J => ∃ x : Int32, v = some (.int x) ∧ q x I J
def fr_pl (q : Int64 → fr_I → fr_J → Prop) : Option Value → fr_I → fr_J → Prop := fun v I J => ∃ x : Int64, v = some (.long x) ∧ q x I J
def fr_pv (q : fr_I → fr_J → Prop) : Option Value → fr_I → fr_J → Prop := fun v I J => v = none ∧ q I J
/-- a method's end as W has it -/
def fr_Q (X : fr_X) (E : fr_E) (Z' : fr_Z) (post : Option Value → fr_I → fr_J → Prop) (R : Room) : State → Prop := MQ E.2.2.2.2.2.1 (fr_Qc X Z' post) E.2.2.2.2.1 E.2.2.1 R.cells R.slots (fun q => X.2.2.2 ≤ q)
theorem fr_ct {X : fr_X} {y : MethodName} {b : ByteArray} {nL : Nat} {ret : Option FieldType} {R : Room} {av : List Value} {Z Z' : fr_Z} {I : fr_I} {J : fr_J} {post : Option Value → fr_I → fr_J → Prop} {own nm : String} {L : List (Nat × Value)} (hy : plainName y.cls = true) (ho : y.cls = own) (hn : y.name = nm) (ha : (lg_sl av).length ≤ nL) (hL : lv_args 0 av = L)
    (h : ∀ E, fr_Ev X E own nm b nL ret R (fr_Q X E Z' post R) 0 0 Z 0 L [] I J) : fr_Ct X y b nL ret R av Z Z' I J post := by
  subst ho hn hL
  refine Met.ofW (cc := b) (maxL := nL) (ret := ret) hy rfl ?_
  intro p e s m args below meth c s₁ B hml hv
  obtain ⟨rfl, hsz, hok, hK, hN, hbase⟩ := hv
  have hts := atoms_spec (ws := Cond.code y b nL ret :: fr_ws) B.pre
  rw [lg_entry_eq]
  exact h (p, e, s, m, av.toArray, below, meth, c) ⟨B.exec, B.bytes, hml, findClass_of_methodNamed B.named, fun w hw => hts w (List.mem_cons_of_mem _ hw), hK, hN, B.returns, B.notSynchronized, (name_of_methodNamed B.named B.method).1, hbase⟩ s.heap [] _ hsz hok va_S.rf (lv_entry av ha)
section FRcalls
variable {X : fr_X} {E : fr_E} {own nm : String} {cc : ByteArray} {nL : Nat} {ret : Option FieldType} {R : Room} {Q : State → Prop} {cs sl : Nat} {Z Z' : fr_Z} {pc : Nat} {L : List (Nat × Value)} {st st0 : List Value} {I : fr_I} {J : fr_J} {post : Option Value → fr_I → fr_J → Prop}
-- returns
theorem fr_vret {q : fr_I → fr_J → Prop} (d : decode cc pc = .ok (.return_, 1)) (hr : ret = none) (hc : cs ≤ R.cells) (hsl : sl ≤ R.slots) (hp : q I J) : fr_Ev X E own nm cc nL ret R (fr_Q X E Z (fr_pv q) R) cs sl Z pc L [] I J := by
  intro C H locs ls hz hm hS hl
  refine W.widen hc hsl ?_
  exact W.vret C.1 C.2.1 (C.2.2.2.2.2.2.2.1.trans hr) (fun t ht hW => ⟨none, I, J, rfl, ⟨rfl, hp⟩, by rw [ht]; exact hz, by rw [ht]; exact hm.moved hW.alike, hS.F ht⟩) hS.2.2 d C.2.2.2.2.2.2.2.2.1
theorem fr_iret {q : Int32 → fr_I → fr_J → Prop} {x : Int32} {ty : FieldType} (d : decode cc pc = .ok (.ireturn, 1)) (hr : ret = some ty) (hn : narrow ty (.int x) = .int x) (hc : cs ≤ R.cells) (hsl : sl ≤ R.slots) (hp : q x I J) : fr_Ev X E own nm cc nL ret R (fr_Q X E Z (fr_pi q) R) cs sl Z pc L [.int x] I J := by
  intro C H locs ls hz hm hS hl
  refine W.widen hc hsl ?_
  exact W.zret C.1 C.2.1 (C.2.2.2.2.2.2.2.1.trans hr) hn (fun t ht hW => ⟨some (.int x), I, J, rfl, ⟨x, rfl, hp⟩, by rw [ht]; exact hz, by rw [ht]; exact hm.moved hW.alike, hS.F ht⟩) hS.2.2 d C.2.2.2.2.2.2.2.2.1
theorem fr_lret {q : Int64 → fr_I → fr_J → Prop} {x : Int64} (d : decode cc pc = .ok (.lreturn, 1)) (hr : ret = some .long) (hc : cs ≤ R.cells) (hsl : sl ≤ R.slots) (hp : q x I J) : fr_Ev X E own nm cc nL ret R (fr_Q X E Z (fr_pl q) R) cs sl Z pc L [.long x] I J := by
  intro C H locs ls hz hm hS hl
  refine W.widen hc hsl ?_
  exact W.lret C.1 C.2.1 (C.2.2.2.2.2.2.2.1.trans hr) (fun t ht hW => ⟨some (.long x), I, J, rfl, ⟨x, rfl, hp⟩, by rw [ht]; exact hz, by rw [ht]; exact hm.moved hW.alike, hS.F ht⟩) hS.2.2 d C.2.2.2.2.2.2.2.2.1
-- calls
theorem fr_blind {X : fr_X} {av : List Value} {Z : fr_Z} {I : fr_I} {J : fr_J} : FrameBlind (va_Pc av (fr_Pr X Z I J)) := by
  intro a U g mk q
  obtain ⟨q0, q1, q2, q3, q4, q5⟩ := q
  exact ⟨q0, q1, fr_ok.moved (U := U) (V := U.calling g mk a) (Vm.Alike.refl U.vm) q2, va_K.moved (u := U) (U := U.calling g mk a) (Vm.Alike.refl U.vm) q3, ⟨fun w hw => va_Nw.same (u := U) (U := U.calling g mk a) rfl rfl (q4.1 w hw), va_AO.moved (u := U) (U := U.calling g mk a) (Vm.Alike.refl U.vm) q4.2⟩, q5⟩
theorem fr_pre {H : Heap} {locs : List Loc} (C : fr_Cx X E own nm cc nL ret) (hz : H.size = Z.2.2) (hm : fr_ok X Z I J E.2.2.1 H) (hS : va_S (fun q => X.2.2.2 ≤ q) E.2.2.1.heap H locs) (U : State) (hU : U.heap = H) (hW : E.2.2.1.WarmedH U.vm) : fr_Pr X Z I J U := by
  obtain ⟨-, -, -, -, -, hK, hN, -, -, -, hb⟩ := C
  exact ⟨by rw [hU]; exact hz, by rw [hU]; exact hm.moved hW.alike, va_K.moved hW.alike hK, ⟨fun q hq => va_Nw.warmM hW (hN.1 q hq), va_AO.moved hW.alike hN.2⟩, by rw [hU]; exact Nat.le_trans hb hS.1⟩
theorem fr_goodc {y : MethodName} {b : ByteArray} {n : Nat} {rt : Option FieldType} (h : Cond.code y b n rt ∈ fr_ws) : GoodIn fr_ws (Cond.code y b n rt :: fr_ws) := by
  intro w hw
  rcases List.mem_cons.mp hw with rfl | hw
  · exact ⟨h, Or.inl rfl⟩
  · exact ⟨hw, fr_good w hw⟩
theorem fr_back {H : Heap} {locs : List Loc} {ls : Array Slot} {mc ms : Nat} {a : Array Value} (kk : ∀ v I' J', post v I' J' → fr_Ev X E own nm cc nL ret R Q (cs + mc) (sl + ms) Z' (pc + 3) L (v.toList ++ st) I' J') (C : fr_Cx X E own nm cc nL ret) (hS : va_S (fun q => X.2.2.2 ≤ q) E.2.2.1.heap H locs) (hl : lv_has ls nL L)
    (run : va_Run E.1 X.1 E.2.1 R E.2.2.1 E.2.2.2.1 E.2.2.2.2.1 E.2.2.2.2.2.1 E.2.2.2.2.2.2.1 E.2.2.2.2.2.2.2 H locs cs sl mc ms (F0 E.2.2.2.1 pc ls st0) st (fr_Qc X Z' post a) (fun q => X.2.2.2 ≤ q)) :
    W E.1 X.1 E.2.1 R E.2.2.1 E.2.2.2.1 E.2.2.2.2.1 E.2.2.2.2.2.1 E.2.2.2.2.2.2.1 E.2.2.2.2.2.2.2 H locs cs sl Q (F0 E.2.2.2.1 pc ls st0) := by
  intro T hT X0
  obtain ⟨v, st₀, t, T', L', h0, X', hL, e1, e2, ⟨v', I', J', hv, hp, hz', hok, hF⟩, stp⟩ := run T hT X0
  cases hv
  unfold va_F at hF
  rw [h0] at hF
  have hal : E.2.2.1.vm.Alike t.vm := by rw [← e2]; exact X'.warmed.alike
  obtain ⟨t2, a1, b1⟩ := kk v I' J' hp C T'.heap (locs ++ L') ls (by rw [e1]; exact hz') (by rw [e1]; exact hok.moved hal.symm)
    ⟨Nat.le_trans hS.1 (by rw [e1]; exact hF.1), fun q h1 h2 => by rw [e1, hF.2 q (Nat.lt_of_lt_of_le h1 hS.1) h2]; exact hS.2.1 q h1 h2, fun q hq => by
      rcases List.mem_append.mp hq with h | h
      · exact hS.2.2 q h
      · exact hL q h⟩ hl T' rfl X'
  exact ⟨t2, stp t2 a1, b1⟩
theorem fr_callV0 {idx n n' k r ci : Nat} {y : MethodName} {b : ByteArray} {rt : Option FieldType} {R' : Room} {As : List Value} (qc : vw_C) (d : decode cc pc = .ok (.invokevirtual idx, 3)) (hM : fr_Ct X y b n' rt R' (.ref (fr_ad X k r) :: As) Z Z' I J post) (hw : fr_mv own idx y b n' rt n) (hk : fr_kd k = .inl ci) (hq : fr_cl[ci]? = some qc) (hq1 : qc.1 = y.cls) (hlv : Z.2.1 k r) (hn : As.length = n)
    (hst : st0 = As.reverse ++ .ref (fr_ad X k r) :: st) (hR : R'.frames + 1 ≤ R.frames ∧ 8 + (n' + 11) + R'.locals ≤ R.locals) (hc : cs + R'.cells ≤ R.cells ∧ sl + R'.slots ≤ R.slots) (hrm : (st.map fun v => v.category).sum ≤ 8)
    (kk : ∀ v I' J', post v I' J' → fr_Ev X E own nm cc nL ret R Q (cs + R'.cells) (sl + R'.slots) Z' (pc + 3) L (v.toList ++ st) I' J') : fr_Ev X E own nm cc nL ret R Q cs sl Z pc L st0 I J := by
  intro C H locs ls hz hm hS hl
  obtain ⟨⟨w1, w2, w3, w4, w5, w6⟩, w7, w8⟩ := hw
  have hts := C.2.2.2.2.1
  obtain ⟨q', hq', cell, q1, q2, q3, -⟩ := (fr_ce_o hk).mp (hm.1 k r hlv)
  refine fr_back kk C hS hl (va_runV (C := y.cls) (b := fr_ad X k r) (As := As) (n := n) (bytes := b) (maxL := n') (ret := rt) (Ts := fr_ws) (nL := nL) (cc := cc) (own := own) ⟨C.1, C.2.1, C.2.2.1, C.2.2.2.1, hts⟩ hM
    ⟨callB_of n hts (fr_goodc w3) rfl rfl rfl (hts _ w2) (hts _ w1) ⟨w4, w5, w6⟩ hR, hts _ w7, hts _ w8⟩
    ⟨fr_blind, ⟨cell, q1, by rw [q3]; rfl, by rw [q2, ← hq1]; exact (C.2.2.2.2.2.1.1 ci qc hq).2.1⟩, fun U hU hW => ⟨rfl, fr_pre C hz hm hS U hU hW⟩⟩ rfl hn hl.1 hst (lv_room hrm) d hc)
theorem fr_callS0 {idx n n' : Nat} {y : MethodName} {b : ByteArray} {rt : Option FieldType} {R' : Room} {As : List Value} (d : decode cc pc = .ok (.invokestatic idx, 3)) (hM : fr_Ct X y b n' rt R' As Z Z' I J post) (hw : fr_ms own idx y b n' rt n) (hn : As.length = n)
    (hst : st0 = As.reverse ++ st) (hR : R'.frames + 1 ≤ R.frames ∧ 8 + (n' + 11) + R'.locals ≤ R.locals) (hc : cs + R'.cells ≤ R.cells ∧ sl + R'.slots ≤ R.slots) (hrm : (st.map fun v => v.category).sum ≤ 8)
    (kk : ∀ v I' J', post v I' J' → fr_Ev X E own nm cc nL ret R Q (cs + R'.cells) (sl + R'.slots) Z' (pc + 3) L (v.toList ++ st) I' J') : fr_Ev X E own nm cc nL ret R Q cs sl Z pc L st0 I J := by
  intro C H locs ls hz hm hS hl
  obtain ⟨⟨w1, w2, w3, w4, w5, w6⟩, w7⟩ := hw
  have hts := C.2.2.2.2.1
  refine fr_back kk C hS hl (va_runS (As := As) (n := n) (bytes := b) (maxL := n') (ret := rt) (Ts := fr_ws) (nL := nL) (cc := cc) (own := own) ⟨C.1, C.2.1, C.2.2.1, C.2.2.2.1, hts⟩ hM
    ⟨callB_of n hts (fr_goodc w3) rfl rfl rfl (hts _ w2) (hts _ w1) ⟨w4, w5, w6⟩ hR, hts _ w7⟩
    ⟨fr_blind, fun U hU hW => ⟨rfl, fr_pre C hz hm hS U hU hW⟩⟩ rfl hn hl.1 hst (lv_room hrm) d hc)
theorem fr_callI0 {idx n n' k r : Nat} {y : MethodName} {b : ByteArray} {R' : Room} {As : List Value} (d : decode cc pc = .ok (.invokespecial idx, 3)) (hM : fr_Ct X y b n' none R' (.ref (fr_ad X k r) :: As) Z Z' I J post) (hw : fr_mi own idx y b n' n) (hn : As.length = n)
    (hst : st0 = As.reverse ++ .ref (fr_ad X k r) :: st) (hR : R'.frames + 1 ≤ R.frames ∧ 8 + (n' + 11) + R'.locals ≤ R.locals) (hc : cs + R'.cells ≤ R.cells ∧ sl + R'.slots ≤ R.slots) (hrm : (st.map fun v => v.category).sum ≤ 8)
    (kk : ∀ v I' J', post v I' J' → fr_Ev X E own nm cc nL ret R Q (cs + R'.cells) (sl + R'.slots) Z' (pc + 3) L (v.toList ++ st) I' J') : fr_Ev X E own nm cc nL ret R Q cs sl Z pc L st0 I J := by
  intro C H locs ls hz hm hS hl
  obtain ⟨⟨w1, w2, w3, w4, w5, w6⟩, w7, w8⟩ := hw
  have hts := C.2.2.2.2.1
  refine fr_back kk C hS hl (va_runI (b := fr_ad X k r) (As := As) (n := n) (bytes := b) (maxL := n') (Ts := fr_ws) (nL := nL) (cc := cc) (own := own) ⟨C.1, C.2.1, C.2.2.1, C.2.2.2.1, hts⟩ hM
    ⟨callB_of n hts (fr_goodc w3) rfl rfl rfl (hts _ w2) (hts _ w1) ⟨w4, w5, w6⟩ hR, w8, hts _ w7⟩
    ⟨fr_blind, fun U hU hW => ⟨rfl, fr_pre C hz hm hS U hU hW⟩⟩ rfl hn hl.1 hst (lv_room hrm) d hc)
theorem fr_callN0 {idx n n' k r : Nat} {y : MethodName} {host : String} {b : ByteArray} {R' : Room} {As : List Value} (d : decode cc pc = .ok (.invokespecial idx, 3)) (hM : fr_Ct X y b n' none R' (.ref (fr_ad X k r) :: As) Z Z' I J post) (hw : fr_mn own idx y host b n' n) (hn : As.length = n)
    (hst : st0 = As.reverse ++ .ref (fr_ad X k r) :: st) (hR : R'.frames + 1 ≤ R.frames ∧ 8 + (n' + 11) + R'.locals ≤ R.locals) (hc : cs + R'.cells ≤ R.cells ∧ sl + R'.slots ≤ R.slots) (hrm : (st.map fun v => v.category).sum ≤ 8)
    (kk : ∀ v I' J', post v I' J' → fr_Ev X E own nm cc nL ret R Q (cs + R'.cells) (sl + R'.slots) Z' (pc + 3) L (v.toList ++ st) I' J') : fr_Ev X E own nm cc nL ret R Q cs sl Z pc L st0 I J := by
  intro C H locs ls hz hm hS hl
  obtain ⟨w1, w2, w3, w4, w7, w8⟩ := hw
  have hts := C.2.2.2.2.1
  refine fr_back kk C hS hl (va_runIN (host := host) (b := fr_ad X k r) (As := As) (n := n) (bytes := b) (maxL := n') (Ts := fr_ws) (nL := nL) (cc := cc) (own := own) ⟨C.1, C.2.1, C.2.2.1, C.2.2.2.1, hts⟩ hM
    ⟨va_cnB n hts (fr_goodc w3) rfl rfl rfl (C.2.2.2.2.2.2.1.1 _ w1) (hts _ w2) w4 hR, w8, hts _ w7⟩
    ⟨fr_blind, fun U hU hW => ⟨rfl, fr_pre C hz hm hS U hU hW⟩⟩ rfl hn hl.1 hst (lv_room hrm) d hc)
-- the same by what the callee answers, for callees that make nothing
theorem fr_callVi {idx n n' k r ci : Nat} {y : MethodName} {b : ByteArray} {rt : Option FieldType} {R' : Room} {As : List Value} {q : Int32 → fr_I → fr_J → Prop} (qc : vw_C) (d : decode cc pc = .ok (.invokevirtual idx, 3)) (hM : fr_Ct X y b n' rt R' (.ref (fr_ad X k r) :: As) Z Z I J (fr_pi q)) (hw : fr_mv own idx y b n' rt n) (hk : fr_kd k = .inl ci) (hq : fr_cl[ci]? = some qc) (hq1 : qc.1 = y.cls) (hlv : Z.2.1 k r) (hn : As.length = n)
    (hst : st0 = As.reverse ++ .ref (fr_ad X k r) :: st) (hR : R'.frames + 1 ≤ R.frames ∧ 8 + (n' + 11) + R'.locals ≤ R.locals) (h0 : R'.cells = 0 ∧ R'.slots = 0) (hc : cs ≤ R.cells ∧ sl ≤ R.slots) (hrm : (st.map fun v => v.category).sum ≤ 8)
    (kk : ∀ x I' J', q x I' J' → fr_Ev X E own nm cc nL ret R Q cs sl Z (pc + 3) L (.int x :: st) I' J') : fr_Ev X E own nm cc nL ret R Q cs sl Z pc L st0 I J :=
  fr_callV0 qc d hM hw hk hq hq1 hlv hn hst hR (by rw [h0.1, h0.2]; exact hc) hrm (fun v I' J' hp => by obtain ⟨x, rfl, hx⟩ := hp; rw [h0.1, h0.2]; exact kk x I' J' hx)
theorem fr_callVl {idx n n' k r ci : Nat} {y : MethodName} {b : ByteArray} {rt : Option FieldType} {R' : Room} {As : List Value} {q : Int64 → fr_I → fr_J → Prop} (qc : vw_C) (d : decode cc pc = .ok (.invokevirtual idx, 3)) (hM : fr_Ct X y b n' rt R' (.ref (fr_ad X k r) :: As) Z Z I J (fr_pl q)) (hw : fr_mv own idx y b n' rt n) (hk : fr_kd k = .inl ci) (hq : fr_cl[ci]? = some qc) (hq1 : qc.1 = y.cls) (hlv : Z.2.1 k r) (hn : As.length = n)
    (hst : st0 = As.reverse ++ .ref (fr_ad X k r) :: st) (hR : R'.frames + 1 ≤ R.frames ∧ 8 + (n' + 11) + R'.locals ≤ R.locals) (h0 : R'.cells = 0 ∧ R'.slots = 0) (hc : cs ≤ R.cells ∧ sl ≤ R.slots) (hrm : (st.map fun v => v.category).sum ≤ 8)
    (kk : ∀ x I' J', q x I' J' → fr_Ev X E own nm cc nL ret R Q cs sl Z (pc + 3) L (.long x :: st) I' J') : fr_Ev X E own nm cc nL ret R Q cs sl Z pc L st0 I J :=
  fr_callV0 qc d hM hw hk hq hq1 hlv hn hst hR (by rw [h0.1, h0.2]; exact hc) hrm (fun v I' J' hp => by obtain ⟨x, rfl, hx⟩ := hp; rw [h0.1, h0.2]; exact kk x I' J' hx)
theorem fr_callVv {idx n n' k r ci : Nat} {y : MethodName} {b : ByteArray} {rt : Option FieldType} {R' : Room} {As : List Value} {q : fr_I → fr_J → Prop} (qc : vw_C) (d : decode cc pc = .ok (.invokevirtual idx, 3)) (hM : fr_Ct X y b n' rt R' (.ref (fr_ad X k r) :: As) Z Z I J (fr_pv q)) (hw : fr_mv own idx y b n' rt n) (hk : fr_kd k = .inl ci) (hq : fr_cl[ci]? = some qc) (hq1 : qc.1 = y.cls) (hlv : Z.2.1 k r) (hn : As.length = n)
    (hst : st0 = As.reverse ++ .ref (fr_ad X k r) :: st) (hR : R'.frames + 1 ≤ R.frames ∧ 8 + (n' + 11) + R'.locals ≤ R.locals) (h0 : R'.cells = 0 ∧ R'.slots = 0) (hc : cs ≤ R.cells ∧ sl ≤ R.slots) (hrm : (st.map fun v => v.category).sum ≤ 8)
    (kk : ∀ I' J', q I' J' → fr_Ev X E own nm cc nL ret R Q cs sl Z (pc + 3) L st I' J') : fr_Ev X E own nm cc nL ret R Q cs sl Z pc L st0 I J :=
  fr_callV0 qc d hM hw hk hq hq1 hlv hn hst hR (by rw [h0.1, h0.2]; exact hc) hrm (fun v I' J' hp => by obtain ⟨rfl, hx⟩ := hp; rw [h0.1, h0.2]; exact kk I' J' hx)
theorem fr_callSi {idx n n' : Nat} {y : MethodName} {b : ByteArray} {rt : Option FieldType} {R' : Room} {As : List Value} {q : Int32 → fr_I → fr_J → Prop} (d : decode cc pc = .ok (.invokestatic idx, 3)) (hM : fr_Ct X y b n' rt R' As Z Z I J (fr_pi q)) (hw : fr_ms own idx y b n' rt n) (hn : As.length = n)
    (hst : st0 = As.reverse ++ st) (hR : R'.frames + 1 ≤ R.frames ∧ 8 + (n' + 11) + R'.locals ≤ R.locals) (h0 : R'.cells = 0 ∧ R'.slots = 0) (hc : cs ≤ R.cells ∧ sl ≤ R.slots) (hrm : (st.map fun v => v.category).sum ≤ 8)
    (kk : ∀ x I' J', q x I' J' → fr_Ev X E own nm cc nL ret R Q cs sl Z (pc + 3) L (.int x :: st) I' J') : fr_Ev X E own nm cc nL ret R Q cs sl Z pc L st0 I J :=
  fr_callS0 d hM hw hn hst hR (by rw [h0.1, h0.2]; exact hc) hrm (fun v I' J' hp => by obtain ⟨x, rfl, hx⟩ := hp; rw [h0.1, h0.2]; exact kk x I' J' hx)
theorem fr_callSv {idx n n' : Nat} {y : MethodName} {b : ByteArray} {rt : Option FieldType} {R' : Room} {As : List Value} {q : fr_I → fr_J → Prop} (d : decode cc pc = .ok (.invokestatic idx, 3)) (hM : fr_Ct X y b n' rt R' As Z Z I J (fr_pv q)) (hw : fr_ms own idx y b n' rt n) (hn : As.length = n)
    (hst : st0 = As.reverse ++ st) (hR : R'.frames + 1 ≤ R.frames ∧ 8 + (n' + 11) + R'.locals ≤ R.locals) (h0 : R'.cells = 0 ∧ R'.slots = 0) (hc : cs ≤ R.cells ∧ sl ≤ R.slots) (hrm : (st.map fun v => v.category).sum ≤ 8)
    (kk : ∀ I' J', q I' J' → fr_Ev X E own nm cc nL ret R Q cs sl Z (pc + 3) L st I' J') : fr_Ev X E own nm cc nL ret R Q cs sl Z pc L st0 I J :=
  fr_callS0 d hM hw hn hst hR (by rw [h0.1, h0.2]; exact hc) hrm (fun v I' J' hp => by obtain ⟨rfl, hx⟩ := hp; rw [h0.1, h0.2]; exact kk I' J' hx)
end FRcalls

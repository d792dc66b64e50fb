-- the law's own rows: the script, the switch
section FRlaw
variable {X : fr_X} {E : fr_E} {own nm : String} {cc : ByteArray} {nL : Nat} {ret : Option FieldType} {R : Room} {Q : State → Prop} {cs sl : Nat} {Z Z' : fr_Z} {pc : Nat} {L : List (Nat × Value)} {st st0 : List Value} {I : fr_I} {J : fr_J}
theorem lx_sld {b Ls : Nat} {xs : Nat → Int32} {i : Int32} (hXs : va_X b Ls xs E.2.2.1 E.2.2.1.heap) (hb : b < E.2.2.1.heap.size) (hB : X.2.2.2 = E.2.2.1.heap.size) (hL : Ls < 2 ^ 31) (j : Nat) (d : decode cc pc = .ok (.iaload, 1)) (hi : i = nI j) (hj : j < Ls)
    (kk : fr_Ev X E own nm cc nL ret R Q cs sl Z (pc + 1) L (.int (xs j) :: st) I J) : fr_Ev X E own nm cc nL ret R Q cs sl Z pc L (.int i :: .ref b :: st) I J := by
  subst hi
  intro C H locs ls hz hm hS hl
  refine va_sld (A := fun q => X.2.2.2 ≤ q) C.1 C.2.1 hXs hb (by show ¬ X.2.2.2 ≤ b; rw [hB]; omega) hS (vp_in_nI hj hL) d ?_
  rw [nI_clamp (Nat.lt_trans hj hL)]
  exact kk C H locs ls hz hm hS hl
theorem lx_slen {b Ls : Nat} {xs : Nat → Int32} (hXs : va_X b Ls xs E.2.2.1 E.2.2.1.heap) (hb : b < E.2.2.1.heap.size) (hB : X.2.2.2 = E.2.2.1.heap.size) (d : decode cc pc = .ok (.arraylength, 1))
    (kk : fr_Ev X E own nm cc nL ret R Q cs sl Z (pc + 1) L (.int (nI Ls) :: st) I J) : fr_Ev X E own nm cc nL ret R Q cs sl Z pc L (.ref b :: st) I J := by
  intro C H locs ls hz hm hS hl
  exact va_slen (A := fun q => X.2.2.2 ≤ q) C.1 C.2.1 hXs hb (by show ¬ X.2.2.2 ≤ b; rw [hB]; omega) hS d (kk C H locs ls hz hm hS hl)
theorem lx_tIn {dflt lo hi : Int} {offs : Array Int} {len : Nat} {x : Int32} {off : Int} (tgt : Nat) (d : decode cc pc = .ok (.tableswitch dflt lo hi offs, len)) (h1 : ¬ x.toInt < lo) (h2 : ¬ hi < x.toInt) (ho : offs[(x.toInt - lo).toNat]? = some off) (ht : (pc : Int) + off = (tgt : Int))
    (kk : fr_Ev X E own nm cc nL ret R Q cs sl Z tgt L st I J) : fr_Ev X E own nm cc nL ret R Q cs sl Z pc L (.int x :: st) I J := fun C H locs ls hz hm hS hl => lv_tableIn C.1 C.2.1 d h1 h2 ho ht (kk C H locs ls hz hm hS hl)
theorem lx_tOut {dflt lo hi : Int} {offs : Array Int} {len : Nat} {x : Int32} (tgt : Nat) (d : decode cc pc = .ok (.tableswitch dflt lo hi offs, len)) (h : x.toInt < lo ∨ hi < x.toInt) (ht : (pc : Int) + dflt = (tgt : Int))
    (kk : fr_Ev X E own nm cc nL ret R Q cs sl Z tgt L st I J) : fr_Ev X E own nm cc nL ret R Q cs sl Z pc L (.int x :: st) I J := fun C H locs ls hz hm hS hl => lv_tableOut C.1 C.2.1 d h ht (kk C H locs ls hz hm hS hl)
/-- a call from the law whose answer is an int -/
theorem lx_calli {idx n n' k r ci : Nat} {y : MethodName} {b : ByteArray} {rt : Option FieldType} {R' : Room} {As : List Value} {x : Int32} {I1 : fr_I} {J1 : fr_J} {cs2 sl2 : Nat} (qc : vw_C) (d : decode cc pc = .ok (.invokevirtual idx, 3)) (hM : fr_Ct X y b n' rt R' (.ref (fr_ad X k r) :: As) Z Z' I J (fr_pi (fun z I' J' => x = z ∧ I1 = I' ∧ J1 = J'))) (hw : fr_mv own idx y b n' rt n) (hk : fr_kd k = .inl ci) (hq : fr_cl[ci]? = some qc) (hq1 : qc.1 = y.cls) (hlv : Z.2.1 k r) (hn : As.length = n)
    (hst : st0 = As.reverse ++ .ref (fr_ad X k r) :: st) (hR : R'.frames + 1 ≤ R.frames ∧ 8 + (n' + 11) + R'.locals ≤ R.locals) (h0 : cs + R'.cells = cs2 ∧ sl + R'.slots = sl2) (hc : cs2 ≤ R.cells ∧ sl2 ≤ R.slots) (hrm : (st.map fun v => v.category).sum ≤ 8)
    (kk : fr_Ev X E own nm cc nL ret R Q cs2 sl2 Z' (pc + 3) L (.int x :: st) I1 J1) : fr_Ev X E own nm cc nL ret R Q cs sl Z pc L st0 I J :=
  fr_callV0 qc d hM hw hk hq hq1 hlv hn hst hR (by rw [h0.1, h0.2]; exact hc) hrm (fun v I' J' hp => by obtain ⟨z, rfl, rfl, rfl, rfl⟩ := hp; rw [h0.1, h0.2]; exact kk)
theorem lx_calll {idx n n' k r ci : Nat} {y : MethodName} {b : ByteArray} {rt : Option FieldType} {R' : Room} {As : List Value} {x : Int64} {I1 : fr_I} {J1 : fr_J} {cs2 sl2 : Nat} (qc : vw_C) (d : decode cc pc = .ok (.invokevirtual idx, 3)) (hM : fr_Ct X y b n' rt R' (.ref (fr_ad X k r) :: As) Z Z' I J (fr_pl (fun z I' J' => x = z ∧ I1 = I' ∧ J1 = J'))) (hw : fr_mv own idx y b n' rt n) (hk : fr_kd k = .inl ci) (hq : fr_cl[ci]? = some qc) (hq1 : qc.1 = y.cls) (hlv : Z.2.1 k r) (hn : As.length = n)
    (hst : st0 = As.reverse ++ .ref (fr_ad X k r) :: st) (hR : R'.frames + 1 ≤ R.frames ∧ 8 + (n' + 11) + R'.locals ≤ R.locals) (h0 : cs + R'.cells = cs2 ∧ sl + R'.slots = sl2) (hc : cs2 ≤ R.cells ∧ sl2 ≤ R.slots) (hrm : (st.map fun v => v.category).sum ≤ 8)
    (kk : fr_Ev X E own nm cc nL ret R Q cs2 sl2 Z' (pc + 3) L (.long x :: st) I1 J1) : fr_Ev X E own nm cc nL ret R Q cs sl Z pc L st0 I J :=
  fr_callV0 qc d hM hw hk hq hq1 hlv hn hst hR (by rw [h0.1, h0.2]; exact hc) hrm (fun v I' J' hp => by obtain ⟨z, rfl, rfl, rfl, rfl⟩ := hp; rw [h0.1, h0.2]; exact kk)
end FRlaw
/-- both calls return, answer alike, and keep Inv -/
def lx_P (X : fr_X) (Inv : Nat → fr_I → fr_J → Prop) (yF : MethodName) (cF : ByteArray) (nF : Nat) (rF : Option FieldType) (yO : MethodName) (cO : ByteArray) (nO : Nat) (rO : Option FieldType) (As : List Value) (n : Nat) (I : fr_I) (J : fr_J) : Prop :=
  ∃ (RF RO : Room) (x : Int32) (n' : Nat) (I1 I2 : fr_I) (J1 J2 : fr_J), (RF.frames ≤ 7 ∧ RF.locals ≤ 200) ∧ (RO.frames ≤ 7 ∧ RO.locals ≤ 200) ∧ (n ≤ n' ∧ RF.cells = 7 * (n' - n) ∧ RF.slots = 57 * (n' - n)) ∧ (RO.cells = 0 ∧ RO.slots = 0) ∧
    fr_Ct X yF cF nF rF RF (.ref (fr_ad X 0 0) :: As) (fr_Z0 X n) (fr_Z0 X n') I J (fr_pi (fun z I' J' => x = z ∧ I1 = I' ∧ J1 = J')) ∧
    fr_Ct X yO cO nO rO RO (.ref (fr_ad X 20 0) :: As) (fr_Z0 X n') (fr_Z0 X n') I1 J1 (fr_pi (fun z I' J' => x = z ∧ I2 = I' ∧ J2 = J')) ∧ Inv n' I2 J2
def lx_PL (X : fr_X) (Inv : Nat → fr_I → fr_J → Prop) (yF : MethodName) (cF : ByteArray) (nF : Nat) (rF : Option FieldType) (yO : MethodName) (cO : ByteArray) (nO : Nat) (rO : Option FieldType) (As : List Value) (n : Nat) (I : fr_I) (J : fr_J) : Prop :=
  ∃ (RF RO : Room) (x : Int64) (n' : Nat) (I1 I2 : fr_I) (J1 J2 : fr_J), (RF.frames ≤ 7 ∧ RF.locals ≤ 200) ∧ (RO.frames ≤ 7 ∧ RO.locals ≤ 200) ∧ (n ≤ n' ∧ RF.cells = 7 * (n' - n) ∧ RF.slots = 57 * (n' - n)) ∧ (RO.cells = 0 ∧ RO.slots = 0) ∧
    fr_Ct X yF cF nF rF RF (.ref (fr_ad X 0 0) :: As) (fr_Z0 X n) (fr_Z0 X n') I J (fr_pl (fun z I' J' => x = z ∧ I1 = I' ∧ J1 = J')) ∧
    fr_Ct X yO cO nO rO RO (.ref (fr_ad X 20 0) :: As) (fr_Z0 X n') (fr_Z0 X n') I1 J1 (fr_pl (fun z I' J' => x = z ∧ I2 = I' ∧ J2 = J')) ∧ Inv n' I2 J2

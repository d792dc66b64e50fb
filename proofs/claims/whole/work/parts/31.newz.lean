-- worlds while cells are made
def zz_na (Z : fr_Z) (k r : Nat) : fr_Z := (fr_zp Z.1 k r, (fun a b => Z.2.1 a b ∨ (a = k ∧ b = r)), Z.2.2 + 1)
def zz_pr (Z : fr_Z) (k r j k' r' : Nat) : fr_Z := (fr_up Z.1 k r j (some (k', r')), Z.2)
def fr_rmc (d c s : Nat) : Room := { frames := d, cells := c, slots := s, locals := 40 * d }
theorem dv_J : ∀ j, j < 4 → defaultValue (ty_J j) = fr_dv 4 j := by decide
theorem dv_R : ∀ j, j < 9 → defaultValue (ty_R j) = fr_dv 7 j := by decide
theorem dv_M : ∀ j, j < 8 → defaultValue (ty_M j) = fr_dv 8 j := by decide
theorem dv_B : ∀ j, j < 11 → defaultValue (ty_B j) = fr_dv 10 j := by decide
theorem dv_W : ∀ j, j < 9 → defaultValue (ty_W j) = fr_dv 11 j := by decide
theorem dv_F : ∀ j, j < 6 → defaultValue (ty_F j) = fr_dv 0 j := by decide
theorem dv_O : ∀ j, j < 37 → defaultValue (ty_O j) = fr_dv 20 j := by decide
section FRnewz
variable {X : fr_X} {E : fr_E} {own nm : String} {cc : ByteArray} {nL : Nat} {ret : Option FieldType} {R : Room} {Q : State → Prop} {cs sl : Nat} {Z Z' : fr_Z} {pc : Nat} {L : List (Nat × Value)} {st st0 : List Value} {I : fr_I} {J : fr_J}
theorem fz_new {idx ci : Nat} {q : vw_C} {ty0 : Nat → FieldType} (k r : Nat) (d : decode cc pc = .ok (.new idx, 3)) (hw : fr_nc own idx ci q ty0) (hk : fr_kd k = .inl ci) (hdef : ∀ j, j < q.2.2 → defaultValue (ty0 j) = fr_dv k j) (ha : fr_ad X k r = Z.2.2) (hc : cs + 1 ≤ R.cells) (hs : sl + q.2.2 ≤ R.slots)
    (kk : fr_Ev X E own nm cc nL ret R Q (cs + 1) (sl + q.2.2) (zz_na Z k r) (pc + 3) L (.ref (fr_ad X k r) :: st) (fr_zi I k r) (fr_zj J k r)) : fr_Ev X E own nm cc nL ret R Q cs sl Z pc L st I J := fr_new k r d hw hk hdef ha hc hs kk
theorem fz_newa {atype : ArrayType} {n : Int32} {N : Nat} (k r : Nat) (d : decode cc pc = .ok (.newarray atype, 2)) (hw : Cond.arrayClass (newarray.typeOf atype) ∈ fr_ws) (hk : fr_kd k = .inr (newarray.typeOf atype, N)) (hdef : ∀ j, defaultValue (newarray.typeOf atype) = fr_dv k j) (hn : ¬ n < 0) (hN : n.toNatClampNeg = N) (hbytes : N * componentBytes (newarray.typeOf atype) ≤ 536870912) (ha : fr_ad X k r = Z.2.2) (hc : cs + 1 ≤ R.cells) (hs : sl + N ≤ R.slots)
    (kk : fr_Ev X E own nm cc nL ret R Q (cs + 1) (sl + N) (zz_na Z k r) (pc + 2) L (.ref (fr_ad X k r) :: st) (fr_zi I k r) (fr_zj J k r)) : fr_Ev X E own nm cc nL ret R Q cs sl Z pc L (.int n :: st) I J := fr_newa k r d hw hk hdef hn hN hbytes ha hc hs kk
theorem fz_anew {idx : Nat} {n : Int32} {N : Nat} (k r : Nat) (d : decode cc pc = .ok (.anewarray idx, 3)) (hw : Cond.classLink own idx fr_aC ∈ fr_ws) (hk : fr_kd k = .inr (.object fr_aC, N)) (hdef : ∀ j, Value.null = fr_dv k j) (hn : ¬ n < 0) (hN : n.toNatClampNeg = N) (hbytes : N * 4 ≤ 536870912) (ha : fr_ad X k r = Z.2.2) (hc : cs + 1 ≤ R.cells) (hs : sl + N ≤ R.slots)
    (kk : fr_Ev X E own nm cc nL ret R Q (cs + 1) (sl + N) (zz_na Z k r) (pc + 3) L (.ref (fr_ad X k r) :: st) (fr_zi I k r) (fr_zj J k r)) : fr_Ev X E own nm cc nL ret R Q cs sl Z pc L (.int n :: st) I J := fr_anew k r d hw hk hdef hn hN hbytes ha hc hs kk
theorem fz_putr {idx ci j k r k' r' : Nat} {ty : FieldType} {fin : Bool} (q : vw_C) (d : decode cc pc = .ok (.putfield idx, 3)) (hf : fr_fl own idx ci j ty fin) (hnm : nm = "<init>") (hq : fr_cl[ci]? = some q) (hq1 : q.1 = own) (hk : fr_kd k = .inl ci) (hs : fr_so k j = 2) (hn : narrow ty (.ref (fr_ad X k' r')) = .ref (fr_ad X k' r')) (hft : fits ty (.ref (fr_ad X k' r')) = true) (hlv : Z.2.1 k r)
    (kk : fr_Ev X E own nm cc nL ret R Q cs sl (zz_pr Z k r j k' r') (pc + 3) L st I J) : fr_Ev X E own nm cc nL ret R Q cs sl Z pc L (.ref (fr_ad X k' r') :: .ref (fr_ad X k r) :: st) I J := fr_putFr q d hf hnm hq hq1 hk hs hn hft hlv kk
theorem fz_aast {i : Int32} {k r N k' r' ci : Nat} (q : vw_C) (j : Nat) (d : decode cc pc = .ok (.aastore, 1)) (hk : fr_kd k = .inr (.object q.1, N)) (hs : fr_so k j = 2) (hk' : fr_kd k' = .inl ci) (hq : fr_cl[ci]? = some q) (hlv : Z.2.1 k r) (hlv' : Z.2.1 k' r') (hi : i = nI j) (hj : j < N) (hN : N < 2 ^ 31)
    (kk : fr_Ev X E own nm cc nL ret R Q cs sl (zz_pr Z k r j k' r') (pc + 1) L st I J) : fr_Ev X E own nm cc nL ret R Q cs sl Z pc L (.ref (fr_ad X k' r') :: .int i :: .ref (fr_ad X k r) :: st) I J := fr_aast q j d hk hs hk' hq hlv hlv' hi hj hN kk
/-- a constructor is called: what it makes is counted -/
theorem fz_callI {idx n n' k r mc ms : Nat} {y : MethodName} {b : ByteArray} {R' : Room} {As : List Value} {q : fr_I → fr_J → Prop} (d : decode cc pc = .ok (.invokespecial idx, 3)) (hM : fr_Ct X y b n' none R' (.ref (fr_ad X k r) :: As) Z Z' I J (fr_pv q)) (hw : fr_mi own idx y b n' n) (hn : As.length = n)
    (hst : st0 = As.reverse ++ .ref (fr_ad X k r) :: st) (hR : R'.frames + 1 ≤ R.frames ∧ 8 + (n' + 11) + R'.locals ≤ R.locals) (h0 : R'.cells = mc ∧ R'.slots = ms) (hc : cs + mc ≤ R.cells ∧ sl + ms ≤ R.slots) (hrm : (st.map fun v => v.category).sum ≤ 8)
    (kk : ∀ I' J', q I' J' → fr_Ev X E own nm cc nL ret R Q (cs + mc) (sl + ms) Z' (pc + 3) L st I' J') : fr_Ev X E own nm cc nL ret R Q cs sl Z pc L st0 I J :=
  fr_callI0 d hM hw hn hst hR (by rw [h0.1, h0.2]; exact hc) hrm (fun v I' J' hp => by obtain ⟨rfl, hx⟩ := hp; rw [h0.1, h0.2]; exact kk I' J' hx)
theorem fz_callN {idx n n' k r mc ms : Nat} {y : MethodName} {host : String} {b : ByteArray} {R' : Room} {As : List Value} {q : fr_I → fr_J → Prop} (d : decode cc pc = .ok (.invokespecial idx, 3)) (hM : fr_Ct X y b n' none R' (.ref (fr_ad X k r) :: As) Z Z' I J (fr_pv q)) (hw : fr_mn own idx y host b n' n) (hn : As.length = n)
    (hst : st0 = As.reverse ++ .ref (fr_ad X k r) :: st) (hR : R'.frames + 1 ≤ R.frames ∧ 8 + (n' + 11) + R'.locals ≤ R.locals) (h0 : R'.cells = mc ∧ R'.slots = ms) (hc : cs + mc ≤ R.cells ∧ sl + ms ≤ R.slots) (hrm : (st.map fun v => v.category).sum ≤ 8)
    (kk : ∀ I' J', q I' J' → fr_Ev X E own nm cc nL ret R Q (cs + mc) (sl + ms) Z' (pc + 3) L st I' J') : fr_Ev X E own nm cc nL ret R Q cs sl Z pc L st0 I J :=
  fr_callN0 d hM hw hn hst hR (by rw [h0.1, h0.2]; exact hc) hrm (fun v I' J' hp => by obtain ⟨rfl, hx⟩ := hp; rw [h0.1, h0.2]; exact kk I' J' hx)
end FRnewz

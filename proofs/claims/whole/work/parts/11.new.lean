-- making cells
def fr_dv (k j : Nat) : Value := match fr_so k j with
  | 0 => .int 0
  | 1 => .long 0
  | _ => .null
theorem fr_vl_z {X : fr_X} {P : fr_P} {I : fr_I} {J : fr_J} {k r : Nat} (j : Nat) : fr_vl X (fr_zp P k r) (fr_zi I k r) (fr_zj J k r) k r j = fr_dv k j := by
  have h1 : fr_zi I k r k r j = 0 := if_pos ⟨rfl, rfl⟩
  have h2 : fr_zj J k r k r j = 0 := if_pos ⟨rfl, rfl⟩
  have h3 : fr_zp P k r k r j = none := if_pos ⟨rfl, rfl⟩
  unfold fr_vl fr_dv
  rw [h1, h2, h3]
  rfl
theorem fr_vl_zn {X : fr_X} {P : fr_P} {I : fr_I} {J : fr_J} {k r : Nat} (k' r' j' : Nat) (h : ¬ (k' = k ∧ r' = r)) : fr_vl X (fr_zp P k r) (fr_zi I k r) (fr_zj J k r) k' r' j' = fr_vl X P I J k' r' j' := fr_vl_eq (if_neg h) (if_neg h) (if_neg h)
section FRnew
variable {X : fr_X} {E : fr_E} {own nm : String} {cc : ByteArray} {nL : Nat} {ret : Option FieldType} {R : Room} {Q : State → Prop} {cs sl : Nat} {Z : fr_Z} {pc : Nat} {L : List (Nat × Value)} {st : List Value} {I : fr_I} {J : fr_J}
theorem fr_new {idx ci : Nat} {q : vw_C} {ty0 : Nat → FieldType} (k r : Nat) (d : decode cc pc = .ok (.new idx, 3)) (hw : fr_nc own idx ci q ty0) (hk : fr_kd k = .inl ci) (hdef : ∀ j, j < q.2.2 → defaultValue (ty0 j) = fr_dv k j) (ha : fr_ad X k r = Z.2.2) (hc : cs + 1 ≤ R.cells) (hs : sl + q.2.2 ≤ R.slots)
    (kk : fr_Ev X E own nm cc nL ret R Q (cs + 1) (sl + q.2.2) (fr_zp Z.1 k r, (fun a b => Z.2.1 a b ∨ (a = k ∧ b = r)), Z.2.2 + 1) (pc + 3) L (.ref (fr_ad X k r) :: st) (fr_zi I k r) (fr_zj J k r)) : fr_Ev X E own nm cc nL ret R Q cs sl Z pc L st I J := by
  obtain ⟨p, e, s, m, args, below, meth, c⟩ := E
  intro C H locs ls hz hm hS hl
  obtain ⟨w1, w2, w3, hcl, hin, hty, hnm⟩ := hw
  have C' := C
  obtain ⟨hx, hb, hml, hown, hts, hK, -, -, -, -, hbase⟩ := C'
  have hKn := hK.1 ci _ hcl
  refine W.newcK hx hb hown (hts _ w1) (hts _ w2) (hts _ w3) rfl d hc hs hKn.2.1 (hz.trans ha.symm) fun H1 kC hkC e1 z1 o1 => ?_
  rw [ha, ← hz] at o1 z1
  refine kk C H1 locs ls (by rw [z1, hz]) (hm.grow (ha.trans hz.symm) ((fr_ce_o hk).mpr ⟨q, hcl, (u_born ty0 hts hin hKn hkC e1 hty).to (fun j hj => ?_)⟩) o1 (Nat.le_trans hbase hS.1) fr_vl_zn) ⟨Nat.le_trans hS.1 (by omega), fun x h1 h2 => (o1 x (Nat.lt_of_lt_of_le h1 hS.1)).trans (hS.2.1 x h1 h2), hS.2.2⟩ hl
  rw [fr_vl_z]
  exact hdef j hj
theorem fr_newa {atype : ArrayType} {n : Int32} {N : Nat} (k r : Nat) (d : decode cc pc = .ok (.newarray atype, 2)) (hw : Cond.arrayClass (newarray.typeOf atype) ∈ fr_ws) (hk : fr_kd k = .inr (newarray.typeOf atype, N)) (hdef : ∀ j, defaultValue (newarray.typeOf atype) = fr_dv k j) (hn : ¬ n < 0) (hN : n.toNatClampNeg = N) (hbytes : N * componentBytes (newarray.typeOf atype) ≤ 536870912) (ha : fr_ad X k r = Z.2.2) (hc : cs + 1 ≤ R.cells) (hs : sl + N ≤ R.slots)
    (kk : fr_Ev X E own nm cc nL ret R Q (cs + 1) (sl + N) (fr_zp Z.1 k r, (fun a b => Z.2.1 a b ∨ (a = k ∧ b = r)), Z.2.2 + 1) (pc + 2) L (.ref (fr_ad X k r) :: st) (fr_zi I k r) (fr_zj J k r)) : fr_Ev X E own nm cc nL ret R Q cs sl Z pc L (.int n :: st) I J := by
  obtain ⟨p, e, s, m, args, below, meth, c⟩ := E
  intro C H locs ls hz hm hS hl
  have C' := C
  obtain ⟨hx, hb, hml, hown, hts, hK, -, -, -, -, hbase⟩ := C'
  refine va_newaK hx hb (hts _ hw) rfl d rfl hn hN hbytes hc hs (hz.trans ha.symm) fun H1 cA e1 z1 o1 hAr hNm => ?_
  rw [ha, ← hz] at o1 z1
  refine kk C H1 locs ls (by rw [z1, hz]) (hm.grow (ha.trans hz.symm) ((fr_ce_a hk).mpr ⟨cA, hAr, by cases atype <;> exact hNm, ?_⟩) o1 (Nat.le_trans hbase hS.1) fr_vl_zn) ⟨Nat.le_trans hS.1 (by omega), fun x h1 h2 => (o1 x (Nat.lt_of_lt_of_le h1 hS.1)).trans (hS.2.1 x h1 h2), hS.2.2⟩ hl
  rw [e1]
  congr 2
  funext j
  rw [fr_vl_z]
  exact hdef j
theorem fr_anew {idx : Nat} {n : Int32} {N : Nat} (k r : Nat) (d : decode cc pc = .ok (.anewarray idx, 3)) (hw : Cond.classLink own idx fr_aC ∈ fr_ws) (hk : fr_kd k = .inr (.object fr_aC, N)) (hdef : ∀ j, Value.null = fr_dv k j) (hn : ¬ n < 0) (hN : n.toNatClampNeg = N) (hbytes : N * 4 ≤ 536870912) (ha : fr_ad X k r = Z.2.2) (hc : cs + 1 ≤ R.cells) (hs : sl + N ≤ R.slots)
    (kk : fr_Ev X E own nm cc nL ret R Q (cs + 1) (sl + N) (fr_zp Z.1 k r, (fun a b => Z.2.1 a b ∨ (a = k ∧ b = r)), Z.2.2 + 1) (pc + 3) L (.ref (fr_ad X k r) :: st) (fr_zi I k r) (fr_zj J k r)) : fr_Ev X E own nm cc nL ret R Q cs sl Z pc L (.int n :: st) I J := by
  obtain ⟨p, e, s, m, args, below, meth, c⟩ := E
  intro C H locs ls hz hm hS hl
  have C' := C
  obtain ⟨hx, hb, hml, hown, hts, hK, hNA, -, -, -, hbase⟩ := C'
  subst hN
  refine W.anew hx hb hown (hts _ hw) (va_AO.use hNA.2) rfl d rfl hn hbytes hc hs fun cA kA comp f1 f2 f3 f4 => ?_
  generalize hH1 : H.push ({ cls := cA, slots := Array.replicate n.toNatClampNeg .null, vm := .none } : Cell) = H1
  have z1 : H1.size = H.size + 1 := by rw [← hH1, Array.size_push]
  have e1 : H1[H.size]? = some (arrV cA n.toNatClampNeg (fun _ => .null)) := by rw [← hH1, Array.getElem?_push_size, ← arrV_new]
  have o1 : ∀ q, q < H.size → H1[q]? = H[q]? := fun q hq => by rw [← hH1, Array.getElem?_push, if_neg (Nat.ne_of_lt hq)]
  have hha : fr_ad X k r = H.size := ha.trans hz.symm
  have kk' := kk C H1 locs ls (by rw [z1, hz]) (hm.grow hha ((fr_ce_a hk).mpr ⟨cA, fun n z => ⟨fun k h => (by cases h), kA, f2, comp, f3⟩, ⟨kA, comp, f2, f3, f4, f1⟩, by
    rw [hha, e1]
    congr 2
    funext j
    rw [fr_vl_z]
    exact hdef j⟩) o1 (Nat.le_trans hbase hS.1) fr_vl_zn) ⟨Nat.le_trans hS.1 (by omega), fun x h1 h2 => (o1 x (Nat.lt_of_lt_of_le h1 hS.1)).trans (hS.2.1 x h1 h2), hS.2.2⟩ hl
  rw [hha] at kk'
  exact kk'
theorem fr_oinit {idx a : Nat} (d : decode cc pc = .ok (.invokespecial idx, 3)) (h1 : Cond.methodLink own idx objectInit ∈ fr_ws) (h2 : Cond.instanceMethod objectInit ∈ fr_ws) (h3 : Cond.code objectInit ⟨#[0xb1]⟩ 1 none ∈ fr_ws) (hf : 1 ≤ R.frames) (hlo : (st.map fun v => v.category).sum + 12 ≤ R.locals)
    (kk : fr_Ev X E own nm cc nL ret R Q cs sl Z (pc + 3) L st I J) : fr_Ev X E own nm cc nL ret R Q cs sl Z pc L (.ref a :: st) I J := by
  intro C H locs ls hz hm hS hl
  have hts := C.2.2.2.2.1
  exact W.objInit C.1 C.2.1 C.2.2.2.1 (hts _ h1) (hts _ h2) (hts _ h3) rfl (by rw [C.2.2.1]; exact hl.1) rfl d hf (by show 2 * 0 + _ + 12 ≤ _; omega) (kk C H locs ls hz hm hS hl)
theorem fr_conv {Z2 : fr_Z} {I2 : fr_I} {J2 : fr_J} (hz2 : Z2.2.2 = Z.2.2) (hl2 : ∀ k r, Z2.2.1 k r → Z.2.1 k r) (he : ∀ k r j, Z2.2.1 k r → Z2.1 k r j = Z.1 k r j ∧ I2 k r j = I k r j ∧ J2 k r j = J k r j)
    (kk : fr_Ev X E own nm cc nL ret R Q cs sl Z2 pc L st I2 J2) : fr_Ev X E own nm cc nL ret R Q cs sl Z pc L st I J :=
  fun C H locs ls hz hm hS hl => kk C H locs ls (hz.trans hz2.symm) (hm.conv hl2 he) hS hl
theorem fr_wid {cs2 sl2 : Nat} (h1 : cs ≤ cs2) (h2 : sl ≤ sl2) (kk : fr_Ev X E own nm cc nL ret R Q cs2 sl2 Z pc L st I J) : fr_Ev X E own nm cc nL ret R Q cs sl Z pc L st I J :=
  fun C H locs ls hz hm hS hl => W.widen h1 h2 (kk C H locs ls hz hm hS hl)
theorem fr_mmin {idx : Nat} {x y : Int32} (d : decode cc pc = .ok (.invokestatic idx, 3)) (h1 : Cond.methodLink own idx Lib.Math.min.name ∈ fr_ws) (h2 : Cond.static Lib.Math.min.name ∈ fr_ws) (h3 : Cond.initialized "java/lang/Math" ∈ fr_ws) (h4 : Cond.code Lib.Math.min.name Lib.Math.min.code 2 (some .int) ∈ fr_ws) (hf : 1 ≤ R.frames) (hlo : (st.map fun v => v.category).sum + 13 ≤ R.locals) (hc : cs ≤ R.cells) (hs : sl ≤ R.slots)
    (kk : fr_Ev X E own nm cc nL ret R Q cs sl Z (pc + 3) L (.int (if y < x then y else x) :: st) I J) : fr_Ev X E own nm cc nL ret R Q cs sl Z pc L (.int y :: .int x :: st) I J := by
  intro C H locs ls hz hm hS hl
  have hts := C.2.2.2.2.1
  exact va_mmin C.1 C.2.1 (C.2.2.1.trans hl.1.symm) C.2.2.2.1 (hts _ h1) (hts _ h2) (hts _ h3) (hts _ h4) hf hlo hc hs d (kk C H locs ls hz hm hS hl)
end FRnew

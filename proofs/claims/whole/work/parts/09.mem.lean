-- what the words say of a class's fields, and of a link to a field
theorem fr_nar_i (x : Int32) : narrow .int (.int x) = .int x := rfl
theorem fr_nar_b {x : Int32} (h : x = 0 ∨ x = 1) : narrow .boolean (.int x) = .int x := by
  rcases h with rfl | rfl <;> decide
theorem fr_fits_i (x : Int32) : fits .int (.int x) = true := rfl
theorem fr_fits_b {x : Int32} (h : x = 0 ∨ x = 1) : fits .boolean (.int x) = true := by
  rcases h with rfl | rfl <;> decide
section FRmem
variable {X : fr_X} {E : fr_E} {own nm : String} {cc : ByteArray} {nL : Nat} {ret : Option FieldType} {R : Room} {Q : State → Prop} {cs sl : Nat} {Z : fr_Z} {pc : Nat} {L : List (Nat × Value)} {st : List Value} {I : fr_I} {J : fr_J}
theorem fr_get {idx ci j k r : Nat} {ty : FieldType} {fin : Bool} (d : decode cc pc = .ok (.getfield idx, 3)) (hf : fr_fl own idx ci j ty fin) (hk : fr_kd k = .inl ci) (hlv : Z.2.1 k r)
    (kk : fr_Ev X E own nm cc nL ret R Q cs sl Z (pc + 3) L (fr_vl X Z.1 I J k r j :: st) I J) : fr_Ev X E own nm cc nL ret R Q cs sl Z pc L (.ref (fr_ad X k r) :: st) I J := by
  obtain ⟨p, e, s, m, args, below, meth, c⟩ := E
  intro C H locs ls hz hm hS hl
  obtain ⟨q, ty0, hc, ⟨hin, hty, hnm⟩, hj, hlink, -, -, hown2⟩ := hf
  obtain ⟨q', hq', cell, q1, q2, q3, q4⟩ := (fr_ce_o hk).mp (hm.1 k r hlv)
  obtain rfl : q' = q := Option.some.inj (hq'.symm.trans hc)
  have C' := C
  obtain ⟨hx, hb, hml, hown, hts, hK, -⟩ := C'
  obtain ⟨hSl, hfc, kC, hkC, hkind⟩ := hK.1 ci _ hc
  obtain ⟨cf, kf, fi, f, hi, hsl⟩ := hSl j hj
  refine W.getf hx hb hown (hts _ hlink) hi (u_facts hfc hkC (u_lays hts hin hj) hi).1 q1 (by rw [q3]; exact fun h => by cases h) (v := fr_vl X Z.1 I J k r j) ?_ rfl rfl d (kk C H locs ls hz hm hS hl)
  rw [hsl, q4 j hj]
theorem fr_geti {idx ci j k r : Nat} {ty : FieldType} {fin : Bool} (d : decode cc pc = .ok (.getfield idx, 3)) (hf : fr_fl own idx ci j ty fin) (hk : fr_kd k = .inl ci) (hs : fr_so k j = 0) (hlv : Z.2.1 k r)
    (kk : fr_Ev X E own nm cc nL ret R Q cs sl Z (pc + 3) L (.int (I k r j) :: st) I J) : fr_Ev X E own nm cc nL ret R Q cs sl Z pc L (.ref (fr_ad X k r) :: st) I J :=
  fr_get d hf hk hlv (by rw [fr_vl0 hs]; exact kk)
theorem fr_getl {idx ci j k r : Nat} {ty : FieldType} {fin : Bool} (d : decode cc pc = .ok (.getfield idx, 3)) (hf : fr_fl own idx ci j ty fin) (hk : fr_kd k = .inl ci) (hs : fr_so k j = 1) (hlv : Z.2.1 k r)
    (kk : fr_Ev X E own nm cc nL ret R Q cs sl Z (pc + 3) L (.long (J k r j) :: st) I J) : fr_Ev X E own nm cc nL ret R Q cs sl Z pc L (.ref (fr_ad X k r) :: st) I J :=
  fr_get d hf hk hlv (by rw [fr_vl1 hs]; exact kk)
theorem fr_getr {idx ci j k r k' r' : Nat} {ty : FieldType} {fin : Bool} (d : decode cc pc = .ok (.getfield idx, 3)) (hf : fr_fl own idx ci j ty fin) (hk : fr_kd k = .inl ci) (hs : fr_so k j = 2) (hp : Z.1 k r j = some (k', r')) (hlv : Z.2.1 k r)
    (kk : fr_Ev X E own nm cc nL ret R Q cs sl Z (pc + 3) L (.ref (fr_ad X k' r') :: st) I J) : fr_Ev X E own nm cc nL ret R Q cs sl Z pc L (.ref (fr_ad X k r) :: st) I J :=
  fr_get d hf hk hlv (by rw [fr_vl2 hs, hp]; exact kk)
/-- a field is stored (not final, or final in the class's own constructor) -/
theorem fr_put {idx ci j k r : Nat} {ty : FieldType} {fin : Bool} {v : Value} {P1 : fr_P} {I1 : fr_I} {J1 : fr_J} (d : decode cc pc = .ok (.putfield idx, 3)) (hf : fr_fl own idx ci j ty fin) (hfin : fin = false ∨ (nm = "<init>" ∧ ∃ q : vw_C, fr_cl[ci]? = some q ∧ q.1 = own)) (hk : fr_kd k = .inl ci) (hlv : Z.2.1 k r) (hn : narrow ty v = v) (hft : fits ty v = true)
    (hv1 : fr_vl X P1 I1 J1 k r j = v) (hv2 : ∀ k' r' j', ¬ (k' = k ∧ r' = r ∧ j' = j) → fr_vl X P1 I1 J1 k' r' j' = fr_vl X Z.1 I J k' r' j')
    (kk : fr_Ev X E own nm cc nL ret R Q cs sl (P1, Z.2) (pc + 3) L st I1 J1) : fr_Ev X E own nm cc nL ret R Q cs sl Z pc L (v :: .ref (fr_ad X k r) :: st) I J := by
  obtain ⟨p, e, s, m, args, below, meth, c⟩ := E
  intro C H locs ls hz hm hS hl
  obtain ⟨q, ty0, hc, ⟨hin, hty, hnm⟩, hj, hlink, htj, hfq, hown2⟩ := hf
  obtain ⟨q', hq', cell, q1, q2, q3, q4⟩ := (fr_ce_o hk).mp (hm.1 k r hlv)
  obtain rfl : q' = q := Option.some.inj (hq'.symm.trans hc)
  have C' := C
  obtain ⟨hx, hb, hml, hown, hts, hK, hNw, hret, hlk, hname, hbase⟩ := C'
  have hap := va_apart (own := own) hts hin ty0 hty hnm hK hc
  obtain ⟨hSl, hfc, kC, hkC, hkind⟩ := hK.1 ci _ hc
  obtain ⟨cf, kf, fi, f, hi, hsl⟩ := hSl j hj
  have hst := (u_facts hfc hkC (u_lays hts hin hj) hi).1
  have hlay := hts _ (hin _ (u_in_lay hj))
  unfold u_lay at hlay
  have hd : parseFieldDescriptor (q'.2.1 j).2.2.1 = some ty := by rw [hty j hj, htj]
  have hgo : ∀ H' : Heap, H'[fr_ad X k r]? = some (cell.setSlot (X.2.1.2 ci j) v) → H'.size = H.size → (∀ z, z ≠ fr_ad X k r → H'[z]? = H[z]?) → W p X.1 e R s m args below meth c H' (locs ++ [⟨fr_ad X k r, X.2.1.2 ci j⟩]) cs sl Q (F0 m (pc + 3) ls st) := by
    intro H' e1 e2 e3
    refine kk C H' _ ls (e2.trans hz) (hm.set hlv ((fr_ce_o hk).mpr ⟨_, hc, t_OB.to (V := updV (fr_vl X Z.1 I J k r) j v) ⟨_, e1, q2, q3, t_set q4 hap hj v⟩ (fun j' _ => ?_)⟩) e3 (fun k' r' j' hne => hv2 k' r' j' (fun z => hne ⟨z.1, z.2.1⟩))) (hS.put e2 e3 (hm.2.2 k r hlv)) hl
    by_cases hjj : j' = j
    · subst hjj
      rw [hv1]
      simp [updV]
    · rw [hv2 k r j' (fun z => hjj z.2.2)]
      simp [updV, hjj]
  cases fin with
  | false =>
    rw [if_neg (by rw [hfq]; decide)] at hlay
    have h6 := u_store hfc hkC hkind hlay hi hd hn hft
    refine W.putK hx hb (f := f) ⟨hown, hts _ hlink, ⟨_, _, _, hi⟩, hst⟩ (by rw [q2]; exact h6) q1 q3 (by rw [hsl]; exact k2_hasslot (q4 j hj)) rfl rfl d fun H' e1 e2 e3 => ?_
    rw [hsl] at e1 ⊢
    exact hgo H' e1 e2 e3
  | true =>
    rw [if_pos hfq] at hlay
    rcases hfin with hfin | ⟨hini, q2', hq2, hq3⟩
    · cases hfin
    obtain rfl : q2' = q' := Option.some.inj (hq2.symm.trans hc)
    have hcf : m.cls = cf := by
      obtain ⟨_, _, c', _, _, _, -, -, hf', -, -, -, hown3, -⟩ := Cond.laysFinal_spec hlay
      have e1 : c' = cf := by have := hi.symm.trans hf'; simp at this; exact this.1.symm
      rw [hown2, hq3] at hown3
      rw [← e1]; exact Option.some.inj (hown.symm.trans hown3)
    have h6 := u_fits hfc hkC hkind (Or.inr hlay) hi hd hn hft
    refine W.putFinK hx hb hown (hts _ hlink) hi hst hcf (hname.trans hini) (by rw [q2]; exact h6) q1 q3 (by rw [hsl]; exact k2_hasslot (q4 j hj)) rfl rfl d fun H' e1 e2 e3 => ?_
    rw [hsl] at e1 ⊢
    exact hgo H' e1 e2 e3
theorem fr_vl_ui {k r j : Nat} {x : Int32} {P : fr_P} (k' r' j' : Nat) (h : ¬ (k' = k ∧ r' = r ∧ j' = j)) : fr_vl X P (fr_ui I k r j x) J k' r' j' = fr_vl X P I J k' r' j' := fr_vl_eq (fr_ui_n h) rfl rfl
theorem fr_vl_uj {k r j : Nat} {x : Int64} {P : fr_P} (k' r' j' : Nat) (h : ¬ (k' = k ∧ r' = r ∧ j' = j)) : fr_vl X P I (fr_uj J k r j x) k' r' j' = fr_vl X P I J k' r' j' := fr_vl_eq rfl (fr_uj_n h) rfl
theorem fr_vl_up {k r j : Nat} {x : Option (Nat × Nat)} {P : fr_P} (k' r' j' : Nat) (h : ¬ (k' = k ∧ r' = r ∧ j' = j)) : fr_vl X (fr_up P k r j x) I J k' r' j' = fr_vl X P I J k' r' j' := fr_vl_eq rfl rfl (fr_up_n h)
theorem fr_puti {idx ci j k r : Nat} {x : Int32} (d : decode cc pc = .ok (.putfield idx, 3)) (hf : fr_fl own idx ci j .int false) (hk : fr_kd k = .inl ci) (hs : fr_so k j = 0) (hlv : Z.2.1 k r)
    (kk : fr_Ev X E own nm cc nL ret R Q cs sl Z (pc + 3) L st (fr_ui I k r j x) J) : fr_Ev X E own nm cc nL ret R Q cs sl Z pc L (.int x :: .ref (fr_ad X k r) :: st) I J :=
  fr_put (P1 := Z.1) (I1 := fr_ui I k r j x) (J1 := J) d hf (Or.inl rfl) hk hlv (fr_nar_i x) (fr_fits_i x) (by rw [fr_vl0 hs, fr_ui_s]) (fun k' r' j' h => fr_vl_ui k' r' j' h) kk
theorem fr_putz {idx ci j k r : Nat} {x : Int32} (d : decode cc pc = .ok (.putfield idx, 3)) (hf : fr_fl own idx ci j .boolean false) (hk : fr_kd k = .inl ci) (hs : fr_so k j = 0) (hx : x = 0 ∨ x = 1) (hlv : Z.2.1 k r)
    (kk : fr_Ev X E own nm cc nL ret R Q cs sl Z (pc + 3) L st (fr_ui I k r j x) J) : fr_Ev X E own nm cc nL ret R Q cs sl Z pc L (.int x :: .ref (fr_ad X k r) :: st) I J :=
  fr_put (P1 := Z.1) (I1 := fr_ui I k r j x) (J1 := J) d hf (Or.inl rfl) hk hlv (fr_nar_b hx) (fr_fits_b hx) (by rw [fr_vl0 hs, fr_ui_s]) (fun k' r' j' h => fr_vl_ui k' r' j' h) kk
theorem fr_putl {idx ci j k r : Nat} {x : Int64} (d : decode cc pc = .ok (.putfield idx, 3)) (hf : fr_fl own idx ci j .long false) (hk : fr_kd k = .inl ci) (hs : fr_so k j = 1) (hlv : Z.2.1 k r)
    (kk : fr_Ev X E own nm cc nL ret R Q cs sl Z (pc + 3) L st I (fr_uj J k r j x)) : fr_Ev X E own nm cc nL ret R Q cs sl Z pc L (.long x :: .ref (fr_ad X k r) :: st) I J :=
  fr_put (P1 := Z.1) (I1 := I) (J1 := fr_uj J k r j x) d hf (Or.inl rfl) hk hlv rfl rfl (by rw [fr_vl1 hs, fr_uj_s]) (fun k' r' j' h => fr_vl_uj k' r' j' h) kk
/-- in a constructor: an int or a boolean into a field that may be final -/
theorem fr_putFi {idx ci j k r : Nat} {x : Int32} {ty : FieldType} {fin : Bool} (q : vw_C) (d : decode cc pc = .ok (.putfield idx, 3)) (hf : fr_fl own idx ci j ty fin) (hnm : nm = "<init>") (hq : fr_cl[ci]? = some q) (hq1 : q.1 = own) (hk : fr_kd k = .inl ci) (hs : fr_so k j = 0) (hn : narrow ty (.int x) = .int x) (hft : fits ty (.int x) = true) (hlv : Z.2.1 k r)
    (kk : fr_Ev X E own nm cc nL ret R Q cs sl Z (pc + 3) L st (fr_ui I k r j x) J) : fr_Ev X E own nm cc nL ret R Q cs sl Z pc L (.int x :: .ref (fr_ad X k r) :: st) I J :=
  fr_put (P1 := Z.1) (I1 := fr_ui I k r j x) (J1 := J) d hf (Or.inr ⟨hnm, q, hq, hq1⟩) hk hlv hn hft (by rw [fr_vl0 hs, fr_ui_s]) (fun k' r' j' h => fr_vl_ui k' r' j' h) kk
/-- in a constructor: a reference into a field that may be final -/
theorem fr_putFr {idx ci j k r k' r' : Nat} {ty : FieldType} {fin : Bool} (q : vw_C) (d : decode cc pc = .ok (.putfield idx, 3)) (hf : fr_fl own idx ci j ty fin) (hnm : nm = "<init>") (hq : fr_cl[ci]? = some q) (hq1 : q.1 = own) (hk : fr_kd k = .inl ci) (hs : fr_so k j = 2) (hn : narrow ty (.ref (fr_ad X k' r')) = .ref (fr_ad X k' r')) (hft : fits ty (.ref (fr_ad X k' r')) = true) (hlv : Z.2.1 k r)
    (kk : fr_Ev X E own nm cc nL ret R Q cs sl (fr_up Z.1 k r j (some (k', r')), Z.2) (pc + 3) L st I J) : fr_Ev X E own nm cc nL ret R Q cs sl Z pc L (.ref (fr_ad X k' r') :: .ref (fr_ad X k r) :: st) I J :=
  fr_put (P1 := fr_up Z.1 k r j (some (k', r'))) (I1 := I) (J1 := J) d hf (Or.inr ⟨hnm, q, hq, hq1⟩) hk hlv hn hft (by rw [fr_vl2 hs, fr_up_s]; rfl) (fun k' r' j' h => fr_vl_up k' r' j' h) kk
-- arrays
theorem fr_iald {i : Int32} {k r N : Nat} (j : Nat) (d : decode cc pc = .ok (.iaload, 1)) (hk : fr_kd k = .inr (.int, N)) (hs : fr_so k j = 0) (hlv : Z.2.1 k r) (hi : i = nI j) (hj : j < N) (hN : N < 2 ^ 31)
    (kk : fr_Ev X E own nm cc nL ret R Q cs sl Z (pc + 1) L (.int (I k r j) :: st) I J) : fr_Ev X E own nm cc nL ret R Q cs sl Z pc L (.int i :: .ref (fr_ad X k r) :: st) I J := by
  subst hi
  intro C H locs ls hz hm hS hl
  obtain ⟨cA, a1, a2, a3⟩ := (fr_ce_a hk).mp (hm.1 k r hlv)
  refine W.iald (v := .int (I k r j)) C.1 C.2.1 a3 (a1 N _) (fun q => by cases q) (by rw [arrV_size]; exact vp_in_nI hj hN) (by rw [nI_clamp (Nat.lt_trans hj hN), arrV_read _ _ hj, fr_vl0 hs]) rfl rfl d (kk C H locs ls hz hm hS hl)
theorem fr_zald {i : Int32} {k r N : Nat} (j : Nat) (d : decode cc pc = .ok (.baload, 1)) (hk : fr_kd k = .inr (.boolean, N)) (hs : fr_so k j = 0) (hlv : Z.2.1 k r) (hi : i = nI j) (hj : j < N) (hN : N < 2 ^ 31)
    (kk : fr_Ev X E own nm cc nL ret R Q cs sl Z (pc + 1) L (.int (I k r j) :: st) I J) : fr_Ev X E own nm cc nL ret R Q cs sl Z pc L (.int i :: .ref (fr_ad X k r) :: st) I J := by
  subst hi
  intro C H locs ls hz hm hS hl
  obtain ⟨cA, a1, a2, a3⟩ := (fr_ce_a hk).mp (hm.1 k r hlv)
  refine W.zald (v := .int (I k r j)) C.1 C.2.1 a3 (a1 N _) (fun q => by cases q) (by rw [arrV_size]; exact vp_in_nI hj hN) (by rw [nI_clamp (Nat.lt_trans hj hN), arrV_read _ _ hj, fr_vl0 hs]) rfl rfl d (kk C H locs ls hz hm hS hl)
theorem fr_lald {i : Int32} {k r N : Nat} (j : Nat) (d : decode cc pc = .ok (.laload, 1)) (hk : fr_kd k = .inr (.long, N)) (hs : fr_so k j = 1) (hlv : Z.2.1 k r) (hi : i = nI j) (hj : j < N) (hN : N < 2 ^ 31)
    (kk : fr_Ev X E own nm cc nL ret R Q cs sl Z (pc + 1) L (.long (J k r j) :: st) I J) : fr_Ev X E own nm cc nL ret R Q cs sl Z pc L (.int i :: .ref (fr_ad X k r) :: st) I J := by
  subst hi
  intro C H locs ls hz hm hS hl
  obtain ⟨cA, a1, a2, a3⟩ := (fr_ce_a hk).mp (hm.1 k r hlv)
  refine W.lald (v := .long (J k r j)) C.1 C.2.1 a3 (a1 N _) (fun q => by cases q) (by rw [arrV_size]; exact vp_in_nI hj hN) (by rw [nI_clamp (Nat.lt_trans hj hN), arrV_read _ _ hj, fr_vl1 hs]) rfl rfl d (kk C H locs ls hz hm hS hl)
theorem fr_aald {i : Int32} {k r N k' r' : Nat} {CN : String} (j : Nat) (d : decode cc pc = .ok (.aaload, 1)) (hk : fr_kd k = .inr (.object CN, N)) (hs : fr_so k j = 2) (hp : Z.1 k r j = some (k', r')) (hlv : Z.2.1 k r) (hi : i = nI j) (hj : j < N) (hN : N < 2 ^ 31)
    (kk : fr_Ev X E own nm cc nL ret R Q cs sl Z (pc + 1) L (.ref (fr_ad X k' r') :: st) I J) : fr_Ev X E own nm cc nL ret R Q cs sl Z pc L (.int i :: .ref (fr_ad X k r) :: st) I J := by
  subst hi
  intro C H locs ls hz hm hS hl
  obtain ⟨cA, a1, a2, a3⟩ := (fr_ce_a hk).mp (hm.1 k r hlv)
  refine W.aald (v := .ref (fr_ad X k' r')) (ty := .object CN) C.1 C.2.1 a3 (a1 N _) rfl (fun q => by cases q) (by rw [arrV_size]; exact vp_in_nI hj hN) (by rw [nI_clamp (Nat.lt_trans hj hN), arrV_read _ _ hj, fr_vl2 hs, hp]; rfl) rfl rfl d (kk C H locs ls hz hm hS hl)
theorem fr_alen {k r N : Nat} {ty : FieldType} {v : Int32} (d : decode cc pc = .ok (.arraylength, 1)) (hk : fr_kd k = .inr (ty, N)) (hlv : Z.2.1 k r) (hv : Int32.ofNat N = v)
    (kk : fr_Ev X E own nm cc nL ret R Q cs sl Z (pc + 1) L (.int v :: st) I J) : fr_Ev X E own nm cc nL ret R Q cs sl Z pc L (.ref (fr_ad X k r) :: st) I J := by
  subst hv
  intro C H locs ls hz hm hS hl
  obtain ⟨cA, a1, a2, a3⟩ := (fr_ce_a hk).mp (hm.1 k r hlv)
  exact W.alen (n := Int32.ofNat N) C.1 C.2.1 a3 (a1 N _) (by rw [arrV_size] <;> rfl) rfl rfl d (kk C H locs ls hz hm hS hl)
theorem fr_iast {i x : Int32} {k r N : Nat} (j : Nat) (d : decode cc pc = .ok (.iastore, 1)) (hk : fr_kd k = .inr (.int, N)) (hs : fr_so k j = 0) (hlv : Z.2.1 k r) (hi : i = nI j) (hj : j < N) (hN : N < 2 ^ 31)
    (kk : fr_Ev X E own nm cc nL ret R Q cs sl Z (pc + 1) L st (fr_ui I k r j x) J) : fr_Ev X E own nm cc nL ret R Q cs sl Z pc L (.int x :: .int i :: .ref (fr_ad X k r) :: st) I J := by
  subst hi
  intro C H locs ls hz hm hS hl
  obtain ⟨cA, a1, a2, a3⟩ := (fr_ce_a hk).mp (hm.1 k r hlv)
  refine W.iast C.1 C.2.1 a3 (a1 N _) (fun q => by cases q) (by rw [arrV_size]; exact vp_in_nI hj hN) rfl rfl d fun H' e1 e2 e3 => ?_
  rw [nI_clamp (Nat.lt_trans hj hN)] at e1 ⊢
  refine kk C H' _ ls (e2.trans hz) (hm.set (P1 := Z.1) (I1 := fr_ui I k r j x) (J1 := J) hlv ((fr_ce_a hk).mpr ⟨cA, a1, a2, ?_⟩) e3 (fun k' r' j' h => fr_vl_ui k' r' j' (fun z => h ⟨z.1, z.2.1⟩))) (hS.put e2 e3 (hm.2.2 k r hlv)) hl
  rw [e1, arrV_store]
  congr 2
  funext j'
  by_cases hq : j' = j
  · subst hq
    rw [fr_vl0 hs, fr_ui_s]
    simp [updV]
  · rw [fr_vl_ui k r j' (fun z => hq z.2.2)]
    simp [updV, hq]
theorem fr_zast {i x : Int32} {k r N : Nat} (j : Nat) (d : decode cc pc = .ok (.bastore, 1)) (hk : fr_kd k = .inr (.boolean, N)) (hs : fr_so k j = 0) (hx : x = 0 ∨ x = 1) (hlv : Z.2.1 k r) (hi : i = nI j) (hj : j < N) (hN : N < 2 ^ 31)
    (kk : fr_Ev X E own nm cc nL ret R Q cs sl Z (pc + 1) L st (fr_ui I k r j x) J) : fr_Ev X E own nm cc nL ret R Q cs sl Z pc L (.int x :: .int i :: .ref (fr_ad X k r) :: st) I J := by
  subst hi
  intro C H locs ls hz hm hS hl
  obtain ⟨cA, a1, a2, a3⟩ := (fr_ce_a hk).mp (hm.1 k r hlv)
  refine W.zast C.1 C.2.1 a3 (a1 N _) (fun q => by cases q) (by rw [arrV_size]; exact vp_in_nI hj hN) rfl rfl d fun H' e1 e2 e3 => ?_
  rw [nI_clamp (Nat.lt_trans hj hN)] at e1 ⊢
  rw [fr_nar_b hx] at e1
  refine kk C H' _ ls (e2.trans hz) (hm.set (P1 := Z.1) (I1 := fr_ui I k r j x) (J1 := J) hlv ((fr_ce_a hk).mpr ⟨cA, a1, a2, ?_⟩) e3 (fun k' r' j' h => fr_vl_ui k' r' j' (fun z => h ⟨z.1, z.2.1⟩))) (hS.put e2 e3 (hm.2.2 k r hlv)) hl
  rw [e1, arrV_store]
  congr 2
  funext j'
  by_cases hq : j' = j
  · subst hq
    rw [fr_vl0 hs, fr_ui_s]
    simp [updV]
  · rw [fr_vl_ui k r j' (fun z => hq z.2.2)]
    simp [updV, hq]
theorem fr_last {i : Int32} {x : Int64} {k r N : Nat} (j : Nat) (d : decode cc pc = .ok (.lastore, 1)) (hk : fr_kd k = .inr (.long, N)) (hs : fr_so k j = 1) (hlv : Z.2.1 k r) (hi : i = nI j) (hj : j < N) (hN : N < 2 ^ 31)
    (kk : fr_Ev X E own nm cc nL ret R Q cs sl Z (pc + 1) L st I (fr_uj J k r j x)) : fr_Ev X E own nm cc nL ret R Q cs sl Z pc L (.long x :: .int i :: .ref (fr_ad X k r) :: st) I J := by
  subst hi
  intro C H locs ls hz hm hS hl
  obtain ⟨cA, a1, a2, a3⟩ := (fr_ce_a hk).mp (hm.1 k r hlv)
  refine W.last C.1 C.2.1 a3 (a1 N _) (fun q => by cases q) (by rw [arrV_size]; exact vp_in_nI hj hN) rfl rfl d fun H' e1 e2 e3 => ?_
  rw [nI_clamp (Nat.lt_trans hj hN)] at e1 ⊢
  refine kk C H' _ ls (e2.trans hz) (hm.set (P1 := Z.1) (I1 := I) (J1 := fr_uj J k r j x) hlv ((fr_ce_a hk).mpr ⟨cA, a1, a2, ?_⟩) e3 (fun k' r' j' h => fr_vl_uj k' r' j' (fun z => h ⟨z.1, z.2.1⟩))) (hS.put e2 e3 (hm.2.2 k r hlv)) hl
  rw [e1, arrV_store]
  congr 2
  funext j'
  by_cases hq : j' = j
  · subst hq
    rw [fr_vl1 hs, fr_uj_s]
    simp [updV]
  · rw [fr_vl_uj k r j' (fun z => hq z.2.2)]
    simp [updV, hq]
/-- a reference to an object into an array of its class -/
theorem fr_aast {i : Int32} {k r N k' r' ci : Nat} (q : vw_C) (j : Nat) (d : decode cc pc = .ok (.aastore, 1)) (hk : fr_kd k = .inr (.object q.1, N)) (hs : fr_so k j = 2) (hk' : fr_kd k' = .inl ci) (hq : fr_cl[ci]? = some q) (hlv : Z.2.1 k r) (hlv' : Z.2.1 k' r') (hi : i = nI j) (hj : j < N) (hN : N < 2 ^ 31)
    (kk : fr_Ev X E own nm cc nL ret R Q cs sl (fr_up Z.1 k r j (some (k', r')), Z.2) (pc + 1) L st I J) : fr_Ev X E own nm cc nL ret R Q cs sl Z pc L (.ref (fr_ad X k' r') :: .int i :: .ref (fr_ad X k r) :: st) I J := by
  subst hi
  obtain ⟨p, e, s, m, args, below, meth, c⟩ := E
  intro C H locs ls hz hm hS hl
  obtain ⟨cA, a1, a2, a3⟩ := (fr_ce_a hk).mp (hm.1 k r hlv)
  obtain ⟨qq, hqq, cellV, g1, g2, g3, -⟩ := (fr_ce_o hk').mp (hm.1 k' r' hlv')
  have C' := C
  obtain ⟨hx, hb, hml, hown, hts, hK, -⟩ := C'
  have hcls := (hK.1 ci q hq).2
  obtain ⟨kA, comp, k1, k2, k3, k4⟩ := a2
  have hcomp : comp = X.2.1.1 ci := Option.some.inj (k3.symm.trans hcls.1)
  subst hcomp
  have hcls2 := hcls
  obtain ⟨-, kC, hkC, -⟩ := hcls2
  have hin := vp_in_nI hj hN
  have hcl := nI_clamp (Nat.lt_trans hj hN)
  refine W.aast hx hb a3 (fun q h => by cases h) (fun h => by cases h) k1 k2 rfl hkC ⟨fun q => hin (Or.inl q), by rw [arrV_size, hcl]; exact hj⟩ g1 (fun q h => by rw [g3] at h; cases h) (by rw [g2]; exact hkC) (by rw [g2]; exact va_assign hcls) rfl rfl d fun H' e1 e2 e3 => ?_
  rw [hcl] at e1 ⊢
  refine kk C H' _ ls (e2.trans hz) (hm.set (P1 := fr_up Z.1 k r j (some (k', r'))) (I1 := I) (J1 := J) hlv ((fr_ce_a hk).mpr ⟨cA, a1, ⟨kA, _, k1, k2, k3, k4⟩, ?_⟩) e3 (fun k' r' j' h => fr_vl_up k' r' j' (fun z => h ⟨z.1, z.2.1⟩))) (hS.put e2 e3 (hm.2.2 k r hlv)) hl
  rw [e1, arrV_store]
  congr 2
  funext j'
  by_cases hq : j' = j
  · subst hq
    rw [fr_vl2 hs, fr_up_s]
    simp [updV, va_rf]
  · rw [fr_vl_up k r j' (fun z => hq z.2.2)]
    simp [updV, hq]
end FRmem

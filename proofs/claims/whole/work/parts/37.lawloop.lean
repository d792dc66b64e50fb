theorem lx_gt {a c : Nat} (ha : a ≤ 2560) (hc : c ≤ 2565) (h : a < c + 5) : nI a - 5 < nI c := by
  rw [Int32.lt_iff_toInt_lt, show (5 : Int32) = nI 5 from rfl, pk_sub_toInt (by omega) (by omega), nI_toInt (by omega)]
  omega
theorem lx_le {a c : Nat} (ha : a ≤ 2560) (hc : c ≤ 2565) (h : ¬ nI a - 5 < nI c) : c + 5 ≤ a := by
  rw [Int32.lt_iff_toInt_lt, show (5 : Int32) = nI 5 from rfl, pk_sub_toInt (by omega) (by omega), nI_toInt (by omega)] at h
  omega
theorem lx_inc5 (t : Nat) : nI (5 * t) + Int32.ofInt 5 = nI (5 * (t + 1)) := by
  have h : nI (5 * t) + nI 5 = nI (5 * t + 5) := nI_add (5 * t) 5
  exact h.trans (congrArg nI (by omega))
set_option maxRecDepth 10000 in
theorem lx_loop {X : fr_X} {E : fr_E} {nm : String} {Q : State → Prop} {Inv : Nat → Nat → fr_I → fr_J → Prop} (h8 : ∀ c n I J, Inv c n I J → n ≤ 8) (hmono : ∀ c n I J, Inv c n I J → Inv (c + 1) n I J) {b Ls : Nat} {xs : Nat → Int32} (hXs : va_X b Ls xs E.2.2.1 E.2.2.1.heap) (hb : b < E.2.2.1.heap.size) (hB : X.2.2.2 = E.2.2.1.heap.size) (hL : Ls ≤ 2560) (ok : ∀ c, c < 512 → lx_ok X (Inv c) (Inv (c + 1)))
    (he : ∀ (t n : Nat) (I : fr_I) (J : fr_J), Inv t n I J → fr_Ev X E R_L nm c_L_law 4 (some .boolean) room_1 Q (41 + 7 * n) (1383 + 57 * n) (fr_Z0 X n) 750 [(3, .int (nI (5 * t))), (2, .ref (fr_ad X 20 0)), (1, .ref (fr_ad X 0 0)), (0, .ref b)] [] I J) : ∀ (K t n : Nat) (I : fr_I) (J : fr_J), Ls < 5 * t + 5 + 5 * K → 5 * t ≤ Ls + 5 → Inv t n I J → fr_Ev X E R_L nm c_L_law 4 (some .boolean) room_1 Q (41 + 7 * n) (1383 + 57 * n) (fr_Z0 X n) 18 [(3, .int (nI (5 * t))), (2, .ref (fr_ad X 20 0)), (1, .ref (fr_ad X 0 0)), (0, .ref b)] [] I J := by
  intro K
  induction K with
  | zero =>
    intro t n I J hK ht hI
    refine fr_iload_n d_L_law_18 rfl ?_
    refine fr_aload_n d_L_law_19 rfl ?_
    refine lx_slen hXs hb hB d_L_law_20 ?_
    refine fr_iconst d_L_law_21 fr_i5 ?_
    refine fr_isub d_L_law_22 ?_
    exact fr_icmp_gt 750 d_L_law_23 rfl (fun _ => he t n I J hI) (fun h => absurd (lx_gt (by omega) (by omega) (by omega)) h)
  | succ K ih =>
    intro t n I J hK ht hI
    refine fr_iload_n d_L_law_18 rfl ?_
    refine fr_aload_n d_L_law_19 rfl ?_
    refine lx_slen hXs hb hB d_L_law_20 ?_
    refine fr_iconst d_L_law_21 fr_i5 ?_
    refine fr_isub d_L_law_22 ?_
    refine fr_icmp_gt 750 d_L_law_23 rfl (fun _ => he t n I J hI) (fun h => ?_)
    have h5 : 5 * t + 5 ≤ Ls := lx_le (by omega) (by omega) h
    refine lx_body (h8 (t + 1)) hXs hb hB (by omega) h5 (hmono t) (ok t (by omega)) (fun n I J hI => ?_) n I J hI
    refine fr_iinc (v := nI (5 * (t + 1))) (L' := [(3, .int _), (2, .ref _), (1, .ref _), (0, .ref _)]) d_L_law_744 rfl (lx_inc5 t) (by decide) rfl ?_
    refine fr_goto 18 d_L_law_747 rfl ?_
    exact ih (t + 1) n I J (by omega) (by omega) hI

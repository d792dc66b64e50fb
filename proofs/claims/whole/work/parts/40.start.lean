set_option maxRecDepth 10000 in
set_option maxHeartbeats 4000000 in
/-- the law from its entry, given an Inv that every pair of calls keeps -/
theorem lx_start {Inv : Nat → Nat → fr_I → fr_J → Prop} (h8 : ∀ c n I J, Inv c n I J → n ≤ 8) (hmono : ∀ c n I J, Inv c n I J → Inv (c + 1) n I J) (ok : ∀ X : fr_X, (∀ k r, fr_ad X k r = fr_adf X.2.2.2 k r) → ∀ c, c < 512 → lx_ok X (Inv c) (Inv (c + 1))) (h0 : Inv 0 0 (fun _ _ _ => 0) (fun _ _ _ => 0)) {p : Program} {e : Env} {s : State} {m : MethodId} {below : List Frame} {meth : Method} {c : Code} (l : Launch) {b L : Nat} {xs : Nat → Int32} (hL : L ≤ 2560) (C0 : lw_At p s m meth c b L xs) : W p l e room_1 s m #[Value.ref b] below meth c s.heap [] 0 0 (lw_Z below #[Value.ref b] s) (entryFrame m ([Value.ref b] : List Value).toArray 4) := by
  obtain ⟨hx, hb, hr, hml, hown, hts, hX, hbl, hlk, hgv⟩ := C0
  have hts' : ∀ w ∈ fr_ws, w.before #[Value.ref b] s = true := fun w h => hts w (fr_sub w h)
  obtain ⟨c0, i0, K0⟩ := u_known (C := R_F) (T := T_F) (N := 6) (n := 6) hts' (cf_F).1 (hts' _ (fr_in (List.mem_append_left _ (List.mem_of_getElem? (i := 11) (by decide +kernel))) rfl))
  obtain ⟨c1, i1, K1⟩ := u_known (C := R_J) (T := T_J) (N := 4) (n := 4) hts' (cf_J).1 (hts' _ (fr_in (List.mem_append_left _ (List.mem_of_getElem? (i := 21) (by decide +kernel))) rfl))
  obtain ⟨c2, i2, K2⟩ := u_known (C := R_R) (T := T_R) (N := 9) (n := 9) hts' (cf_R).1 (hts' _ (fr_in (List.mem_append_left _ (List.mem_of_getElem? (i := 75) (by decide +kernel))) rfl))
  obtain ⟨c3, i3, K3⟩ := u_known (C := R_M) (T := T_M) (N := 8) (n := 8) hts' (cf_M).1 (hts' _ (fr_in (List.mem_append_left _ (List.mem_of_getElem? (i := 81) (by decide +kernel))) rfl))
  obtain ⟨c4, i4, K4⟩ := u_known (C := R_B) (T := T_B) (N := 11) (n := 11) hts' (cf_B).1 (hts' _ (fr_in (List.mem_append_left _ (List.mem_of_getElem? (i := 115) (by decide +kernel))) rfl))
  obtain ⟨c5, i5, K5⟩ := u_known (C := R_W) (T := T_W) (N := 9) (n := 9) hts' (cf_W).1 (hts' _ (fr_in (List.mem_append_left _ (List.mem_of_getElem? (i := 161) (by decide +kernel))) rfl))
  obtain ⟨c6, i6, K6⟩ := u_known (C := R_O) (T := T_O) (N := 37) (n := 37) hts' (cf_O).1 (hts' _ (fr_in (List.mem_append_right _ (List.mem_append_left _ (List.mem_of_getElem? (i := 231) (by decide +kernel)))) rfl))
  let D : va_G := (fun q => match q with | 0 => c0 | 1 => c1 | 2 => c2 | 3 => c3 | 4 => c4 | 5 => c5 | _ => c6, fun q => match q with | 0 => i0 | 1 => i1 | 2 => i2 | 3 => i3 | 4 => i4 | 5 => i5 | _ => i6)
  have hK : va_K D fr_cl [] s := by
    refine ⟨fun q z hz => ?_, fun k z hz => by cases hz⟩
    match q, hz with
    | 0, hz => cases hz; exact K0
    | 1, hz => cases hz; exact K1
    | 2, hz => cases hz; exact K2
    | 3, hz => cases hz; exact K3
    | 4, hz => cases hz; exact K4
    | 5, hz => cases hz; exact K5
    | 6, hz => cases hz; exact K6
    | q + 7, hz => cases hz
  have hN : ∀ q ∈ fr_nw, va_Nw (.methodLinkNest q.1 q.2.1 q.2.2.1 q.2.2.2) s := by
    refine List.forall_mem_cons.mpr ⟨va_Nw.of rfl (hts _ (List.mem_append_right _ (List.mem_append_left _ (List.mem_of_getElem? (i := 22) (by decide +kernel))))), List.forall_mem_cons.mpr ⟨va_Nw.of rfl (hts _ (List.mem_append_right _ (List.mem_append_left _ (List.mem_of_getElem? (i := 82) (by decide +kernel))))), List.forall_mem_cons.mpr ⟨va_Nw.of rfl (hts _ (List.mem_append_right _ (List.mem_append_left _ (List.mem_of_getElem? (i := 116) (by decide +kernel))))), fun _ h => absurd h List.not_mem_nil⟩⟩⟩
  have hAO : va_AO fr_aC s := va_AO.of (hts (.arrayOver (.object fr_aC)) (List.mem_append_right _ (List.mem_append_left _ (List.mem_of_getElem? (i := 19) (by decide +kernel)))))
  let X : fr_X := (l, D, fr_adf s.heap.size, s.heap.size)
  have hXa : ∀ k r, fr_ad X k r = fr_adf X.2.2.2 k r := fun _ _ => rfl
  have key : fr_Ev X (p, e, s, m, #[Value.ref b], below, meth, c) R_L meth.name c_L_law 4 (some .boolean) room_1 (lw_Z below #[Value.ref b] s) 0 0 (zz_e X) 0 [(0, .ref b)] [] (fun _ _ _ => 0) (fun _ _ _ => 0) := by
    refine fz_new 0 0 d_L_law_0 nc_L_7 rfl dv_F rfl (by decide) (by decide) ?_
    refine fr_dup d_L_law_3 rfl ?_
    refine fz_callI (mc := 6) (ms := 428) d_L_law_4 (ct_F_init X _ (Or.inr ⟨rfl, rfl⟩) rfl rfl rfl rfl rfl rfl _ _) mi_L_9 rfl rfl ⟨by decide, by decide⟩ ⟨rfl, rfl⟩ ⟨by decide, by decide⟩ (Nat.le_of_ble_eq_true rfl) (fun I' J' hp => ?_)
    obtain ⟨rfl, rfl⟩ := hp
    refine fr_astore_n (L' := [(1, .ref _), (0, .ref _)]) d_L_law_7 (by decide) rfl ?_
    refine fz_new 20 0 d_L_law_8 nc_L_10 rfl dv_O rfl (by decide) (by decide) ?_
    refine fr_dup d_L_law_11 rfl ?_
    refine fz_callI (mc := 33) (ms := 912) d_L_law_12 (ct_O_init X _ (Or.inr ⟨rfl, rfl⟩) rfl rfl rfl rfl rfl rfl rfl rfl rfl rfl rfl rfl rfl rfl rfl rfl rfl rfl rfl rfl rfl rfl rfl rfl rfl rfl rfl rfl rfl rfl rfl rfl rfl _ _) mi_L_12 rfl rfl ⟨by decide, by decide⟩ ⟨rfl, rfl⟩ ⟨by decide, by decide⟩ (Nat.le_of_ble_eq_true rfl) (fun I' J' hp => ?_)
    obtain ⟨rfl, rfl⟩ := hp
    refine fr_astore_n (L' := [(2, .ref _), (1, .ref _), (0, .ref _)]) d_L_law_15 (by decide) rfl ?_
    refine fr_iconst d_L_law_16 fr_i0 ?_
    refine fr_istore_n (L' := [(3, .int _), (2, .ref _), (1, .ref _), (0, .ref _)]) d_L_law_17 (by decide) rfl ?_
    refine fr_conv (Z2 := fr_Z0 X 0) (I2 := fun _ _ _ => 0) (J2 := fun _ _ _ => 0) (zz_O_sz X) (zz_O_lv X) (fun k r j h => ⟨zz_O_p X k r j h, by simp [fr_zi], by simp [fr_zj]⟩) ?_
    refine fr_wid (cs2 := 41 + 7 * 0) (sl2 := 1383 + 57 * 0) (by decide) (by decide) ?_
    refine lx_loop h8 hmono hX hbl rfl hL (ok X hXa) (fun t n I J hI => ?_) 513 0 0 _ _ (by omega) (by omega) h0
    refine fr_iconst d_L_law_750 fr_i1 ?_
    intro C H locs ls hz hm hS hl
    have hn8 := h8 _ _ _ _ hI
    refine va_forget (fun q hq => hS.2.2 q hq) ?_
    refine W.widen (k := 600000) (n := 7302250) (by omega) (by omega) ?_
    exact lw_ret hx hb hr hlk d_L_law_751
  rw [lg_entry_eq]
  exact key ⟨hx, hb, hml, hown, hts', hK, ⟨hN, hAO⟩, hr, hlk, rfl, Nat.le_refl _⟩ s.heap [] _ rfl ⟨fun k r h => h.elim, fun k r k' r' h => h.elim, fun k r h => h.elim⟩ va_S.rf (lv_entry [Value.ref b] (Nat.le_of_ble_eq_true rfl))

def f_F_relay_no (I : fr_I) (p1 : Int32) : Int32 :=
  if 8 ≤ (I 0 0 4) then
    (-1)
  else
    if (I 0 0 5) = 0 then
      (-1)
    else
      (-1)
set_option maxRecDepth 10000 in
theorem ct_F_relay_no (X : fr_X) (n : Nat) (I : fr_I) (J : fr_J) (p1 : Int32) (hx : (8 : Int32) ≤ I 0 0 4 ∨ ¬ I 0 0 5 = 0 ∨ f_F_isPlaceFor I p1 = 0) : fr_Ct X y_F_relay c_F_relay 2 (some .int) (fr_rm 2) [.ref (fr_ad X 0 0), .int p1] (fr_Z0 X n) (fr_Z0 X n) I J (fr_pi (fun x I' J' => (f_F_relay_no I p1) = x ∧ I = I' ∧ J = J')) := by
  refine fr_ct (by decide) rfl rfl (Nat.le_of_ble_eq_true rfl) rfl (fun E => ?_)
  refine fr_aload_n d_F_relay_0 rfl ?_
  refine fr_geti d_F_relay_1 fl_F_30 rfl rfl (Or.inr ⟨rfl, rfl⟩) ?_
  refine fr_bipush d_F_relay_4 fr_b8 ?_
  refine fr_icmp_ge 24 d_F_relay_6 rfl (fun h1 => ?_) (fun h1 => ?_)
  · skip
    refine fr_iconst d_F_relay_24 fr_im1 ?_
    exact fr_iret d_F_relay_25 rfl (fr_nar_i _) (Nat.zero_le _) (Nat.zero_le _) ⟨(by unfold f_F_relay_no; rw [if_pos h1]), rfl, rfl⟩
  · skip
    refine fr_aload_n d_F_relay_9 rfl ?_
    refine fr_geti d_F_relay_10 fl_F_34 rfl rfl (Or.inr ⟨rfl, rfl⟩) ?_
    refine fr_if_ne 24 d_F_relay_13 rfl (fun h2 => ?_) (fun h2 => ?_)
    · skip
      refine fr_iconst d_F_relay_24 fr_im1 ?_
      exact fr_iret d_F_relay_25 rfl (fr_nar_i _) (Nat.zero_le _) (Nat.zero_le _) ⟨(by unfold f_F_relay_no; rw [if_neg h1, if_neg h2]), rfl, rfl⟩
    · skip
      refine fr_aload_n d_F_relay_16 rfl ?_
      refine fr_iload_n d_F_relay_17 rfl ?_
      refine fr_callVi fr_q0 d_F_relay_18 (ct_F_isPlaceFor X n _ _ _) mv_F_37 rfl rfl rfl (Or.inr ⟨rfl, rfl⟩) rfl rfl ⟨Nat.le_of_ble_eq_true rfl, Nat.le_of_ble_eq_true rfl⟩ ⟨rfl, rfl⟩ ⟨Nat.zero_le _, Nat.zero_le _⟩ (Nat.le_of_ble_eq_true rfl) (fun x I' J' hp3 => ?_)
      obtain ⟨rfl, rfl, rfl⟩ := hp3
      refine fr_if_ne 26 d_F_relay_21 rfl (fun h => hx.elim (fun q => absurd q h1) (fun q => q.elim (fun q => absurd h2 q) (fun q => absurd q h))) (fun _ => ?_)
      refine fr_iconst d_F_relay_24 fr_im1 ?_
      exact fr_iret d_F_relay_25 rfl (fr_nar_i _) (Nat.zero_le _) (Nat.zero_le _) ⟨(by unfold f_F_relay_no; rw [if_neg h1, if_pos h2]), rfl, rfl⟩
def g_F_relay (I : fr_I) (n : Nat) (p1 : Int32) : fr_I := (fr_ui (fr_ui (fr_ui (fr_zi (fr_zi (fr_zi (fr_ui (fr_ui (fr_ui (fr_zi (fr_ui (fr_ui (fr_zi (fr_zi (fr_zi I 7 n) 8 n) 9 n) 8 n 3 100) 8 n 4 5) 10 n) 10 n 0 1) 7 n 6 10) 7 n 0 p1) 11 n) 12 n) 13 n) 11 n 3 1) 11 n 8 0) 11 n 0 (if p1 = (-1) then (0 : Int32) else 1))
def j_F_relay (J : fr_J) (n : Nat) : fr_J := (fr_zj (fr_zj (fr_zj (fr_zj (fr_zj (fr_zj (fr_zj J 7 n) 8 n) 9 n) 10 n) 11 n) 12 n) 13 n)
set_option maxRecDepth 10000 in
theorem ct_F_relay (X : fr_X) (hX : ∀ k r, fr_ad X k r = fr_adf X.2.2.2 k r) (n : Nat) (h8 : n < 8) (I : fr_I) (J : fr_J) (p1 : Int32) (hw : fr_wf n I) (h0 : I 0 0 5 = 0) (hpl : ¬ f_F_isPlaceFor I p1 = 0) : fr_Ct X y_F_relay c_F_relay 2 (some .int) (fr_rmc 3 7 57) [.ref (fr_ad X 0 0), .int p1] (fr_Z0 X n) (fr_Z0 X (n + 1)) I J (fr_pi (fun x I' J' => ((g_F_relay I n p1 0 0 4) + 1) - 1 = x ∧ fr_ui (g_F_relay I n p1) 0 0 4 ((g_F_relay I n p1 0 0 4) + 1) = I' ∧ j_F_relay J n = J')) := by
  refine fr_ct (by decide) rfl rfl (Nat.le_of_ble_eq_true rfl) rfl (fun E => ?_)
  refine fr_aload_n d_F_relay_0 rfl ?_
  refine fr_geti d_F_relay_1 fl_F_30 rfl rfl (Or.inr ⟨rfl, rfl⟩) ?_
  refine fr_bipush d_F_relay_4 fr_b8 ?_
  refine fr_icmp_ge 24 d_F_relay_6 rfl (fun h => absurd h (by rw [fw_cnt hw]; exact nI_ge (b := 8) h8 (by decide))) (fun _ => ?_)
  refine fr_aload_n d_F_relay_9 rfl ?_
  refine fr_geti d_F_relay_10 fl_F_34 rfl rfl (Or.inr ⟨rfl, rfl⟩) ?_
  refine fr_if_ne 24 d_F_relay_13 rfl (fun h => absurd h0 h) (fun _ => ?_)
  refine fr_aload_n d_F_relay_16 rfl ?_
  refine fr_iload_n d_F_relay_17 rfl ?_
  refine fr_callVi fr_q0 d_F_relay_18 (ct_F_isPlaceFor X n _ _ _) mv_F_37 rfl rfl rfl (Or.inr ⟨rfl, rfl⟩) rfl rfl ⟨Nat.le_of_ble_eq_true rfl, Nat.le_of_ble_eq_true rfl⟩ ⟨rfl, rfl⟩ ⟨Nat.zero_le _, Nat.zero_le _⟩ (Nat.le_of_ble_eq_true rfl) (fun x I' J' hp1 => ?_)
  obtain ⟨rfl, rfl, rfl⟩ := hp1
  refine fr_if_ne 26 d_F_relay_21 rfl (fun _ => ?_) (fun h => absurd h hpl)
  refine fr_aload_n d_F_relay_26 rfl ?_
  refine fr_getr (k' := 1) (r' := 0) d_F_relay_27 fl_F_11 rfl rfl rfl (Or.inr ⟨rfl, rfl⟩) ?_
  refine fr_aload_n d_F_relay_30 rfl ?_
  refine fr_geti d_F_relay_31 fl_F_30 rfl rfl (Or.inr ⟨rfl, rfl⟩) ?_
  refine fz_new 7 n d_F_relay_34 nc_F_9 rfl dv_R (hX 7 n) (by decide) (by decide) ?_
  refine fr_dup d_F_relay_37 rfl ?_
  refine fr_iload_n d_F_relay_38 rfl ?_
  refine fz_callI (mc := 6) (ms := 48) d_F_relay_39 (ct_R_init X _ n (Or.inr ⟨rfl, rfl⟩) (by rw [hX]; show X.2.2.2 + 42 + 7 * n = X.2.2.2 + 41 + 7 * n + 1; omega) (by rw [hX]; show X.2.2.2 + 43 + 7 * n = X.2.2.2 + 41 + 7 * n + 1 + 1; omega) (by rw [hX]; show X.2.2.2 + 44 + 7 * n = X.2.2.2 + 41 + 7 * n + 1 + 1 + 1; omega) (by rw [hX]; show X.2.2.2 + 45 + 7 * n = X.2.2.2 + 41 + 7 * n + 1 + 1 + 1 + 1; omega) (by rw [hX]; show X.2.2.2 + 46 + 7 * n = X.2.2.2 + 41 + 7 * n + 1 + 1 + 1 + 1 + 1; omega) (by rw [hX]; show X.2.2.2 + 47 + 7 * n = X.2.2.2 + 41 + 7 * n + 1 + 1 + 1 + 1 + 1 + 1; omega) _ _ _) mi_F_41 rfl rfl ⟨Nat.le_of_ble_eq_true rfl, Nat.le_of_ble_eq_true rfl⟩ ⟨rfl, rfl⟩ ⟨by decide, by decide⟩ (Nat.le_of_ble_eq_true rfl) (fun I' J' hp1 => ?_)
  obtain ⟨rfl, rfl⟩ := hp1
  refine fz_aast fr_q2 n d_F_relay_42 rfl rfl rfl rfl (Or.inl (Or.inl (Or.inl (Or.inl (Or.inl (Or.inl (Or.inl (Or.inr ⟨rfl, rfl⟩)))))))) (Or.inl (Or.inl (Or.inl (Or.inl (Or.inl (Or.inl (Or.inr ⟨rfl, rfl⟩))))))) (fw_cnt hw) h8 (by decide) ?_
  refine fr_conv (Z2 := fr_Z0 X (n + 1)) (I2 := (fr_ui (fr_ui (fr_ui (fr_zi (fr_zi (fr_zi (fr_ui (fr_ui (fr_ui (fr_zi (fr_ui (fr_ui (fr_zi (fr_zi (fr_zi I 7 n) 8 n) 9 n) 8 n 3 100) 8 n 4 5) 10 n) 10 n 0 1) 7 n 6 10) 7 n 0 p1) 11 n) 12 n) 13 n) 11 n 3 1) 11 n 8 0) 11 n 0 (if p1 = (-1) then (0 : Int32) else 1))) (J2 := (fr_zj (fr_zj (fr_zj (fr_zj (fr_zj (fr_zj (fr_zj J 7 n) 8 n) 9 n) 10 n) 11 n) 12 n) 13 n)) (zz_rel_sz X n) (zz_rel_lv X n) (fun k r j h => ⟨zz_rel_p X n k r j h, rfl, rfl⟩) ?_
  refine fr_aload_n d_F_relay_43 rfl ?_
  refine fr_dup d_F_relay_44 rfl ?_
  refine fr_geti d_F_relay_45 fl_F_30 rfl rfl (Or.inr ⟨rfl, rfl⟩) ?_
  refine fr_iconst d_F_relay_48 fr_i1 ?_
  refine fr_iadd d_F_relay_49 ?_
  refine fr_puti d_F_relay_50 fl_F_30 rfl rfl (Or.inr ⟨rfl, rfl⟩) ?_
  refine fr_aload_n d_F_relay_53 rfl ?_
  refine fr_geti d_F_relay_54 fl_F_30 rfl rfl (Or.inr ⟨rfl, rfl⟩) ?_
  refine fr_iconst d_F_relay_57 fr_i1 ?_
  refine fr_isub d_F_relay_58 ?_
  exact fr_iret d_F_relay_59 rfl (fr_nar_i _) (by decide) (by decide) ⟨rfl, rfl, rfl⟩
def f_O_relay (I : fr_I) (m : Nat) (p1 : Int32) : Int32 × fr_I :=
  if (I 20 0 0) = 8 then
    ((-1), I)
  else
    if (I 20 0 1) = 0 then
      if (I 20 0 0) = 0 then
        if p1 = (-1) then
          ((((fr_ui (fr_ui (fr_ui (fr_ui (fr_ui (fr_ui (fr_ui I 42 0 m p1) 43 0 m 1) 48 0 m 100) 49 0 m 5) 52 0 m 10) 53 0 m 1) 20 0 0 (((fr_ui (fr_ui (fr_ui (fr_ui (fr_ui (fr_ui I 42 0 m p1) 43 0 m 1) 48 0 m 100) 49 0 m 5) 52 0 m 10) 53 0 m 1) 20 0 0) + 1)) 20 0 0) - 1), (fr_ui (fr_ui (fr_ui (fr_ui (fr_ui (fr_ui (fr_ui I 42 0 m p1) 43 0 m 1) 48 0 m 100) 49 0 m 5) 52 0 m 10) 53 0 m 1) 20 0 0 (((fr_ui (fr_ui (fr_ui (fr_ui (fr_ui (fr_ui I 42 0 m p1) 43 0 m 1) 48 0 m 100) 49 0 m 5) 52 0 m 10) 53 0 m 1) 20 0 0) + 1)))
        else
          ((-1), I)
      else
        if (f_O_none I p1) = 0 then
          ((((fr_ui (fr_ui (fr_ui (fr_ui (fr_ui (fr_ui (fr_ui I 42 0 m p1) 43 0 m 1) 48 0 m 100) 49 0 m 5) 52 0 m 10) 53 0 m 1) 20 0 0 (((fr_ui (fr_ui (fr_ui (fr_ui (fr_ui (fr_ui I 42 0 m p1) 43 0 m 1) 48 0 m 100) 49 0 m 5) 52 0 m 10) 53 0 m 1) 20 0 0) + 1)) 20 0 0) - 1), (fr_ui (fr_ui (fr_ui (fr_ui (fr_ui (fr_ui (fr_ui I 42 0 m p1) 43 0 m 1) 48 0 m 100) 49 0 m 5) 52 0 m 10) 53 0 m 1) 20 0 0 (((fr_ui (fr_ui (fr_ui (fr_ui (fr_ui (fr_ui I 42 0 m p1) 43 0 m 1) 48 0 m 100) 49 0 m 5) 52 0 m 10) 53 0 m 1) 20 0 0) + 1)))
        else
          ((-1), I)
    else
      ((-1), I)
set_option maxRecDepth 10000 in
theorem ct_O_relay (X : fr_X) (n : Nat) (m : Nat) (I : fr_I) (J : fr_J) (p1 : Int32) (hc : I 20 0 0 = nI m) (hm : m ≤ 8) : fr_Ct X y_O_relay c_O_relay 2 (some .int) (fr_rm 1) [.ref (fr_ad X 20 0), .int p1] (fr_Z0 X n) (fr_Z0 X n) I J (fr_pi (fun x I' J' => (f_O_relay I m p1).1 = x ∧ (f_O_relay I m p1).2 = I' ∧ J = J')) := by
  refine fr_ct (by decide) rfl rfl (Nat.le_of_ble_eq_true rfl) rfl (fun E => ?_)
  refine fr_aload_n d_O_relay_0 rfl ?_
  refine fr_geti d_O_relay_1 fl_O_111 rfl rfl (Or.inr ⟨rfl, rfl⟩) ?_
  refine fr_bipush d_O_relay_4 fr_b8 ?_
  refine fr_icmp_eq 39 d_O_relay_6 rfl (fun h1 => ?_) (fun h1 => ?_)
  · skip
    refine fr_iconst d_O_relay_39 fr_im1 ?_
    exact fr_iret d_O_relay_40 rfl (fr_nar_i _) (Nat.zero_le _) (Nat.zero_le _) (fr_tIx (by unfold f_O_relay; rw [if_pos h1]))
  · skip
    refine fr_aload_n d_O_relay_9 rfl ?_
    refine fr_geti d_O_relay_10 fl_O_115 rfl rfl (Or.inr ⟨rfl, rfl⟩) ?_
    refine fr_if_ne 39 d_O_relay_13 rfl (fun h2 => ?_) (fun h2 => ?_)
    · skip
      refine fr_iconst d_O_relay_39 fr_im1 ?_
      exact fr_iret d_O_relay_40 rfl (fr_nar_i _) (Nat.zero_le _) (Nat.zero_le _) (fr_tIx (by unfold f_O_relay; rw [if_neg h1, if_neg h2]))
    · skip
      refine fr_aload_n d_O_relay_16 rfl ?_
      refine fr_geti d_O_relay_17 fl_O_111 rfl rfl (Or.inr ⟨rfl, rfl⟩) ?_
      refine fr_if_ne 31 d_O_relay_20 rfl (fun h3 => ?_) (fun h3 => ?_)
      · skip
        refine fr_aload_n d_O_relay_31 rfl ?_
        refine fr_iload_n d_O_relay_32 rfl ?_
        refine fr_callVi fr_q6 d_O_relay_33 (ct_O_none X n _ _ _) mv_O_118 rfl rfl rfl (Or.inr ⟨rfl, rfl⟩) rfl rfl ⟨Nat.le_of_ble_eq_true rfl, Nat.le_of_ble_eq_true rfl⟩ ⟨rfl, rfl⟩ ⟨Nat.zero_le _, Nat.zero_le _⟩ (Nat.le_of_ble_eq_true rfl) (fun x I' J' hp4 => ?_)
        obtain ⟨rfl, rfl, rfl⟩ := hp4
        refine fr_if_eq 41 d_O_relay_36 rfl (fun h5 => ?_) (fun h5 => ?_)
        · skip
          refine fr_aload_n d_O_relay_41 rfl ?_
          refine fr_getr (k' := 42) (r' := 0) d_O_relay_42 fl_O_7 rfl rfl rfl (Or.inr ⟨rfl, rfl⟩) ?_
          refine fr_aload_n d_O_relay_45 rfl ?_
          refine fr_geti d_O_relay_46 fl_O_111 rfl rfl (Or.inr ⟨rfl, rfl⟩) ?_
          refine fr_iload_n d_O_relay_49 rfl ?_
          refine fr_iast (m) d_O_relay_50 rfl rfl (Or.inr ⟨rfl, rfl⟩) hc (fm_m8 hc hm h1) (by decide) ?_
          refine fr_aload_n d_O_relay_51 rfl ?_
          refine fr_getr (k' := 43) (r' := 0) d_O_relay_52 fl_O_13 rfl rfl rfl (Or.inr ⟨rfl, rfl⟩) ?_
          refine fr_aload_n d_O_relay_55 rfl ?_
          refine fr_geti d_O_relay_56 fl_O_111 rfl rfl (Or.inr ⟨rfl, rfl⟩) ?_
          refine fr_iconst d_O_relay_59 fr_i1 ?_
          refine fr_zast (m) d_O_relay_60 rfl rfl (Or.inr rfl) (Or.inr ⟨rfl, rfl⟩) hc (fm_m8 hc hm h1) (by decide) ?_
          refine fr_aload_n d_O_relay_61 rfl ?_
          refine fr_getr (k' := 48) (r' := 0) d_O_relay_62 fl_O_29 rfl rfl rfl (Or.inr ⟨rfl, rfl⟩) ?_
          refine fr_aload_n d_O_relay_65 rfl ?_
          refine fr_geti d_O_relay_66 fl_O_111 rfl rfl (Or.inr ⟨rfl, rfl⟩) ?_
          refine fr_bipush d_O_relay_69 fr_b100 ?_
          refine fr_iast (m) d_O_relay_71 rfl rfl (Or.inr ⟨rfl, rfl⟩) hc (fm_m8 hc hm h1) (by decide) ?_
          refine fr_aload_n d_O_relay_72 rfl ?_
          refine fr_getr (k' := 49) (r' := 0) d_O_relay_73 fl_O_32 rfl rfl rfl (Or.inr ⟨rfl, rfl⟩) ?_
          refine fr_aload_n d_O_relay_76 rfl ?_
          refine fr_geti d_O_relay_77 fl_O_111 rfl rfl (Or.inr ⟨rfl, rfl⟩) ?_
          refine fr_iconst d_O_relay_80 fr_i5 ?_
          refine fr_iast (m) d_O_relay_81 rfl rfl (Or.inr ⟨rfl, rfl⟩) hc (fm_m8 hc hm h1) (by decide) ?_
          refine fr_aload_n d_O_relay_82 rfl ?_
          refine fr_getr (k' := 52) (r' := 0) d_O_relay_83 fl_O_41 rfl rfl rfl (Or.inr ⟨rfl, rfl⟩) ?_
          refine fr_aload_n d_O_relay_86 rfl ?_
          refine fr_geti d_O_relay_87 fl_O_111 rfl rfl (Or.inr ⟨rfl, rfl⟩) ?_
          refine fr_bipush d_O_relay_90 fr_b10 ?_
          refine fr_iast (m) d_O_relay_92 rfl rfl (Or.inr ⟨rfl, rfl⟩) hc (fm_m8 hc hm h1) (by decide) ?_
          refine fr_aload_n d_O_relay_93 rfl ?_
          refine fr_getr (k' := 53) (r' := 0) d_O_relay_94 fl_O_44 rfl rfl rfl (Or.inr ⟨rfl, rfl⟩) ?_
          refine fr_aload_n d_O_relay_97 rfl ?_
          refine fr_geti d_O_relay_98 fl_O_111 rfl rfl (Or.inr ⟨rfl, rfl⟩) ?_
          refine fr_iconst d_O_relay_101 fr_i1 ?_
          refine fr_iast (m) d_O_relay_102 rfl rfl (Or.inr ⟨rfl, rfl⟩) hc (fm_m8 hc hm h1) (by decide) ?_
          refine fr_aload_n d_O_relay_103 rfl ?_
          refine fr_dup d_O_relay_104 rfl ?_
          refine fr_geti d_O_relay_105 fl_O_111 rfl rfl (Or.inr ⟨rfl, rfl⟩) ?_
          refine fr_iconst d_O_relay_108 fr_i1 ?_
          refine fr_iadd d_O_relay_109 ?_
          refine fr_puti d_O_relay_110 fl_O_111 rfl rfl (Or.inr ⟨rfl, rfl⟩) ?_
          refine fr_aload_n d_O_relay_113 rfl ?_
          refine fr_geti d_O_relay_114 fl_O_111 rfl rfl (Or.inr ⟨rfl, rfl⟩) ?_
          refine fr_iconst d_O_relay_117 fr_i1 ?_
          refine fr_isub d_O_relay_118 ?_
          exact fr_iret d_O_relay_119 rfl (fr_nar_i _) (Nat.zero_le _) (Nat.zero_le _) (fr_tIx (by unfold f_O_relay; rw [if_neg h1, if_pos h2, if_neg h3, if_pos h5]))
        · skip
          refine fr_iconst d_O_relay_39 fr_im1 ?_
          exact fr_iret d_O_relay_40 rfl (fr_nar_i _) (Nat.zero_le _) (Nat.zero_le _) (fr_tIx (by unfold f_O_relay; rw [if_neg h1, if_pos h2, if_neg h3, if_neg h5]))
      · skip
        refine fr_iload_n d_O_relay_23 rfl ?_
        refine fr_iconst d_O_relay_24 fr_im1 ?_
        refine fr_icmp_eq 41 d_O_relay_25 rfl (fun h6 => ?_) (fun h6 => ?_)
        · skip
          refine fr_aload_n d_O_relay_41 rfl ?_
          refine fr_getr (k' := 42) (r' := 0) d_O_relay_42 fl_O_7 rfl rfl rfl (Or.inr ⟨rfl, rfl⟩) ?_
          refine fr_aload_n d_O_relay_45 rfl ?_
          refine fr_geti d_O_relay_46 fl_O_111 rfl rfl (Or.inr ⟨rfl, rfl⟩) ?_
          refine fr_iload_n d_O_relay_49 rfl ?_
          refine fr_iast (m) d_O_relay_50 rfl rfl (Or.inr ⟨rfl, rfl⟩) hc (fm_m8 hc hm h1) (by decide) ?_
          refine fr_aload_n d_O_relay_51 rfl ?_
          refine fr_getr (k' := 43) (r' := 0) d_O_relay_52 fl_O_13 rfl rfl rfl (Or.inr ⟨rfl, rfl⟩) ?_
          refine fr_aload_n d_O_relay_55 rfl ?_
          refine fr_geti d_O_relay_56 fl_O_111 rfl rfl (Or.inr ⟨rfl, rfl⟩) ?_
          refine fr_iconst d_O_relay_59 fr_i1 ?_
          refine fr_zast (m) d_O_relay_60 rfl rfl (Or.inr rfl) (Or.inr ⟨rfl, rfl⟩) hc (fm_m8 hc hm h1) (by decide) ?_
          refine fr_aload_n d_O_relay_61 rfl ?_
          refine fr_getr (k' := 48) (r' := 0) d_O_relay_62 fl_O_29 rfl rfl rfl (Or.inr ⟨rfl, rfl⟩) ?_
          refine fr_aload_n d_O_relay_65 rfl ?_
          refine fr_geti d_O_relay_66 fl_O_111 rfl rfl (Or.inr ⟨rfl, rfl⟩) ?_
          refine fr_bipush d_O_relay_69 fr_b100 ?_
          refine fr_iast (m) d_O_relay_71 rfl rfl (Or.inr ⟨rfl, rfl⟩) hc (fm_m8 hc hm h1) (by decide) ?_
          refine fr_aload_n d_O_relay_72 rfl ?_
          refine fr_getr (k' := 49) (r' := 0) d_O_relay_73 fl_O_32 rfl rfl rfl (Or.inr ⟨rfl, rfl⟩) ?_
          refine fr_aload_n d_O_relay_76 rfl ?_
          refine fr_geti d_O_relay_77 fl_O_111 rfl rfl (Or.inr ⟨rfl, rfl⟩) ?_
          refine fr_iconst d_O_relay_80 fr_i5 ?_
          refine fr_iast (m) d_O_relay_81 rfl rfl (Or.inr ⟨rfl, rfl⟩) hc (fm_m8 hc hm h1) (by decide) ?_
          refine fr_aload_n d_O_relay_82 rfl ?_
          refine fr_getr (k' := 52) (r' := 0) d_O_relay_83 fl_O_41 rfl rfl rfl (Or.inr ⟨rfl, rfl⟩) ?_
          refine fr_aload_n d_O_relay_86 rfl ?_
          refine fr_geti d_O_relay_87 fl_O_111 rfl rfl (Or.inr ⟨rfl, rfl⟩) ?_
          refine fr_bipush d_O_relay_90 fr_b10 ?_
          refine fr_iast (m) d_O_relay_92 rfl rfl (Or.inr ⟨rfl, rfl⟩) hc (fm_m8 hc hm h1) (by decide) ?_
          refine fr_aload_n d_O_relay_93 rfl ?_
          refine fr_getr (k' := 53) (r' := 0) d_O_relay_94 fl_O_44 rfl rfl rfl (Or.inr ⟨rfl, rfl⟩) ?_
          refine fr_aload_n d_O_relay_97 rfl ?_
          refine fr_geti d_O_relay_98 fl_O_111 rfl rfl (Or.inr ⟨rfl, rfl⟩) ?_
          refine fr_iconst d_O_relay_101 fr_i1 ?_
          refine fr_iast (m) d_O_relay_102 rfl rfl (Or.inr ⟨rfl, rfl⟩) hc (fm_m8 hc hm h1) (by decide) ?_
          refine fr_aload_n d_O_relay_103 rfl ?_
          refine fr_dup d_O_relay_104 rfl ?_
          refine fr_geti d_O_relay_105 fl_O_111 rfl rfl (Or.inr ⟨rfl, rfl⟩) ?_
          refine fr_iconst d_O_relay_108 fr_i1 ?_
          refine fr_iadd d_O_relay_109 ?_
          refine fr_puti d_O_relay_110 fl_O_111 rfl rfl (Or.inr ⟨rfl, rfl⟩) ?_
          refine fr_aload_n d_O_relay_113 rfl ?_
          refine fr_geti d_O_relay_114 fl_O_111 rfl rfl (Or.inr ⟨rfl, rfl⟩) ?_
          refine fr_iconst d_O_relay_117 fr_i1 ?_
          refine fr_isub d_O_relay_118 ?_
          exact fr_iret d_O_relay_119 rfl (fr_nar_i _) (Nat.zero_le _) (Nat.zero_le _) (fr_tIx (by unfold f_O_relay; rw [if_neg h1, if_pos h2, if_pos h3, if_pos h6]))
        · skip
          refine fr_goto 39 d_O_relay_28 rfl ?_
          refine fr_iconst d_O_relay_39 fr_im1 ?_
          exact fr_iret d_O_relay_40 rfl (fr_nar_i _) (Nat.zero_le _) (Nat.zero_le _) (fr_tIx (by unfold f_O_relay; rw [if_neg h1, if_pos h2, if_pos h3, if_neg h6]))
theorem fc_O_relay {P : fr_I → Prop} (hP : fr_ost P) {I : fr_I} {m : Nat} {p1 : Int32} (h : P I) : P (f_O_relay I m p1).2 := by
  unfold f_O_relay
  refine fw_ite_2 (fun _ => ?_) (fun _ => ?_)
  · skip
    exact h
  · skip
    refine fw_ite_2 (fun _ => ?_) (fun _ => ?_)
    · skip
      refine fw_ite_2 (fun _ => ?_) (fun _ => ?_)
      · skip
        refine fw_ite_2 (fun _ => ?_) (fun _ => ?_)
        · skip
          exact (hP (k := 20) (by decide) (hP (k := 53) (by decide) (hP (k := 52) (by decide) (hP (k := 49) (by decide) (hP (k := 48) (by decide) (hP (k := 43) (by decide) (hP (k := 42) (by decide) h)))))))
        · skip
          exact h
      · skip
        refine fw_ite_2 (fun _ => ?_) (fun _ => ?_)
        · skip
          exact (hP (k := 20) (by decide) (hP (k := 53) (by decide) (hP (k := 52) (by decide) (hP (k := 49) (by decide) (hP (k := 48) (by decide) (hP (k := 43) (by decide) (hP (k := 42) (by decide) h)))))))
        · skip
          exact h
    · skip
      exact h

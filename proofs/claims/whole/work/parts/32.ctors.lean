set_option maxRecDepth 10000 in
theorem ct_B_init (X : fr_X) (Z : fr_Z) (r : Nat) (hl : Z.2.1 10 r) (I : fr_I) (J : fr_J)   : fr_Ct X y_B_init c_B_init 1 none (fr_rmc 1 0 0) [.ref (fr_ad X 10 r)] Z Z I J (fr_pv (fun I' J' => (fr_ui I 10 r 0 1) = I' ∧ J = J')) := by
  refine fr_ct (by decide) rfl rfl (Nat.le_of_ble_eq_true rfl) rfl (fun E => ?_)
  refine fr_aload_n d_B_init_0 rfl ?_
  refine fr_oinit d_B_init_1 ml_B_1 mw_oi1 mw_oi2 (by decide) (Nat.le_of_ble_eq_true rfl) ?_
  refine fr_aload_n d_B_init_4 rfl ?_
  refine fr_iconst d_B_init_5 fr_i1 ?_
  refine fr_putFi fr_q4 d_B_init_6 fl_B_7 rfl rfl rfl rfl rfl (fr_nar_b (Or.inr rfl)) (fr_fits_b (Or.inr rfl)) hl ?_
  exact fr_vret d_B_init_9 rfl (by decide) (by decide) ⟨rfl, rfl⟩
set_option maxRecDepth 10000 in
theorem ct_M_init (X : fr_X) (Z : fr_Z) (r : Nat) (hl : Z.2.1 8 r) (h9 : fr_ad X 9 r = Z.2.2) (I : fr_I) (J : fr_J)   : fr_Ct X y_M_init c_M_init 1 none (fr_rmc 1 1 4) [.ref (fr_ad X 8 r)] Z (zz_pr (zz_na Z 9 r) 8 r 0 9 r) I J (fr_pv (fun I' J' => (fr_ui (fr_ui (fr_zi I 9 r) 8 r 3 100) 8 r 4 5) = I' ∧ (fr_zj J 9 r) = J')) := by
  refine fr_ct (by decide) rfl rfl (Nat.le_of_ble_eq_true rfl) rfl (fun E => ?_)
  refine fr_aload_n d_M_init_0 rfl ?_
  refine fr_oinit d_M_init_1 ml_M_1 mw_oi1 mw_oi2 (by decide) (Nat.le_of_ble_eq_true rfl) ?_
  refine fr_aload_n d_M_init_4 rfl ?_
  refine fr_iconst d_M_init_5 fr_i4 ?_
  refine fz_newa 9 r d_M_init_6 mw_aint rfl (fun _ => rfl) (by decide) (by decide) (by decide) h9 (by decide) (by decide) ?_
  refine fz_putr fr_q3 d_M_init_8 fl_M_9 rfl rfl rfl rfl rfl rfl rfl (Or.inl hl) ?_
  refine fr_aload_n d_M_init_11 rfl ?_
  refine fr_bipush d_M_init_12 fr_b100 ?_
  refine fr_putFi fr_q3 d_M_init_14 fl_M_13 rfl rfl rfl rfl rfl (fr_nar_i _) (fr_fits_i _) (Or.inl hl) ?_
  refine fr_aload_n d_M_init_17 rfl ?_
  refine fr_iconst d_M_init_18 fr_i5 ?_
  refine fr_putFi fr_q3 d_M_init_19 fl_M_17 rfl rfl rfl rfl rfl (fr_nar_i _) (fr_fits_i _) (Or.inl hl) ?_
  exact fr_vret d_M_init_22 rfl (by decide) (by decide) ⟨rfl, rfl⟩
set_option maxRecDepth 10000 in
theorem ct_W_init (X : fr_X) (Z : fr_Z) (r : Nat) (hl : Z.2.1 11 r) (h12 : fr_ad X 12 r = Z.2.2) (h13 : fr_ad X 13 r = Z.2.2 + 1) (I : fr_I) (J : fr_J) (p1 : Int32) (hb : p1 = 0 ∨ p1 = 1) : fr_Ct X y_W_init c_W_init 2 none (fr_rmc 1 2 16) [.ref (fr_ad X 11 r), .int p1] Z (zz_pr (zz_na (zz_pr (zz_na Z 12 r) 11 r 1 12 r) 13 r) 11 r 2 13 r) I J (fr_pv (fun I' J' => (fr_ui (fr_ui (fr_ui (fr_zi (fr_zi I 12 r) 13 r) 11 r 3 1) 11 r 8 0) 11 r 0 p1) = I' ∧ (fr_zj (fr_zj J 12 r) 13 r) = J')) := by
  refine fr_ct (by decide) rfl rfl (Nat.le_of_ble_eq_true rfl) rfl (fun E => ?_)
  refine fr_aload_n d_W_init_0 rfl ?_
  refine fr_oinit d_W_init_1 ml_W_1 mw_oi1 mw_oi2 (by decide) (Nat.le_of_ble_eq_true rfl) ?_
  refine fr_aload_n d_W_init_4 rfl ?_
  refine fr_bipush d_W_init_5 fr_b8 ?_
  refine fz_newa 12 r d_W_init_7 mw_aint rfl (fun _ => rfl) (by decide) (by decide) (by decide) h12 (by decide) (by decide) ?_
  refine fz_putr fr_q5 d_W_init_9 fl_W_9 rfl rfl rfl rfl rfl rfl rfl (Or.inl hl) ?_
  refine fr_aload_n d_W_init_12 rfl ?_
  refine fr_bipush d_W_init_13 fr_b8 ?_
  refine fz_newa 13 r d_W_init_15 mw_aint rfl (fun _ => rfl) (by decide) (by decide) (by decide) h13 (by decide) (by decide) ?_
  refine fz_putr fr_q5 d_W_init_17 fl_W_13 rfl rfl rfl rfl rfl rfl rfl (Or.inl (Or.inl hl)) ?_
  refine fr_aload_n d_W_init_20 rfl ?_
  refine fr_iconst d_W_init_21 fr_i1 ?_
  refine fr_putFi fr_q5 d_W_init_22 fl_W_16 rfl rfl rfl rfl rfl (fr_nar_i _) (fr_fits_i _) (Or.inl (Or.inl hl)) ?_
  refine fr_aload_n d_W_init_25 rfl ?_
  refine fr_iconst d_W_init_26 fr_i0 ?_
  refine fr_putFi fr_q5 d_W_init_27 fl_W_20 rfl rfl rfl rfl rfl (fr_nar_i _) (fr_fits_i _) (Or.inl (Or.inl hl)) ?_
  refine fr_aload_n d_W_init_30 rfl ?_
  refine fr_iload_n d_W_init_31 rfl ?_
  refine fr_putFi fr_q5 d_W_init_32 fl_W_23 rfl rfl rfl rfl rfl (fr_nar_b hb) (fr_fits_b hb) (Or.inl (Or.inl hl)) ?_
  exact fr_vret d_W_init_35 rfl (by decide) (by decide) ⟨rfl, rfl⟩
set_option maxRecDepth 10000 in
theorem ct_J_init (X : fr_X) (Z : fr_Z) (hl : Z.2.1 4 0) (h5 : fr_ad X 5 0 = Z.2.2) (h6 : fr_ad X 6 0 = Z.2.2 + 1) (I : fr_I) (J : fr_J)   : fr_Ct X y_J_init c_J_init 1 none (fr_rmc 1 2 400) [.ref (fr_ad X 4 0)] Z (zz_pr (zz_na (zz_pr (zz_na Z 5 0) 4 0 0 5 0) 6 0) 4 0 1 6 0) I J (fr_pv (fun I' J' => (fr_zi (fr_zi I 5 0) 6 0) = I' ∧ (fr_zj (fr_zj J 5 0) 6 0) = J')) := by
  refine fr_ct (by decide) rfl rfl (Nat.le_of_ble_eq_true rfl) rfl (fun E => ?_)
  refine fr_aload_n d_J_init_0 rfl ?_
  refine fr_oinit d_J_init_1 ml_J_1 mw_oi1 mw_oi2 (by decide) (Nat.le_of_ble_eq_true rfl) ?_
  refine fr_aload_n d_J_init_4 rfl ?_
  refine fr_sipush d_J_init_5 fr_s200 ?_
  refine fz_newa 5 0 d_J_init_8 mw_aint rfl (fun _ => rfl) (by decide) (by decide) (by decide) h5 (by decide) (by decide) ?_
  refine fz_putr fr_q1 d_J_init_10 fl_J_9 rfl rfl rfl rfl rfl rfl rfl (Or.inl hl) ?_
  refine fr_aload_n d_J_init_13 rfl ?_
  refine fr_sipush d_J_init_14 fr_s200 ?_
  refine fz_newa 6 0 d_J_init_17 mw_aint rfl (fun _ => rfl) (by decide) (by decide) (by decide) h6 (by decide) (by decide) ?_
  refine fz_putr fr_q1 d_J_init_19 fl_J_13 rfl rfl rfl rfl rfl rfl rfl (Or.inl (Or.inl hl)) ?_
  exact fr_vret d_J_init_22 rfl (by decide) (by decide) ⟨rfl, rfl⟩
set_option maxRecDepth 10000 in
theorem ct_R_init (X : fr_X) (Z : fr_Z) (r : Nat) (hl : Z.2.1 7 r) (h8 : fr_ad X 8 r = Z.2.2) (h9 : fr_ad X 9 r = Z.2.2 + 1) (h10 : fr_ad X 10 r = Z.2.2 + 1 + 1) (h11 : fr_ad X 11 r = Z.2.2 + 1 + 1 + 1) (h12 : fr_ad X 12 r = Z.2.2 + 1 + 1 + 1 + 1) (h13 : fr_ad X 13 r = Z.2.2 + 1 + 1 + 1 + 1 + 1) (I : fr_I) (J : fr_J) (p1 : Int32)  : fr_Ct X y_R_init c_R_init 2 none (fr_rmc 2 6 48) [.ref (fr_ad X 7 r), .int p1] Z (zz_pr (zz_pr (zz_na (zz_pr (zz_na (zz_na (zz_pr (zz_na (zz_pr (zz_pr (zz_na (zz_na Z 8 r) 9 r) 8 r 0 9 r) 7 r 1 8 r) 10 r) 7 r 2 10 r) 11 r) 12 r) 11 r 1 12 r) 13 r) 11 r 2 13 r) 7 r 3 11 r) I J (fr_pv (fun I' J' => (fr_ui (fr_ui (fr_ui (fr_zi (fr_zi (fr_zi (fr_ui (fr_ui (fr_ui (fr_zi (fr_ui (fr_ui (fr_zi (fr_zi I 8 r) 9 r) 8 r 3 100) 8 r 4 5) 10 r) 10 r 0 1) 7 r 6 10) 7 r 0 p1) 11 r) 12 r) 13 r) 11 r 3 1) 11 r 8 0) 11 r 0 (if p1 = (-1) then (0 : Int32) else 1)) = I' ∧ (fr_zj (fr_zj (fr_zj (fr_zj (fr_zj (fr_zj J 8 r) 9 r) 10 r) 11 r) 12 r) 13 r) = J')) := by
  refine fr_ct (by decide) rfl rfl (Nat.le_of_ble_eq_true rfl) rfl (fun E => ?_)
  refine fr_aload_n d_R_init_0 rfl ?_
  refine fr_oinit d_R_init_1 ml_R_3 mw_oi1 mw_oi2 (by decide) (Nat.le_of_ble_eq_true rfl) ?_
  refine fr_aload_n d_R_init_4 rfl ?_
  refine fz_new 8 r d_R_init_5 nc_R_9 rfl dv_M h8 (by decide) (by decide) ?_
  refine fr_dup d_R_init_8 rfl ?_
  refine fz_callN (mc := 1) (ms := 4) d_R_init_9 (ct_M_init X _ r (Or.inr ⟨rfl, rfl⟩) h9 _ _) mn_R_11 rfl rfl ⟨Nat.le_of_ble_eq_true rfl, Nat.le_of_ble_eq_true rfl⟩ ⟨rfl, rfl⟩ ⟨by decide, by decide⟩ (Nat.le_of_ble_eq_true rfl) (fun I' J' hp1 => ?_)
  obtain ⟨rfl, rfl⟩ := hp1
  refine fz_putr fr_q2 d_R_init_12 fl_R_12 rfl rfl rfl rfl rfl rfl rfl (Or.inl (Or.inl hl)) ?_
  refine fr_aload_n d_R_init_15 rfl ?_
  refine fz_new 10 r d_R_init_16 nc_R_18 rfl dv_B h10 (by decide) (by decide) ?_
  refine fr_dup d_R_init_19 rfl ?_
  refine fz_callN (mc := 0) (ms := 0) d_R_init_20 (ct_B_init X _ r (Or.inr ⟨rfl, rfl⟩) _ _) mn_R_20 rfl rfl ⟨Nat.le_of_ble_eq_true rfl, Nat.le_of_ble_eq_true rfl⟩ ⟨rfl, rfl⟩ ⟨by decide, by decide⟩ (Nat.le_of_ble_eq_true rfl) (fun I' J' hp2 => ?_)
  obtain ⟨rfl, rfl⟩ := hp2
  refine fz_putr fr_q2 d_R_init_23 fl_R_21 rfl rfl rfl rfl rfl rfl rfl (Or.inl (Or.inl (Or.inl hl))) ?_
  refine fr_aload_n d_R_init_26 rfl ?_
  refine fr_bipush d_R_init_27 fr_b10 ?_
  refine fr_putFi fr_q2 d_R_init_29 fl_R_25 rfl rfl rfl rfl rfl (fr_nar_i _) (fr_fits_i _) (Or.inl (Or.inl (Or.inl hl))) ?_
  refine fr_aload_n d_R_init_32 rfl ?_
  refine fr_iload_n d_R_init_33 rfl ?_
  refine fr_putFi fr_q2 d_R_init_34 fl_R_29 rfl rfl rfl rfl rfl (fr_nar_i _) (fr_fits_i _) (Or.inl (Or.inl (Or.inl hl))) ?_
  refine fr_aload_n d_R_init_37 rfl ?_
  refine fz_new 11 r d_R_init_38 nc_R_32 rfl dv_W h11 (by decide) (by decide) ?_
  refine fr_dup d_R_init_41 rfl ?_
  refine fr_iload_n d_R_init_42 rfl ?_
  refine fr_iconst d_R_init_43 fr_im1 ?_
  refine fr_ticmp_eq (t := 51) (j := 52) d_R_init_44 rfl (fun k => fr_iconst d_R_init_47 fr_i1 (fr_goto 52 d_R_init_48 rfl k)) (fun k => fr_iconst d_R_init_51 fr_i0 k) ?_
  refine fz_callI (mc := 2) (ms := 16) d_R_init_52 (ct_W_init X _ r (Or.inr ⟨rfl, rfl⟩) h12 h13 _ _ _ fr_if01) mi_R_34 rfl rfl ⟨Nat.le_of_ble_eq_true rfl, Nat.le_of_ble_eq_true rfl⟩ ⟨rfl, rfl⟩ ⟨by decide, by decide⟩ (Nat.le_of_ble_eq_true rfl) (fun I' J' hp3 => ?_)
  obtain ⟨rfl, rfl⟩ := hp3
  refine fz_putr fr_q2 d_R_init_55 fl_R_37 rfl rfl rfl rfl rfl rfl rfl (Or.inl (Or.inl (Or.inl (Or.inl (Or.inl (Or.inl hl)))))) ?_
  exact fr_vret d_R_init_58 rfl (by decide) (by decide) ⟨rfl, rfl⟩
set_option maxRecDepth 10000 in
theorem ct_F_init (X : fr_X) (Z : fr_Z) (hl : Z.2.1 0 0) (h1 : fr_ad X 1 0 = Z.2.2) (h2 : fr_ad X 2 0 = Z.2.2 + 1) (h3 : fr_ad X 3 0 = Z.2.2 + 1 + 1) (h4 : fr_ad X 4 0 = Z.2.2 + 1 + 1 + 1) (h5 : fr_ad X 5 0 = Z.2.2 + 1 + 1 + 1 + 1) (h6 : fr_ad X 6 0 = Z.2.2 + 1 + 1 + 1 + 1 + 1) (I : fr_I) (J : fr_J)   : fr_Ct X y_F_init c_F_init 1 none (fr_rmc 2 6 428) [.ref (fr_ad X 0 0)] Z (zz_pr (zz_pr (zz_na (zz_pr (zz_na (zz_na (zz_pr (zz_na (zz_pr (zz_na (zz_pr (zz_na Z 1 0) 0 0 0 1 0) 2 0) 0 0 1 2 0) 3 0) 0 0 2 3 0) 4 0) 5 0) 4 0 0 5 0) 6 0) 4 0 1 6 0) 0 0 3 4 0) I J (fr_pv (fun I' J' => (fr_zi (fr_zi (fr_zi (fr_zi (fr_zi (fr_zi I 1 0) 2 0) 3 0) 4 0) 5 0) 6 0) = I' ∧ (fr_zj (fr_zj (fr_zj (fr_zj (fr_zj (fr_zj J 1 0) 2 0) 3 0) 4 0) 5 0) 6 0) = J')) := by
  refine fr_ct (by decide) rfl rfl (Nat.le_of_ble_eq_true rfl) rfl (fun E => ?_)
  refine fr_aload_n d_F_init_0 rfl ?_
  refine fr_oinit d_F_init_1 ml_F_1 mw_oi1 mw_oi2 (by decide) (Nat.le_of_ble_eq_true rfl) ?_
  refine fr_aload_n d_F_init_4 rfl ?_
  refine fr_bipush d_F_init_5 fr_b8 ?_
  refine fz_anew 1 0 d_F_init_7 na_F_9 rfl (fun _ => rfl) (by decide) (by decide) (by decide) h1 (by decide) (by decide) ?_
  refine fz_putr fr_q0 d_F_init_10 fl_F_11 rfl rfl rfl rfl rfl rfl rfl (Or.inl hl) ?_
  refine fr_aload_n d_F_init_13 rfl ?_
  refine fr_bipush d_F_init_14 fr_b8 ?_
  refine fz_newa 2 0 d_F_init_16 mw_aint rfl (fun _ => rfl) (by decide) (by decide) (by decide) h2 (by decide) (by decide) ?_
  refine fz_putr fr_q0 d_F_init_18 fl_F_15 rfl rfl rfl rfl rfl rfl rfl (Or.inl (Or.inl hl)) ?_
  refine fr_aload_n d_F_init_21 rfl ?_
  refine fr_bipush d_F_init_22 fr_b8 ?_
  refine fz_newa 3 0 d_F_init_24 mw_aboolean rfl (fun _ => rfl) (by decide) (by decide) (by decide) h3 (by decide) (by decide) ?_
  refine fz_putr fr_q0 d_F_init_26 fl_F_19 rfl rfl rfl rfl rfl rfl rfl (Or.inl (Or.inl (Or.inl hl))) ?_
  refine fr_aload_n d_F_init_29 rfl ?_
  refine fz_new 4 0 d_F_init_30 nc_F_23 rfl dv_J h4 (by decide) (by decide) ?_
  refine fr_dup d_F_init_33 rfl ?_
  refine fz_callN (mc := 2) (ms := 400) d_F_init_34 (ct_J_init X _ (Or.inr ⟨rfl, rfl⟩) h5 h6 _ _) mn_F_25 rfl rfl ⟨Nat.le_of_ble_eq_true rfl, Nat.le_of_ble_eq_true rfl⟩ ⟨rfl, rfl⟩ ⟨by decide, by decide⟩ (Nat.le_of_ble_eq_true rfl) (fun I' J' hp1 => ?_)
  obtain ⟨rfl, rfl⟩ := hp1
  refine fz_putr fr_q0 d_F_init_37 fl_F_26 rfl rfl rfl rfl rfl rfl rfl (Or.inl (Or.inl (Or.inl (Or.inl (Or.inl (Or.inl hl)))))) ?_
  exact fr_vret d_F_init_40 rfl (by decide) (by decide) ⟨rfl, rfl⟩
set_option maxRecDepth 10000 in
theorem ct_O_init (X : fr_X) (Z : fr_Z) (hl : Z.2.1 20 0) (h42 : fr_ad X 42 0 = Z.2.2) (h43 : fr_ad X 43 0 = Z.2.2 + 1) (h44 : fr_ad X 44 0 = Z.2.2 + 1 + 1) (h45 : fr_ad X 45 0 = Z.2.2 + 1 + 1 + 1) (h46 : fr_ad X 46 0 = Z.2.2 + 1 + 1 + 1 + 1) (h47 : fr_ad X 47 0 = Z.2.2 + 1 + 1 + 1 + 1 + 1) (h48 : fr_ad X 48 0 = Z.2.2 + 1 + 1 + 1 + 1 + 1 + 1) (h49 : fr_ad X 49 0 = Z.2.2 + 1 + 1 + 1 + 1 + 1 + 1 + 1) (h50 : fr_ad X 50 0 = Z.2.2 + 1 + 1 + 1 + 1 + 1 + 1 + 1 + 1) (h51 : fr_ad X 51 0 = Z.2.2 + 1 + 1 + 1 + 1 + 1 + 1 + 1 + 1 + 1) (h52 : fr_ad X 52 0 = Z.2.2 + 1 + 1 + 1 + 1 + 1 + 1 + 1 + 1 + 1 + 1) (h53 : fr_ad X 53 0 = Z.2.2 + 1 + 1 + 1 + 1 + 1 + 1 + 1 + 1 + 1 + 1 + 1) (h54 : fr_ad X 54 0 = Z.2.2 + 1 + 1 + 1 + 1 + 1 + 1 + 1 + 1 + 1 + 1 + 1 + 1) (h55 : fr_ad X 55 0 = Z.2.2 + 1 + 1 + 1 + 1 + 1 + 1 + 1 + 1 + 1 + 1 + 1 + 1 + 1) (h56 : fr_ad X 56 0 = Z.2.2 + 1 + 1 + 1 + 1 + 1 + 1 + 1 + 1 + 1 + 1 + 1 + 1 + 1 + 1) (h57 : fr_ad X 57 0 = Z.2.2 + 1 + 1 + 1 + 1 + 1 + 1 + 1 + 1 + 1 + 1 + 1 + 1 + 1 + 1 + 1) (h58 : fr_ad X 58 0 = Z.2.2 + 1 + 1 + 1 + 1 + 1 + 1 + 1 + 1 + 1 + 1 + 1 + 1 + 1 + 1 + 1 + 1) (h59 : fr_ad X 59 0 = Z.2.2 + 1 + 1 + 1 + 1 + 1 + 1 + 1 + 1 + 1 + 1 + 1 + 1 + 1 + 1 + 1 + 1 + 1) (h60 : fr_ad X 60 0 = Z.2.2 + 1 + 1 + 1 + 1 + 1 + 1 + 1 + 1 + 1 + 1 + 1 + 1 + 1 + 1 + 1 + 1 + 1 + 1) (h61 : fr_ad X 61 0 = Z.2.2 + 1 + 1 + 1 + 1 + 1 + 1 + 1 + 1 + 1 + 1 + 1 + 1 + 1 + 1 + 1 + 1 + 1 + 1 + 1) (h62 : fr_ad X 62 0 = Z.2.2 + 1 + 1 + 1 + 1 + 1 + 1 + 1 + 1 + 1 + 1 + 1 + 1 + 1 + 1 + 1 + 1 + 1 + 1 + 1 + 1) (h63 : fr_ad X 63 0 = Z.2.2 + 1 + 1 + 1 + 1 + 1 + 1 + 1 + 1 + 1 + 1 + 1 + 1 + 1 + 1 + 1 + 1 + 1 + 1 + 1 + 1 + 1) (h64 : fr_ad X 64 0 = Z.2.2 + 1 + 1 + 1 + 1 + 1 + 1 + 1 + 1 + 1 + 1 + 1 + 1 + 1 + 1 + 1 + 1 + 1 + 1 + 1 + 1 + 1 + 1) (h65 : fr_ad X 65 0 = Z.2.2 + 1 + 1 + 1 + 1 + 1 + 1 + 1 + 1 + 1 + 1 + 1 + 1 + 1 + 1 + 1 + 1 + 1 + 1 + 1 + 1 + 1 + 1 + 1) (h66 : fr_ad X 66 0 = Z.2.2 + 1 + 1 + 1 + 1 + 1 + 1 + 1 + 1 + 1 + 1 + 1 + 1 + 1 + 1 + 1 + 1 + 1 + 1 + 1 + 1 + 1 + 1 + 1 + 1) (h67 : fr_ad X 67 0 = Z.2.2 + 1 + 1 + 1 + 1 + 1 + 1 + 1 + 1 + 1 + 1 + 1 + 1 + 1 + 1 + 1 + 1 + 1 + 1 + 1 + 1 + 1 + 1 + 1 + 1 + 1) (h68 : fr_ad X 68 0 = Z.2.2 + 1 + 1 + 1 + 1 + 1 + 1 + 1 + 1 + 1 + 1 + 1 + 1 + 1 + 1 + 1 + 1 + 1 + 1 + 1 + 1 + 1 + 1 + 1 + 1 + 1 + 1) (h69 : fr_ad X 69 0 = Z.2.2 + 1 + 1 + 1 + 1 + 1 + 1 + 1 + 1 + 1 + 1 + 1 + 1 + 1 + 1 + 1 + 1 + 1 + 1 + 1 + 1 + 1 + 1 + 1 + 1 + 1 + 1 + 1) (h70 : fr_ad X 70 0 = Z.2.2 + 1 + 1 + 1 + 1 + 1 + 1 + 1 + 1 + 1 + 1 + 1 + 1 + 1 + 1 + 1 + 1 + 1 + 1 + 1 + 1 + 1 + 1 + 1 + 1 + 1 + 1 + 1 + 1) (h71 : fr_ad X 71 0 = Z.2.2 + 1 + 1 + 1 + 1 + 1 + 1 + 1 + 1 + 1 + 1 + 1 + 1 + 1 + 1 + 1 + 1 + 1 + 1 + 1 + 1 + 1 + 1 + 1 + 1 + 1 + 1 + 1 + 1 + 1) (h72 : fr_ad X 72 0 = Z.2.2 + 1 + 1 + 1 + 1 + 1 + 1 + 1 + 1 + 1 + 1 + 1 + 1 + 1 + 1 + 1 + 1 + 1 + 1 + 1 + 1 + 1 + 1 + 1 + 1 + 1 + 1 + 1 + 1 + 1 + 1) (h75 : fr_ad X 75 0 = Z.2.2 + 1 + 1 + 1 + 1 + 1 + 1 + 1 + 1 + 1 + 1 + 1 + 1 + 1 + 1 + 1 + 1 + 1 + 1 + 1 + 1 + 1 + 1 + 1 + 1 + 1 + 1 + 1 + 1 + 1 + 1 + 1) (h76 : fr_ad X 76 0 = Z.2.2 + 1 + 1 + 1 + 1 + 1 + 1 + 1 + 1 + 1 + 1 + 1 + 1 + 1 + 1 + 1 + 1 + 1 + 1 + 1 + 1 + 1 + 1 + 1 + 1 + 1 + 1 + 1 + 1 + 1 + 1 + 1 + 1) (I : fr_I) (J : fr_J)   : fr_Ct X y_O_init c_O_init 1 none (fr_rmc 1 33 912) [.ref (fr_ad X 20 0)] Z (zz_pr (zz_na (zz_pr (zz_na (zz_pr (zz_na (zz_pr (zz_na (zz_pr (zz_na (zz_pr (zz_na (zz_pr (zz_na (zz_pr (zz_na (zz_pr (zz_na (zz_pr (zz_na (zz_pr (zz_na (zz_pr (zz_na (zz_pr (zz_na (zz_pr (zz_na (zz_pr (zz_na (zz_pr (zz_na (zz_pr (zz_na (zz_pr (zz_na (zz_pr (zz_na (zz_pr (zz_na (zz_pr (zz_na (zz_pr (zz_na (zz_pr (zz_na (zz_pr (zz_na (zz_pr (zz_na (zz_pr (zz_na (zz_pr (zz_na (zz_pr (zz_na (zz_pr (zz_na (zz_pr (zz_na (zz_pr (zz_na (zz_pr (zz_na (zz_pr (zz_na Z 42 0) 20 0 2 42 0) 43 0) 20 0 3 43 0) 44 0) 20 0 4 44 0) 45 0) 20 0 5 45 0) 46 0) 20 0 6 46 0) 47 0) 20 0 7 47 0) 48 0) 20 0 8 48 0) 49 0) 20 0 9 49 0) 50 0) 20 0 10 50 0) 51 0) 20 0 11 51 0) 52 0) 20 0 12 52 0) 53 0) 20 0 13 53 0) 54 0) 20 0 14 54 0) 55 0) 20 0 15 55 0) 56 0) 20 0 16 56 0) 57 0) 20 0 17 57 0) 58 0) 20 0 18 58 0) 59 0) 20 0 19 59 0) 60 0) 20 0 20 60 0) 61 0) 20 0 21 61 0) 62 0) 20 0 22 62 0) 63 0) 20 0 23 63 0) 64 0) 20 0 24 64 0) 65 0) 20 0 25 65 0) 66 0) 20 0 26 66 0) 67 0) 20 0 27 67 0) 68 0) 20 0 28 68 0) 69 0) 20 0 29 69 0) 70 0) 20 0 30 70 0) 71 0) 20 0 31 71 0) 72 0) 20 0 32 72 0) 75 0) 20 0 35 75 0) 76 0) 20 0 36 76 0) I J (fr_pv (fun I' J' => (fr_zi (fr_zi (fr_zi (fr_zi (fr_zi (fr_zi (fr_zi (fr_zi (fr_zi (fr_zi (fr_zi (fr_zi (fr_zi (fr_zi (fr_zi (fr_zi (fr_zi (fr_zi (fr_zi (fr_zi (fr_zi (fr_zi (fr_zi (fr_zi (fr_zi (fr_zi (fr_zi (fr_zi (fr_zi (fr_zi (fr_zi (fr_zi (fr_zi I 42 0) 43 0) 44 0) 45 0) 46 0) 47 0) 48 0) 49 0) 50 0) 51 0) 52 0) 53 0) 54 0) 55 0) 56 0) 57 0) 58 0) 59 0) 60 0) 61 0) 62 0) 63 0) 64 0) 65 0) 66 0) 67 0) 68 0) 69 0) 70 0) 71 0) 72 0) 75 0) 76 0) = I' ∧ (fr_zj (fr_zj (fr_zj (fr_zj (fr_zj (fr_zj (fr_zj (fr_zj (fr_zj (fr_zj (fr_zj (fr_zj (fr_zj (fr_zj (fr_zj (fr_zj (fr_zj (fr_zj (fr_zj (fr_zj (fr_zj (fr_zj (fr_zj (fr_zj (fr_zj (fr_zj (fr_zj (fr_zj (fr_zj (fr_zj (fr_zj (fr_zj (fr_zj J 42 0) 43 0) 44 0) 45 0) 46 0) 47 0) 48 0) 49 0) 50 0) 51 0) 52 0) 53 0) 54 0) 55 0) 56 0) 57 0) 58 0) 59 0) 60 0) 61 0) 62 0) 63 0) 64 0) 65 0) 66 0) 67 0) 68 0) 69 0) 70 0) 71 0) 72 0) 75 0) 76 0) = J')) := by
  refine fr_ct (by decide) rfl rfl (Nat.le_of_ble_eq_true rfl) rfl (fun E => ?_)
  refine fr_aload_n d_O_init_0 rfl ?_
  refine fr_oinit d_O_init_1 ml_O_1 mw_oi1 mw_oi2 (by decide) (Nat.le_of_ble_eq_true rfl) ?_
  refine fr_aload_n d_O_init_4 rfl ?_
  refine fr_bipush d_O_init_5 fr_b8 ?_
  refine fz_newa 42 0 d_O_init_7 mw_aint rfl (fun _ => rfl) (by decide) (by decide) (by decide) h42 (by decide) (by decide) ?_
  refine fz_putr fr_q6 d_O_init_9 fl_O_7 rfl rfl rfl rfl rfl rfl rfl (Or.inl hl) ?_
  refine fr_aload_n d_O_init_12 rfl ?_
  refine fr_bipush d_O_init_13 fr_b8 ?_
  refine fz_newa 43 0 d_O_init_15 mw_aboolean rfl (fun _ => rfl) (by decide) (by decide) (by decide) h43 (by decide) (by decide) ?_
  refine fz_putr fr_q6 d_O_init_17 fl_O_13 rfl rfl rfl rfl rfl rfl rfl (Or.inl (Or.inl hl)) ?_
  refine fr_aload_n d_O_init_20 rfl ?_
  refine fr_bipush d_O_init_21 fr_b8 ?_
  refine fz_newa 44 0 d_O_init_23 mw_aboolean rfl (fun _ => rfl) (by decide) (by decide) (by decide) h44 (by decide) (by decide) ?_
  refine fz_putr fr_q6 d_O_init_25 fl_O_17 rfl rfl rfl rfl rfl rfl rfl (Or.inl (Or.inl (Or.inl hl))) ?_
  refine fr_aload_n d_O_init_28 rfl ?_
  refine fr_bipush d_O_init_29 fr_b8 ?_
  refine fz_newa 45 0 d_O_init_31 mw_aint rfl (fun _ => rfl) (by decide) (by decide) (by decide) h45 (by decide) (by decide) ?_
  refine fz_putr fr_q6 d_O_init_33 fl_O_20 rfl rfl rfl rfl rfl rfl rfl (Or.inl (Or.inl (Or.inl (Or.inl hl)))) ?_
  refine fr_aload_n d_O_init_36 rfl ?_
  refine fr_bipush d_O_init_37 fr_b8 ?_
  refine fz_newa 46 0 d_O_init_39 mw_aint rfl (fun _ => rfl) (by decide) (by decide) (by decide) h46 (by decide) (by decide) ?_
  refine fz_putr fr_q6 d_O_init_41 fl_O_23 rfl rfl rfl rfl rfl rfl rfl (Or.inl (Or.inl (Or.inl (Or.inl (Or.inl hl))))) ?_
  refine fr_aload_n d_O_init_44 rfl ?_
  refine fr_bipush d_O_init_45 fr_b8 ?_
  refine fz_newa 47 0 d_O_init_47 mw_aint rfl (fun _ => rfl) (by decide) (by decide) (by decide) h47 (by decide) (by decide) ?_
  refine fz_putr fr_q6 d_O_init_49 fl_O_26 rfl rfl rfl rfl rfl rfl rfl (Or.inl (Or.inl (Or.inl (Or.inl (Or.inl (Or.inl hl)))))) ?_
  refine fr_aload_n d_O_init_52 rfl ?_
  refine fr_bipush d_O_init_53 fr_b8 ?_
  refine fz_newa 48 0 d_O_init_55 mw_aint rfl (fun _ => rfl) (by decide) (by decide) (by decide) h48 (by decide) (by decide) ?_
  refine fz_putr fr_q6 d_O_init_57 fl_O_29 rfl rfl rfl rfl rfl rfl rfl (Or.inl (Or.inl (Or.inl (Or.inl (Or.inl (Or.inl (Or.inl hl))))))) ?_
  refine fr_aload_n d_O_init_60 rfl ?_
  refine fr_bipush d_O_init_61 fr_b8 ?_
  refine fz_newa 49 0 d_O_init_63 mw_aint rfl (fun _ => rfl) (by decide) (by decide) (by decide) h49 (by decide) (by decide) ?_
  refine fz_putr fr_q6 d_O_init_65 fl_O_32 rfl rfl rfl rfl rfl rfl rfl (Or.inl (Or.inl (Or.inl (Or.inl (Or.inl (Or.inl (Or.inl (Or.inl hl)))))))) ?_
  refine fr_aload_n d_O_init_68 rfl ?_
  refine fr_bipush d_O_init_69 fr_b8 ?_
  refine fz_newa 50 0 d_O_init_71 mw_aboolean rfl (fun _ => rfl) (by decide) (by decide) (by decide) h50 (by decide) (by decide) ?_
  refine fz_putr fr_q6 d_O_init_73 fl_O_35 rfl rfl rfl rfl rfl rfl rfl (Or.inl (Or.inl (Or.inl (Or.inl (Or.inl (Or.inl (Or.inl (Or.inl (Or.inl hl))))))))) ?_
  refine fr_aload_n d_O_init_76 rfl ?_
  refine fr_bipush d_O_init_77 fr_b8 ?_
  refine fz_newa 51 0 d_O_init_79 mw_aint rfl (fun _ => rfl) (by decide) (by decide) (by decide) h51 (by decide) (by decide) ?_
  refine fz_putr fr_q6 d_O_init_81 fl_O_38 rfl rfl rfl rfl rfl rfl rfl (Or.inl (Or.inl (Or.inl (Or.inl (Or.inl (Or.inl (Or.inl (Or.inl (Or.inl (Or.inl hl)))))))))) ?_
  refine fr_aload_n d_O_init_84 rfl ?_
  refine fr_bipush d_O_init_85 fr_b8 ?_
  refine fz_newa 52 0 d_O_init_87 mw_aint rfl (fun _ => rfl) (by decide) (by decide) (by decide) h52 (by decide) (by decide) ?_
  refine fz_putr fr_q6 d_O_init_89 fl_O_41 rfl rfl rfl rfl rfl rfl rfl (Or.inl (Or.inl (Or.inl (Or.inl (Or.inl (Or.inl (Or.inl (Or.inl (Or.inl (Or.inl (Or.inl hl))))))))))) ?_
  refine fr_aload_n d_O_init_92 rfl ?_
  refine fr_bipush d_O_init_93 fr_b8 ?_
  refine fz_newa 53 0 d_O_init_95 mw_aint rfl (fun _ => rfl) (by decide) (by decide) (by decide) h53 (by decide) (by decide) ?_
  refine fz_putr fr_q6 d_O_init_97 fl_O_44 rfl rfl rfl rfl rfl rfl rfl (Or.inl (Or.inl (Or.inl (Or.inl (Or.inl (Or.inl (Or.inl (Or.inl (Or.inl (Or.inl (Or.inl (Or.inl hl)))))))))))) ?_
  refine fr_aload_n d_O_init_100 rfl ?_
  refine fr_bipush d_O_init_101 fr_b32 ?_
  refine fz_newa 54 0 d_O_init_103 mw_aint rfl (fun _ => rfl) (by decide) (by decide) (by decide) h54 (by decide) (by decide) ?_
  refine fz_putr fr_q6 d_O_init_105 fl_O_47 rfl rfl rfl rfl rfl rfl rfl (Or.inl (Or.inl (Or.inl (Or.inl (Or.inl (Or.inl (Or.inl (Or.inl (Or.inl (Or.inl (Or.inl (Or.inl (Or.inl hl))))))))))))) ?_
  refine fr_aload_n d_O_init_108 rfl ?_
  refine fr_bipush d_O_init_109 fr_b8 ?_
  refine fz_newa 55 0 d_O_init_111 mw_along rfl (fun _ => rfl) (by decide) (by decide) (by decide) h55 (by decide) (by decide) ?_
  refine fz_putr fr_q6 d_O_init_113 fl_O_50 rfl rfl rfl rfl rfl rfl rfl (Or.inl (Or.inl (Or.inl (Or.inl (Or.inl (Or.inl (Or.inl (Or.inl (Or.inl (Or.inl (Or.inl (Or.inl (Or.inl (Or.inl hl)))))))))))))) ?_
  refine fr_aload_n d_O_init_116 rfl ?_
  refine fr_bipush d_O_init_117 fr_b8 ?_
  refine fz_newa 56 0 d_O_init_119 mw_aboolean rfl (fun _ => rfl) (by decide) (by decide) (by decide) h56 (by decide) (by decide) ?_
  refine fz_putr fr_q6 d_O_init_121 fl_O_54 rfl rfl rfl rfl rfl rfl rfl (Or.inl (Or.inl (Or.inl (Or.inl (Or.inl (Or.inl (Or.inl (Or.inl (Or.inl (Or.inl (Or.inl (Or.inl (Or.inl (Or.inl (Or.inl hl))))))))))))))) ?_
  refine fr_aload_n d_O_init_124 rfl ?_
  refine fr_bipush d_O_init_125 fr_b8 ?_
  refine fz_newa 57 0 d_O_init_127 mw_aint rfl (fun _ => rfl) (by decide) (by decide) (by decide) h57 (by decide) (by decide) ?_
  refine fz_putr fr_q6 d_O_init_129 fl_O_57 rfl rfl rfl rfl rfl rfl rfl (Or.inl (Or.inl (Or.inl (Or.inl (Or.inl (Or.inl (Or.inl (Or.inl (Or.inl (Or.inl (Or.inl (Or.inl (Or.inl (Or.inl (Or.inl (Or.inl hl)))))))))))))))) ?_
  refine fr_aload_n d_O_init_132 rfl ?_
  refine fr_bipush d_O_init_133 fr_b8 ?_
  refine fz_newa 58 0 d_O_init_135 mw_aint rfl (fun _ => rfl) (by decide) (by decide) (by decide) h58 (by decide) (by decide) ?_
  refine fz_putr fr_q6 d_O_init_137 fl_O_60 rfl rfl rfl rfl rfl rfl rfl (Or.inl (Or.inl (Or.inl (Or.inl (Or.inl (Or.inl (Or.inl (Or.inl (Or.inl (Or.inl (Or.inl (Or.inl (Or.inl (Or.inl (Or.inl (Or.inl (Or.inl hl))))))))))))))))) ?_
  refine fr_aload_n d_O_init_140 rfl ?_
  refine fr_bipush d_O_init_141 fr_b8 ?_
  refine fz_newa 59 0 d_O_init_143 mw_aint rfl (fun _ => rfl) (by decide) (by decide) (by decide) h59 (by decide) (by decide) ?_
  refine fz_putr fr_q6 d_O_init_145 fl_O_63 rfl rfl rfl rfl rfl rfl rfl (Or.inl (Or.inl (Or.inl (Or.inl (Or.inl (Or.inl (Or.inl (Or.inl (Or.inl (Or.inl (Or.inl (Or.inl (Or.inl (Or.inl (Or.inl (Or.inl (Or.inl (Or.inl hl)))))))))))))))))) ?_
  refine fr_aload_n d_O_init_148 rfl ?_
  refine fr_bipush d_O_init_149 fr_b8 ?_
  refine fz_newa 60 0 d_O_init_151 mw_aint rfl (fun _ => rfl) (by decide) (by decide) (by decide) h60 (by decide) (by decide) ?_
  refine fz_putr fr_q6 d_O_init_153 fl_O_66 rfl rfl rfl rfl rfl rfl rfl (Or.inl (Or.inl (Or.inl (Or.inl (Or.inl (Or.inl (Or.inl (Or.inl (Or.inl (Or.inl (Or.inl (Or.inl (Or.inl (Or.inl (Or.inl (Or.inl (Or.inl (Or.inl (Or.inl hl))))))))))))))))))) ?_
  refine fr_aload_n d_O_init_156 rfl ?_
  refine fr_bipush d_O_init_157 fr_b8 ?_
  refine fz_newa 61 0 d_O_init_159 mw_aint rfl (fun _ => rfl) (by decide) (by decide) (by decide) h61 (by decide) (by decide) ?_
  refine fz_putr fr_q6 d_O_init_161 fl_O_69 rfl rfl rfl rfl rfl rfl rfl (Or.inl (Or.inl (Or.inl (Or.inl (Or.inl (Or.inl (Or.inl (Or.inl (Or.inl (Or.inl (Or.inl (Or.inl (Or.inl (Or.inl (Or.inl (Or.inl (Or.inl (Or.inl (Or.inl (Or.inl hl)))))))))))))))))))) ?_
  refine fr_aload_n d_O_init_164 rfl ?_
  refine fr_bipush d_O_init_165 fr_b8 ?_
  refine fz_newa 62 0 d_O_init_167 mw_aboolean rfl (fun _ => rfl) (by decide) (by decide) (by decide) h62 (by decide) (by decide) ?_
  refine fz_putr fr_q6 d_O_init_169 fl_O_72 rfl rfl rfl rfl rfl rfl rfl (Or.inl (Or.inl (Or.inl (Or.inl (Or.inl (Or.inl (Or.inl (Or.inl (Or.inl (Or.inl (Or.inl (Or.inl (Or.inl (Or.inl (Or.inl (Or.inl (Or.inl (Or.inl (Or.inl (Or.inl (Or.inl hl))))))))))))))))))))) ?_
  refine fr_aload_n d_O_init_172 rfl ?_
  refine fr_bipush d_O_init_173 fr_b8 ?_
  refine fz_newa 63 0 d_O_init_175 mw_aboolean rfl (fun _ => rfl) (by decide) (by decide) (by decide) h63 (by decide) (by decide) ?_
  refine fz_putr fr_q6 d_O_init_177 fl_O_75 rfl rfl rfl rfl rfl rfl rfl (Or.inl (Or.inl (Or.inl (Or.inl (Or.inl (Or.inl (Or.inl (Or.inl (Or.inl (Or.inl (Or.inl (Or.inl (Or.inl (Or.inl (Or.inl (Or.inl (Or.inl (Or.inl (Or.inl (Or.inl (Or.inl (Or.inl hl)))))))))))))))))))))) ?_
  refine fr_aload_n d_O_init_180 rfl ?_
  refine fr_bipush d_O_init_181 fr_b8 ?_
  refine fz_newa 64 0 d_O_init_183 mw_aint rfl (fun _ => rfl) (by decide) (by decide) (by decide) h64 (by decide) (by decide) ?_
  refine fz_putr fr_q6 d_O_init_185 fl_O_78 rfl rfl rfl rfl rfl rfl rfl (Or.inl (Or.inl (Or.inl (Or.inl (Or.inl (Or.inl (Or.inl (Or.inl (Or.inl (Or.inl (Or.inl (Or.inl (Or.inl (Or.inl (Or.inl (Or.inl (Or.inl (Or.inl (Or.inl (Or.inl (Or.inl (Or.inl (Or.inl hl))))))))))))))))))))))) ?_
  refine fr_aload_n d_O_init_188 rfl ?_
  refine fr_bipush d_O_init_189 fr_b8 ?_
  refine fz_newa 65 0 d_O_init_191 mw_aboolean rfl (fun _ => rfl) (by decide) (by decide) (by decide) h65 (by decide) (by decide) ?_
  refine fz_putr fr_q6 d_O_init_193 fl_O_81 rfl rfl rfl rfl rfl rfl rfl (Or.inl (Or.inl (Or.inl (Or.inl (Or.inl (Or.inl (Or.inl (Or.inl (Or.inl (Or.inl (Or.inl (Or.inl (Or.inl (Or.inl (Or.inl (Or.inl (Or.inl (Or.inl (Or.inl (Or.inl (Or.inl (Or.inl (Or.inl (Or.inl hl)))))))))))))))))))))))) ?_
  refine fr_aload_n d_O_init_196 rfl ?_
  refine fr_bipush d_O_init_197 fr_b8 ?_
  refine fz_newa 66 0 d_O_init_199 mw_aint rfl (fun _ => rfl) (by decide) (by decide) (by decide) h66 (by decide) (by decide) ?_
  refine fz_putr fr_q6 d_O_init_201 fl_O_84 rfl rfl rfl rfl rfl rfl rfl (Or.inl (Or.inl (Or.inl (Or.inl (Or.inl (Or.inl (Or.inl (Or.inl (Or.inl (Or.inl (Or.inl (Or.inl (Or.inl (Or.inl (Or.inl (Or.inl (Or.inl (Or.inl (Or.inl (Or.inl (Or.inl (Or.inl (Or.inl (Or.inl (Or.inl hl))))))))))))))))))))))))) ?_
  refine fr_aload_n d_O_init_204 rfl ?_
  refine fr_bipush d_O_init_205 fr_b8 ?_
  refine fz_newa 67 0 d_O_init_207 mw_aint rfl (fun _ => rfl) (by decide) (by decide) (by decide) h67 (by decide) (by decide) ?_
  refine fz_putr fr_q6 d_O_init_209 fl_O_87 rfl rfl rfl rfl rfl rfl rfl (Or.inl (Or.inl (Or.inl (Or.inl (Or.inl (Or.inl (Or.inl (Or.inl (Or.inl (Or.inl (Or.inl (Or.inl (Or.inl (Or.inl (Or.inl (Or.inl (Or.inl (Or.inl (Or.inl (Or.inl (Or.inl (Or.inl (Or.inl (Or.inl (Or.inl (Or.inl hl)))))))))))))))))))))))))) ?_
  refine fr_aload_n d_O_init_212 rfl ?_
  refine fr_bipush d_O_init_213 fr_b8 ?_
  refine fz_newa 68 0 d_O_init_215 mw_aint rfl (fun _ => rfl) (by decide) (by decide) (by decide) h68 (by decide) (by decide) ?_
  refine fz_putr fr_q6 d_O_init_217 fl_O_90 rfl rfl rfl rfl rfl rfl rfl (Or.inl (Or.inl (Or.inl (Or.inl (Or.inl (Or.inl (Or.inl (Or.inl (Or.inl (Or.inl (Or.inl (Or.inl (Or.inl (Or.inl (Or.inl (Or.inl (Or.inl (Or.inl (Or.inl (Or.inl (Or.inl (Or.inl (Or.inl (Or.inl (Or.inl (Or.inl (Or.inl hl))))))))))))))))))))))))))) ?_
  refine fr_aload_n d_O_init_220 rfl ?_
  refine fr_sipush d_O_init_221 fr_s128 ?_
  refine fz_newa 69 0 d_O_init_224 mw_aint rfl (fun _ => rfl) (by decide) (by decide) (by decide) h69 (by decide) (by decide) ?_
  refine fz_putr fr_q6 d_O_init_226 fl_O_93 rfl rfl rfl rfl rfl rfl rfl (Or.inl (Or.inl (Or.inl (Or.inl (Or.inl (Or.inl (Or.inl (Or.inl (Or.inl (Or.inl (Or.inl (Or.inl (Or.inl (Or.inl (Or.inl (Or.inl (Or.inl (Or.inl (Or.inl (Or.inl (Or.inl (Or.inl (Or.inl (Or.inl (Or.inl (Or.inl (Or.inl (Or.inl hl)))))))))))))))))))))))))))) ?_
  refine fr_aload_n d_O_init_229 rfl ?_
  refine fr_sipush d_O_init_230 fr_s128 ?_
  refine fz_newa 70 0 d_O_init_233 mw_aint rfl (fun _ => rfl) (by decide) (by decide) (by decide) h70 (by decide) (by decide) ?_
  refine fz_putr fr_q6 d_O_init_235 fl_O_96 rfl rfl rfl rfl rfl rfl rfl (Or.inl (Or.inl (Or.inl (Or.inl (Or.inl (Or.inl (Or.inl (Or.inl (Or.inl (Or.inl (Or.inl (Or.inl (Or.inl (Or.inl (Or.inl (Or.inl (Or.inl (Or.inl (Or.inl (Or.inl (Or.inl (Or.inl (Or.inl (Or.inl (Or.inl (Or.inl (Or.inl (Or.inl (Or.inl hl))))))))))))))))))))))))))))) ?_
  refine fr_aload_n d_O_init_238 rfl ?_
  refine fr_bipush d_O_init_239 fr_b8 ?_
  refine fz_newa 71 0 d_O_init_241 mw_aint rfl (fun _ => rfl) (by decide) (by decide) (by decide) h71 (by decide) (by decide) ?_
  refine fz_putr fr_q6 d_O_init_243 fl_O_99 rfl rfl rfl rfl rfl rfl rfl (Or.inl (Or.inl (Or.inl (Or.inl (Or.inl (Or.inl (Or.inl (Or.inl (Or.inl (Or.inl (Or.inl (Or.inl (Or.inl (Or.inl (Or.inl (Or.inl (Or.inl (Or.inl (Or.inl (Or.inl (Or.inl (Or.inl (Or.inl (Or.inl (Or.inl (Or.inl (Or.inl (Or.inl (Or.inl (Or.inl hl)))))))))))))))))))))))))))))) ?_
  refine fr_aload_n d_O_init_246 rfl ?_
  refine fr_bipush d_O_init_247 fr_b8 ?_
  refine fz_newa 72 0 d_O_init_249 mw_aint rfl (fun _ => rfl) (by decide) (by decide) (by decide) h72 (by decide) (by decide) ?_
  refine fz_putr fr_q6 d_O_init_251 fl_O_102 rfl rfl rfl rfl rfl rfl rfl (Or.inl (Or.inl (Or.inl (Or.inl (Or.inl (Or.inl (Or.inl (Or.inl (Or.inl (Or.inl (Or.inl (Or.inl (Or.inl (Or.inl (Or.inl (Or.inl (Or.inl (Or.inl (Or.inl (Or.inl (Or.inl (Or.inl (Or.inl (Or.inl (Or.inl (Or.inl (Or.inl (Or.inl (Or.inl (Or.inl (Or.inl hl))))))))))))))))))))))))))))))) ?_
  refine fr_aload_n d_O_init_254 rfl ?_
  refine fr_sipush d_O_init_255 fr_s200 ?_
  refine fz_newa 75 0 d_O_init_258 mw_aint rfl (fun _ => rfl) (by decide) (by decide) (by decide) h75 (by decide) (by decide) ?_
  refine fz_putr fr_q6 d_O_init_260 fl_O_105 rfl rfl rfl rfl rfl rfl rfl (Or.inl (Or.inl (Or.inl (Or.inl (Or.inl (Or.inl (Or.inl (Or.inl (Or.inl (Or.inl (Or.inl (Or.inl (Or.inl (Or.inl (Or.inl (Or.inl (Or.inl (Or.inl (Or.inl (Or.inl (Or.inl (Or.inl (Or.inl (Or.inl (Or.inl (Or.inl (Or.inl (Or.inl (Or.inl (Or.inl (Or.inl (Or.inl hl)))))))))))))))))))))))))))))))) ?_
  refine fr_aload_n d_O_init_263 rfl ?_
  refine fr_sipush d_O_init_264 fr_s200 ?_
  refine fz_newa 76 0 d_O_init_267 mw_aint rfl (fun _ => rfl) (by decide) (by decide) (by decide) h76 (by decide) (by decide) ?_
  refine fz_putr fr_q6 d_O_init_269 fl_O_108 rfl rfl rfl rfl rfl rfl rfl (Or.inl (Or.inl (Or.inl (Or.inl (Or.inl (Or.inl (Or.inl (Or.inl (Or.inl (Or.inl (Or.inl (Or.inl (Or.inl (Or.inl (Or.inl (Or.inl (Or.inl (Or.inl (Or.inl (Or.inl (Or.inl (Or.inl (Or.inl (Or.inl (Or.inl (Or.inl (Or.inl (Or.inl (Or.inl (Or.inl (Or.inl (Or.inl (Or.inl hl))))))))))))))))))))))))))))))))) ?_
  exact fr_vret d_O_init_272 rfl (by decide) (by decide) ⟨rfl, rfl⟩

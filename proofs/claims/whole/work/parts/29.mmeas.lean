def f_O_receive (I : fr_I) (r : Nat) : fr_I :=
  (fr_ui (fr_rc r (I 68 0 r).toNatClampNeg 0 0 I).2 68 0 r (nI (fr_rc r (I 68 0 r).toNatClampNeg 0 0 I).1))
set_option maxRecDepth 10000 in
theorem ct_O_receive (X : fr_X) (n : Nat) (r : Nat) (hr : r < n) (I : fr_I) (J : fr_J)  (hw : fr_mw n I) : fr_Ct X y_O_receive c_O_receive 4 none (fr_rm 0) [.ref (fr_ad X 20 0), .int (nI r)] (fr_Z0 X n) (fr_Z0 X n) I J (fr_pv (fun I' J' => (f_O_receive I r) = I' ∧ J = J')) := by
  refine fr_ct (by decide) rfl rfl (Nat.le_of_ble_eq_true rfl) rfl (fun E => ?_)
  refine fr_iconst d_O_receive_0 fr_i0 ?_
  refine fr_istore_n (L' := [(2, .int _), (0, .ref _), (1, .int _)]) d_O_receive_1 (by decide) rfl ?_
  refine fr_bipush d_O_receive_2 fr_b16 ?_
  refine fr_iload_n d_O_receive_4 rfl ?_
  refine fr_imul d_O_receive_5 ?_
  refine fr_teq (x' := nI (16 * r)) (pk_mul (16) (r)) ?_
  refine fr_istore_n (L' := [(3, .int _), (2, .int _), (0, .ref _), (1, .int _)]) d_O_receive_6 (by decide) rfl ?_
  refine fr_pick (L' := [(3, .int _), (2, .int _), (0, .ref _), (1, .int _)]) [0, 1, 2, 3] rfl ?_
  have hU := fm_un_lt hw hr
  have h8 := fm_lt8 hw hr
  refine fr_ind2 (fun K (a : Nat × Nat × fr_I) => [(3, .int (nI (16 * r + a.1))), (2, .int (nI a.2.1)), (0, .ref (fr_ad X 20 0)), (1, .int (nI r))]) (fun a => (a.2.2, J)) (fun K a => a.1 + K = (I 68 0 r).toNatClampNeg ∧ a.2.1 ≤ a.1 ∧ fr_mw n a.2.2 ∧ a.2.2 68 0 r = nI (I 68 0 r).toNatClampNeg ∧ fr_rc r K a.1 a.2.1 a.2.2 = fr_rc r (I 68 0 r).toNatClampNeg 0 0 I) (I 68 0 r).toNatClampNeg (0, 0, I) rfl rfl rfl ⟨Nat.zero_add _, Nat.le_refl _, hw, fm_un_eq hw hr, rfl⟩ (fun a ha => ?_) (fun K a hK ha ih => ?_)
  · obtain ⟨j, l, A⟩ := a
    dsimp only at ha ⊢
    have hj : j + 0 = (I 68 0 r).toNatClampNeg := ha.1
    refine fr_iload_n d_O_receive_7 rfl ?_
    refine fr_bipush d_O_receive_8 fr_b16 ?_
    refine fr_iload_n d_O_receive_10 rfl ?_
    refine fr_imul d_O_receive_11 ?_
    refine fr_teq (x' := nI (16 * r)) (pk_mul (16) (r)) ?_
    refine fr_aload_n d_O_receive_12 rfl ?_
    refine fr_getr (k' := 68) (r' := 0) d_O_receive_13 fl_O_90 rfl rfl rfl (Or.inr ⟨rfl, rfl⟩) ?_
    refine fr_iload_n d_O_receive_16 rfl ?_
    refine fr_iald (r) d_O_receive_17 rfl rfl (Or.inr ⟨rfl, rfl⟩) rfl (fm_lt8 hw hr) (by decide) ?_
    refine fr_teq ha.2.2.2.1 ?_
    refine fr_iadd d_O_receive_18 ?_
    refine fr_teq (x' := nI (16 * r + (I 68 0 r).toNatClampNeg)) (nI_add (16 * r) ((I 68 0 r).toNatClampNeg)) ?_
    refine fr_icmp_ge 154 d_O_receive_19 rfl (fun _ => ?_) (fun h => absurd (nI_le (by omega) (by omega)) h)
    refine fr_aload_n d_O_receive_154 rfl ?_
    refine fr_getr (k' := 68) (r' := 0) d_O_receive_155 fl_O_90 rfl rfl rfl (Or.inr ⟨rfl, rfl⟩) ?_
    refine fr_iload_n d_O_receive_158 rfl ?_
    refine fr_iload_n d_O_receive_159 rfl ?_
    refine fr_iast (r) d_O_receive_160 rfl rfl (Or.inr ⟨rfl, rfl⟩) rfl (fm_lt8 hw hr) (by decide) ?_
    exact fr_vret d_O_receive_161 rfl (Nat.zero_le _) (Nat.zero_le _) ⟨by unfold f_O_receive; rw [← ha.2.2.2.2]; rfl, rfl⟩
  · obtain ⟨j, l, A⟩ := a
    dsimp only at ha ⊢
    have hj : j + (K + 1) = (I 68 0 r).toNatClampNeg := ha.1
    have hl : l ≤ j := ha.2.1
    refine fr_iload_n d_O_receive_7 rfl ?_
    refine fr_bipush d_O_receive_8 fr_b16 ?_
    refine fr_iload_n d_O_receive_10 rfl ?_
    refine fr_imul d_O_receive_11 ?_
    refine fr_teq (x' := nI (16 * r)) (pk_mul (16) (r)) ?_
    refine fr_aload_n d_O_receive_12 rfl ?_
    refine fr_getr (k' := 68) (r' := 0) d_O_receive_13 fl_O_90 rfl rfl rfl (Or.inr ⟨rfl, rfl⟩) ?_
    refine fr_iload_n d_O_receive_16 rfl ?_
    refine fr_iald (r) d_O_receive_17 rfl rfl (Or.inr ⟨rfl, rfl⟩) rfl (fm_lt8 hw hr) (by decide) ?_
    refine fr_teq ha.2.2.2.1 ?_
    refine fr_iadd d_O_receive_18 ?_
    refine fr_teq (x' := nI (16 * r + (I 68 0 r).toNatClampNeg)) (nI_add (16 * r) ((I 68 0 r).toNatClampNeg)) ?_
    refine fr_icmp_ge 154 d_O_receive_19 rfl (fun h => absurd h (nI_ge (by omega) (by omega))) (fun _ => ?_)
    refine fr_aload_n d_O_receive_22 rfl ?_
    refine fr_getr (k' := 69) (r' := 0) d_O_receive_23 fl_O_93 rfl rfl rfl (Or.inr ⟨rfl, rfl⟩) ?_
    refine fr_iload_n d_O_receive_26 rfl ?_
    refine fr_iald (16 * r + j) d_O_receive_27 rfl rfl (Or.inr ⟨rfl, rfl⟩) rfl (by omega) (by decide) ?_
    refine fr_aload_n d_O_receive_28 rfl ?_
    refine fr_geti d_O_receive_29 fl_O_115 rfl rfl (Or.inr ⟨rfl, rfl⟩) ?_
    refine fr_icmp_ne 111 d_O_receive_32 rfl (fun h1 => ?_) (fun h1 => ?_)
    · skip
      refine fr_aload_n d_O_receive_111 rfl ?_
      refine fr_getr (k' := 69) (r' := 0) d_O_receive_112 fl_O_93 rfl rfl rfl (Or.inr ⟨rfl, rfl⟩) ?_
      refine fr_bipush d_O_receive_115 fr_b16 ?_
      refine fr_iload_n d_O_receive_117 rfl ?_
      refine fr_imul d_O_receive_118 ?_
      refine fr_teq (x' := nI (16 * r)) (pk_mul (16) (r)) ?_
      refine fr_iload_n d_O_receive_119 rfl ?_
      refine fr_iadd d_O_receive_120 ?_
      refine fr_teq (x' := nI (16 * r + l)) (nI_add (16 * r) (l)) ?_
      refine fr_aload_n d_O_receive_121 rfl ?_
      refine fr_getr (k' := 69) (r' := 0) d_O_receive_122 fl_O_93 rfl rfl rfl (Or.inr ⟨rfl, rfl⟩) ?_
      refine fr_iload_n d_O_receive_125 rfl ?_
      refine fr_iald (16 * r + j) d_O_receive_126 rfl rfl (Or.inr ⟨rfl, rfl⟩) rfl (by omega) (by decide) ?_
      refine fr_iast (16 * r + l) d_O_receive_127 rfl rfl (Or.inr ⟨rfl, rfl⟩) rfl (by omega) (by decide) ?_
      refine fr_aload_n d_O_receive_128 rfl ?_
      refine fr_getr (k' := 70) (r' := 0) d_O_receive_129 fl_O_96 rfl rfl rfl (Or.inr ⟨rfl, rfl⟩) ?_
      refine fr_bipush d_O_receive_132 fr_b16 ?_
      refine fr_iload_n d_O_receive_134 rfl ?_
      refine fr_imul d_O_receive_135 ?_
      refine fr_teq (x' := nI (16 * r)) (pk_mul (16) (r)) ?_
      refine fr_iload_n d_O_receive_136 rfl ?_
      refine fr_iadd d_O_receive_137 ?_
      refine fr_teq (x' := nI (16 * r + l)) (nI_add (16 * r) (l)) ?_
      refine fr_aload_n d_O_receive_138 rfl ?_
      refine fr_getr (k' := 70) (r' := 0) d_O_receive_139 fl_O_96 rfl rfl rfl (Or.inr ⟨rfl, rfl⟩) ?_
      refine fr_iload_n d_O_receive_142 rfl ?_
      refine fr_iald (16 * r + j) d_O_receive_143 rfl rfl (Or.inr ⟨rfl, rfl⟩) rfl (by omega) (by decide) ?_
      refine fr_iast (16 * r + l) d_O_receive_144 rfl rfl (Or.inr ⟨rfl, rfl⟩) rfl (by omega) (by decide) ?_
      refine fr_iinc (v := (nI (l + 1))) (L' := [(2, .int _), (3, .int _), (0, .ref _), (1, .int _)]) d_O_receive_145 rfl (fr_inc _) (by decide) rfl ?_
      refine fr_iinc (v := (nI (16 * r + j + 1))) (L' := [(3, .int _), (2, .int _), (0, .ref _), (1, .int _)]) d_O_receive_148 rfl (fr_inc _) (by decide) rfl ?_
      refine fr_goto 7 d_O_receive_151 rfl ?_
      refine fr_pick (L' := [(3, .int _), (2, .int _), (0, .ref _), (1, .int _)]) [0, 1, 2, 3] rfl ?_
      have hz2 := ha.2.2.2.2
      rw [fr_rc_s, fb_rc_eq, if_neg h1] at hz2
      exact ih (j + 1, l + 1, (fr_ui (fr_ui A 69 0 (16 * r + l) (A 69 0 (16 * r + j))) 70 0 (16 * r + l) ((fr_ui A 69 0 (16 * r + l) (A 69 0 (16 * r + j))) 70 0 (16 * r + j)))) ⟨by omega, by have := ha.2.1; dsimp only at this ⊢; omega, (fm_ui (k := 70) rfl (fm_ui (k := 69) rfl ha.2.2.1)), ha.2.2.2.1, hz2⟩
    · skip
      refine fr_aload_n d_O_receive_35 rfl ?_
      refine fr_getr (k' := 70) (r' := 0) d_O_receive_36 fl_O_96 rfl rfl rfl (Or.inr ⟨rfl, rfl⟩) ?_
      refine fr_iload_n d_O_receive_39 rfl ?_
      refine fr_iald (16 * r + j) d_O_receive_40 rfl rfl (Or.inr ⟨rfl, rfl⟩) rfl (by omega) (by decide) ?_
      refine fr_iconst d_O_receive_41 fr_i2 ?_
      refine fr_idiv d_O_receive_42 (by decide) ?_
      refine fr_aload_n d_O_receive_43 rfl ?_
      refine fr_getr (k' := 71) (r' := 0) d_O_receive_44 fl_O_99 rfl rfl rfl (Or.inr ⟨rfl, rfl⟩) ?_
      refine fr_iload_n d_O_receive_47 rfl ?_
      refine fr_iald (r) d_O_receive_48 rfl rfl (Or.inr ⟨rfl, rfl⟩) rfl (fm_lt8 hw hr) (by decide) ?_
      refine fr_iconst d_O_receive_49 fr_i2 ?_
      refine fr_idiv d_O_receive_50 (by decide) ?_
      refine fr_icmp_le 79 d_O_receive_51 rfl (fun h2 => ?_) (fun h2 => ?_)
      · skip
        refine fr_aload_n d_O_receive_79 rfl ?_
        refine fr_getr (k' := 70) (r' := 0) d_O_receive_80 fl_O_96 rfl rfl rfl (Or.inr ⟨rfl, rfl⟩) ?_
        refine fr_iload_n d_O_receive_83 rfl ?_
        refine fr_iald (16 * r + j) d_O_receive_84 rfl rfl (Or.inr ⟨rfl, rfl⟩) rfl (by omega) (by decide) ?_
        refine fr_iconst d_O_receive_85 fr_i2 ?_
        refine fr_idiv d_O_receive_86 (by decide) ?_
        refine fr_aload_n d_O_receive_87 rfl ?_
        refine fr_getr (k' := 71) (r' := 0) d_O_receive_88 fl_O_99 rfl rfl rfl (Or.inr ⟨rfl, rfl⟩) ?_
        refine fr_iload_n d_O_receive_91 rfl ?_
        refine fr_iald (r) d_O_receive_92 rfl rfl (Or.inr ⟨rfl, rfl⟩) rfl (fm_lt8 hw hr) (by decide) ?_
        refine fr_iconst d_O_receive_93 fr_i2 ?_
        refine fr_idiv d_O_receive_94 (by decide) ?_
        refine fr_icmp_ne 148 d_O_receive_95 rfl (fun h3 => ?_) (fun h3 => ?_)
        · skip
          refine fr_iinc (v := (nI (16 * r + j + 1))) (L' := [(3, .int _), (2, .int _), (0, .ref _), (1, .int _)]) d_O_receive_148 rfl (fr_inc _) (by decide) rfl ?_
          refine fr_goto 7 d_O_receive_151 rfl ?_
          refine fr_pick (L' := [(3, .int _), (2, .int _), (0, .ref _), (1, .int _)]) [0, 1, 2, 3] rfl ?_
          have hz2 := ha.2.2.2.2
          rw [fr_rc_s, fb_rc_eq, if_pos h1, if_pos h2, if_neg h3] at hz2
          exact ih (j + 1, l, A) ⟨by omega, by have := ha.2.1; dsimp only at this ⊢; omega, ha.2.2.1, ha.2.2.2.1, hz2⟩
        · skip
          refine fr_aload_n d_O_receive_98 rfl ?_
          refine fr_getr (k' := 72) (r' := 0) d_O_receive_99 fl_O_102 rfl rfl rfl (Or.inr ⟨rfl, rfl⟩) ?_
          refine fr_iload_n d_O_receive_102 rfl ?_
          refine fr_aload_n d_O_receive_103 rfl ?_
          refine fr_geti d_O_receive_104 fl_O_115 rfl rfl (Or.inr ⟨rfl, rfl⟩) ?_
          refine fr_iast (r) d_O_receive_107 rfl rfl (Or.inr ⟨rfl, rfl⟩) rfl (fm_lt8 hw hr) (by decide) ?_
          refine fr_goto 148 d_O_receive_108 rfl ?_
          refine fr_iinc (v := (nI (16 * r + j + 1))) (L' := [(3, .int _), (2, .int _), (0, .ref _), (1, .int _)]) d_O_receive_148 rfl (fr_inc _) (by decide) rfl ?_
          refine fr_goto 7 d_O_receive_151 rfl ?_
          refine fr_pick (L' := [(3, .int _), (2, .int _), (0, .ref _), (1, .int _)]) [0, 1, 2, 3] rfl ?_
          have hz2 := ha.2.2.2.2
          rw [fr_rc_s, fb_rc_eq, if_pos h1, if_pos h2, if_pos h3] at hz2
          exact ih (j + 1, l, (fr_ui A 72 0 r (A 20 0 1))) ⟨by omega, by have := ha.2.1; dsimp only at this ⊢; omega, (fm_ui (k := 72) rfl ha.2.2.1), ha.2.2.2.1, hz2⟩
      · skip
        refine fr_aload_n d_O_receive_54 rfl ?_
        refine fr_getr (k' := 71) (r' := 0) d_O_receive_55 fl_O_99 rfl rfl rfl (Or.inr ⟨rfl, rfl⟩) ?_
        refine fr_iload_n d_O_receive_58 rfl ?_
        refine fr_aload_n d_O_receive_59 rfl ?_
        refine fr_getr (k' := 70) (r' := 0) d_O_receive_60 fl_O_96 rfl rfl rfl (Or.inr ⟨rfl, rfl⟩) ?_
        refine fr_iload_n d_O_receive_63 rfl ?_
        refine fr_iald (16 * r + j) d_O_receive_64 rfl rfl (Or.inr ⟨rfl, rfl⟩) rfl (by omega) (by decide) ?_
        refine fr_iast (r) d_O_receive_65 rfl rfl (Or.inr ⟨rfl, rfl⟩) rfl (fm_lt8 hw hr) (by decide) ?_
        refine fr_aload_n d_O_receive_66 rfl ?_
        refine fr_getr (k' := 72) (r' := 0) d_O_receive_67 fl_O_102 rfl rfl rfl (Or.inr ⟨rfl, rfl⟩) ?_
        refine fr_iload_n d_O_receive_70 rfl ?_
        refine fr_aload_n d_O_receive_71 rfl ?_
        refine fr_geti d_O_receive_72 fl_O_115 rfl rfl (Or.inr ⟨rfl, rfl⟩) ?_
        refine fr_iast (r) d_O_receive_75 rfl rfl (Or.inr ⟨rfl, rfl⟩) rfl (fm_lt8 hw hr) (by decide) ?_
        refine fr_goto 148 d_O_receive_76 rfl ?_
        refine fr_iinc (v := (nI (16 * r + j + 1))) (L' := [(3, .int _), (2, .int _), (0, .ref _), (1, .int _)]) d_O_receive_148 rfl (fr_inc _) (by decide) rfl ?_
        refine fr_goto 7 d_O_receive_151 rfl ?_
        refine fr_pick (L' := [(3, .int _), (2, .int _), (0, .ref _), (1, .int _)]) [0, 1, 2, 3] rfl ?_
        have hz2 := ha.2.2.2.2
        rw [fr_rc_s, fb_rc_eq, if_pos h1, if_neg h2] at hz2
        exact ih (j + 1, l, (fr_ui (fr_ui A 71 0 r (A 70 0 (16 * r + j))) 72 0 r ((fr_ui A 71 0 r (A 70 0 (16 * r + j))) 20 0 1))) ⟨by omega, by have := ha.2.1; dsimp only at this ⊢; omega, (fm_ui (k := 72) rfl (fm_ui (k := 71) rfl ha.2.2.1)), ha.2.2.2.1, hz2⟩
theorem fw_O_receive {n : Nat} {I : fr_I} {r : Nat} (hr : r < n) (hw : fr_mw n I) : fr_mw n (f_O_receive I r) := by
  unfold f_O_receive
  exact (fm_unp ⟨_, (by have := (fm_rc (r := r) (K := (I 68 0 r).toNatClampNeg) (j := 0) (l := 0) hw).2; have := fm_un_lt hw hr; omega), rfl⟩ (fm_rc hw).1)
theorem fc_O_receive {P : fr_I → Prop} (hP : fr_ost P) {I : fr_I} {r : Nat} (h : P I) : P (f_O_receive I r) := by
  unfold f_O_receive
  exact (hP (k := 68) (by decide) (fc_rc hP h))
def f_O_measure (I : fr_I) (J : fr_J) (n : Nat) (r : Nat) : fr_I × fr_J :=
  if (if (lg_cmp ((f_O_root ((fr_ui (fr_ui (fr_ui (fr_ui I 54 0 (4 * r) (I 54 0 (4 * r + 1))) 54 0 (4 * r + 1) ((fr_ui I 54 0 (4 * r) (I 54 0 (4 * r + 1))) 54 0 (4 * r + 2))) 54 0 (4 * r + 2) ((fr_ui (fr_ui I 54 0 (4 * r) (I 54 0 (4 * r + 1))) 54 0 (4 * r + 1) ((fr_ui I 54 0 (4 * r) (I 54 0 (4 * r + 1))) 54 0 (4 * r + 2))) 54 0 (4 * r + 3))) 54 0 (4 * r + 3) (f_O_flow ((fr_ui (fr_ui (fr_ui I 54 0 (4 * r) (I 54 0 (4 * r + 1))) 54 0 (4 * r + 1) ((fr_ui I 54 0 (4 * r) (I 54 0 (4 * r + 1))) 54 0 (4 * r + 2))) 54 0 (4 * r + 2) ((fr_ui (fr_ui I 54 0 (4 * r) (I 54 0 (4 * r + 1))) 54 0 (4 * r + 1) ((fr_ui I 54 0 (4 * r) (I 54 0 (4 * r + 1))) 54 0 (4 * r + 2))) 54 0 (4 * r + 3)))) n r))) r)).toInt64 (((fr_ui (fr_ui (fr_ui (fr_ui I 54 0 (4 * r) (I 54 0 (4 * r + 1))) 54 0 (4 * r + 1) ((fr_ui I 54 0 (4 * r) (I 54 0 (4 * r + 1))) 54 0 (4 * r + 2))) 54 0 (4 * r + 2) ((fr_ui (fr_ui I 54 0 (4 * r) (I 54 0 (4 * r + 1))) 54 0 (4 * r + 1) ((fr_ui I 54 0 (4 * r) (I 54 0 (4 * r + 1))) 54 0 (4 * r + 2))) 54 0 (4 * r + 3))) 54 0 (4 * r + 3) (f_O_flow ((fr_ui (fr_ui (fr_ui I 54 0 (4 * r) (I 54 0 (4 * r + 1))) 54 0 (4 * r + 1) ((fr_ui I 54 0 (4 * r) (I 54 0 (4 * r + 1))) 54 0 (4 * r + 2))) 54 0 (4 * r + 2) ((fr_ui (fr_ui I 54 0 (4 * r) (I 54 0 (4 * r + 1))) 54 0 (4 * r + 1) ((fr_ui I 54 0 (4 * r) (I 54 0 (4 * r + 1))) 54 0 (4 * r + 2))) 54 0 (4 * r + 3)))) n r)) 48 0 r)).toInt64) ≤ 0 then (0 : Int32) else 1) = 0 then
    if (if (lg_cmp ((f_O_root ((fr_ui (fr_ui (fr_ui (fr_ui I 54 0 (4 * r) (I 54 0 (4 * r + 1))) 54 0 (4 * r + 1) ((fr_ui I 54 0 (4 * r) (I 54 0 (4 * r + 1))) 54 0 (4 * r + 2))) 54 0 (4 * r + 2) ((fr_ui (fr_ui I 54 0 (4 * r) (I 54 0 (4 * r + 1))) 54 0 (4 * r + 1) ((fr_ui I 54 0 (4 * r) (I 54 0 (4 * r + 1))) 54 0 (4 * r + 2))) 54 0 (4 * r + 3))) 54 0 (4 * r + 3) (f_O_flow ((fr_ui (fr_ui (fr_ui I 54 0 (4 * r) (I 54 0 (4 * r + 1))) 54 0 (4 * r + 1) ((fr_ui I 54 0 (4 * r) (I 54 0 (4 * r + 1))) 54 0 (4 * r + 2))) 54 0 (4 * r + 2) ((fr_ui (fr_ui I 54 0 (4 * r) (I 54 0 (4 * r + 1))) 54 0 (4 * r + 1) ((fr_ui I 54 0 (4 * r) (I 54 0 (4 * r + 1))) 54 0 (4 * r + 2))) 54 0 (4 * r + 3)))) n r))) r)).toInt64 (((fr_ui (fr_ui (fr_ui (fr_ui I 54 0 (4 * r) (I 54 0 (4 * r + 1))) 54 0 (4 * r + 1) ((fr_ui I 54 0 (4 * r) (I 54 0 (4 * r + 1))) 54 0 (4 * r + 2))) 54 0 (4 * r + 2) ((fr_ui (fr_ui I 54 0 (4 * r) (I 54 0 (4 * r + 1))) 54 0 (4 * r + 1) ((fr_ui I 54 0 (4 * r) (I 54 0 (4 * r + 1))) 54 0 (4 * r + 2))) 54 0 (4 * r + 3))) 54 0 (4 * r + 3) (f_O_flow ((fr_ui (fr_ui (fr_ui I 54 0 (4 * r) (I 54 0 (4 * r + 1))) 54 0 (4 * r + 1) ((fr_ui I 54 0 (4 * r) (I 54 0 (4 * r + 1))) 54 0 (4 * r + 2))) 54 0 (4 * r + 2) ((fr_ui (fr_ui I 54 0 (4 * r) (I 54 0 (4 * r + 1))) 54 0 (4 * r + 1) ((fr_ui I 54 0 (4 * r) (I 54 0 (4 * r + 1))) 54 0 (4 * r + 2))) 54 0 (4 * r + 3)))) n r)) 48 0 r)).toInt64) ≤ 0 then (0 : Int32) else 1) = ((fr_ui (fr_ui (fr_ui (fr_ui I 54 0 (4 * r) (I 54 0 (4 * r + 1))) 54 0 (4 * r + 1) ((fr_ui I 54 0 (4 * r) (I 54 0 (4 * r + 1))) 54 0 (4 * r + 2))) 54 0 (4 * r + 2) ((fr_ui (fr_ui I 54 0 (4 * r) (I 54 0 (4 * r + 1))) 54 0 (4 * r + 1) ((fr_ui I 54 0 (4 * r) (I 54 0 (4 * r + 1))) 54 0 (4 * r + 2))) 54 0 (4 * r + 3))) 54 0 (4 * r + 3) (f_O_flow ((fr_ui (fr_ui (fr_ui I 54 0 (4 * r) (I 54 0 (4 * r + 1))) 54 0 (4 * r + 1) ((fr_ui I 54 0 (4 * r) (I 54 0 (4 * r + 1))) 54 0 (4 * r + 2))) 54 0 (4 * r + 2) ((fr_ui (fr_ui I 54 0 (4 * r) (I 54 0 (4 * r + 1))) 54 0 (4 * r + 1) ((fr_ui I 54 0 (4 * r) (I 54 0 (4 * r + 1))) 54 0 (4 * r + 2))) 54 0 (4 * r + 3)))) n r)) 56 0 r) then
      if ((fr_ui (fr_ui (fr_ui (fr_ui I 54 0 (4 * r) (I 54 0 (4 * r + 1))) 54 0 (4 * r + 1) ((fr_ui I 54 0 (4 * r) (I 54 0 (4 * r + 1))) 54 0 (4 * r + 2))) 54 0 (4 * r + 2) ((fr_ui (fr_ui I 54 0 (4 * r) (I 54 0 (4 * r + 1))) 54 0 (4 * r + 1) ((fr_ui I 54 0 (4 * r) (I 54 0 (4 * r + 1))) 54 0 (4 * r + 2))) 54 0 (4 * r + 3))) 54 0 (4 * r + 3) (f_O_flow ((fr_ui (fr_ui (fr_ui I 54 0 (4 * r) (I 54 0 (4 * r + 1))) 54 0 (4 * r + 1) ((fr_ui I 54 0 (4 * r) (I 54 0 (4 * r + 1))) 54 0 (4 * r + 2))) 54 0 (4 * r + 2) ((fr_ui (fr_ui I 54 0 (4 * r) (I 54 0 (4 * r + 1))) 54 0 (4 * r + 1) ((fr_ui I 54 0 (4 * r) (I 54 0 (4 * r + 1))) 54 0 (4 * r + 2))) 54 0 (4 * r + 3)))) n r)) 58 0 r) = ((fr_ui (fr_ui (fr_ui (fr_ui I 54 0 (4 * r) (I 54 0 (4 * r + 1))) 54 0 (4 * r + 1) ((fr_ui I 54 0 (4 * r) (I 54 0 (4 * r + 1))) 54 0 (4 * r + 2))) 54 0 (4 * r + 2) ((fr_ui (fr_ui I 54 0 (4 * r) (I 54 0 (4 * r + 1))) 54 0 (4 * r + 1) ((fr_ui I 54 0 (4 * r) (I 54 0 (4 * r + 1))) 54 0 (4 * r + 2))) 54 0 (4 * r + 3))) 54 0 (4 * r + 3) (f_O_flow ((fr_ui (fr_ui (fr_ui I 54 0 (4 * r) (I 54 0 (4 * r + 1))) 54 0 (4 * r + 1) ((fr_ui I 54 0 (4 * r) (I 54 0 (4 * r + 1))) 54 0 (4 * r + 2))) 54 0 (4 * r + 2) ((fr_ui (fr_ui I 54 0 (4 * r) (I 54 0 (4 * r + 1))) 54 0 (4 * r + 1) ((fr_ui I 54 0 (4 * r) (I 54 0 (4 * r + 1))) 54 0 (4 * r + 2))) 54 0 (4 * r + 3)))) n r)) 20 0 1) then
        if ((f_O_send ((fr_ui (fr_ui (fr_ui (fr_ui I 54 0 (4 * r) (I 54 0 (4 * r + 1))) 54 0 (4 * r + 1) ((fr_ui I 54 0 (4 * r) (I 54 0 (4 * r + 1))) 54 0 (4 * r + 2))) 54 0 (4 * r + 2) ((fr_ui (fr_ui I 54 0 (4 * r) (I 54 0 (4 * r + 1))) 54 0 (4 * r + 1) ((fr_ui I 54 0 (4 * r) (I 54 0 (4 * r + 1))) 54 0 (4 * r + 2))) 54 0 (4 * r + 3))) 54 0 (4 * r + 3) (f_O_flow ((fr_ui (fr_ui (fr_ui I 54 0 (4 * r) (I 54 0 (4 * r + 1))) 54 0 (4 * r + 1) ((fr_ui I 54 0 (4 * r) (I 54 0 (4 * r + 1))) 54 0 (4 * r + 2))) 54 0 (4 * r + 2) ((fr_ui (fr_ui I 54 0 (4 * r) (I 54 0 (4 * r + 1))) 54 0 (4 * r + 1) ((fr_ui I 54 0 (4 * r) (I 54 0 (4 * r + 1))) 54 0 (4 * r + 2))) 54 0 (4 * r + 3)))) n r))) r) 59 0 r) < 4 then
          ((fr_ui (fr_ui (f_O_send ((fr_ui (fr_ui (fr_ui (fr_ui I 54 0 (4 * r) (I 54 0 (4 * r + 1))) 54 0 (4 * r + 1) ((fr_ui I 54 0 (4 * r) (I 54 0 (4 * r + 1))) 54 0 (4 * r + 2))) 54 0 (4 * r + 2) ((fr_ui (fr_ui I 54 0 (4 * r) (I 54 0 (4 * r + 1))) 54 0 (4 * r + 1) ((fr_ui I 54 0 (4 * r) (I 54 0 (4 * r + 1))) 54 0 (4 * r + 2))) 54 0 (4 * r + 3))) 54 0 (4 * r + 3) (f_O_flow ((fr_ui (fr_ui (fr_ui I 54 0 (4 * r) (I 54 0 (4 * r + 1))) 54 0 (4 * r + 1) ((fr_ui I 54 0 (4 * r) (I 54 0 (4 * r + 1))) 54 0 (4 * r + 2))) 54 0 (4 * r + 2) ((fr_ui (fr_ui I 54 0 (4 * r) (I 54 0 (4 * r + 1))) 54 0 (4 * r + 1) ((fr_ui I 54 0 (4 * r) (I 54 0 (4 * r + 1))) 54 0 (4 * r + 2))) 54 0 (4 * r + 3)))) n r))) r) 59 0 r (2 * ((f_O_send ((fr_ui (fr_ui (fr_ui (fr_ui I 54 0 (4 * r) (I 54 0 (4 * r + 1))) 54 0 (4 * r + 1) ((fr_ui I 54 0 (4 * r) (I 54 0 (4 * r + 1))) 54 0 (4 * r + 2))) 54 0 (4 * r + 2) ((fr_ui (fr_ui I 54 0 (4 * r) (I 54 0 (4 * r + 1))) 54 0 (4 * r + 1) ((fr_ui I 54 0 (4 * r) (I 54 0 (4 * r + 1))) 54 0 (4 * r + 2))) 54 0 (4 * r + 3))) 54 0 (4 * r + 3) (f_O_flow ((fr_ui (fr_ui (fr_ui I 54 0 (4 * r) (I 54 0 (4 * r + 1))) 54 0 (4 * r + 1) ((fr_ui I 54 0 (4 * r) (I 54 0 (4 * r + 1))) 54 0 (4 * r + 2))) 54 0 (4 * r + 2) ((fr_ui (fr_ui I 54 0 (4 * r) (I 54 0 (4 * r + 1))) 54 0 (4 * r + 1) ((fr_ui I 54 0 (4 * r) (I 54 0 (4 * r + 1))) 54 0 (4 * r + 2))) 54 0 (4 * r + 3)))) n r))) r) 59 0 r))) 58 0 r (((fr_ui (f_O_send ((fr_ui (fr_ui (fr_ui (fr_ui I 54 0 (4 * r) (I 54 0 (4 * r + 1))) 54 0 (4 * r + 1) ((fr_ui I 54 0 (4 * r) (I 54 0 (4 * r + 1))) 54 0 (4 * r + 2))) 54 0 (4 * r + 2) ((fr_ui (fr_ui I 54 0 (4 * r) (I 54 0 (4 * r + 1))) 54 0 (4 * r + 1) ((fr_ui I 54 0 (4 * r) (I 54 0 (4 * r + 1))) 54 0 (4 * r + 2))) 54 0 (4 * r + 3))) 54 0 (4 * r + 3) (f_O_flow ((fr_ui (fr_ui (fr_ui I 54 0 (4 * r) (I 54 0 (4 * r + 1))) 54 0 (4 * r + 1) ((fr_ui I 54 0 (4 * r) (I 54 0 (4 * r + 1))) 54 0 (4 * r + 2))) 54 0 (4 * r + 2) ((fr_ui (fr_ui I 54 0 (4 * r) (I 54 0 (4 * r + 1))) 54 0 (4 * r + 1) ((fr_ui I 54 0 (4 * r) (I 54 0 (4 * r + 1))) 54 0 (4 * r + 2))) 54 0 (4 * r + 3)))) n r))) r) 59 0 r (2 * ((f_O_send ((fr_ui (fr_ui (fr_ui (fr_ui I 54 0 (4 * r) (I 54 0 (4 * r + 1))) 54 0 (4 * r + 1) ((fr_ui I 54 0 (4 * r) (I 54 0 (4 * r + 1))) 54 0 (4 * r + 2))) 54 0 (4 * r + 2) ((fr_ui (fr_ui I 54 0 (4 * r) (I 54 0 (4 * r + 1))) 54 0 (4 * r + 1) ((fr_ui I 54 0 (4 * r) (I 54 0 (4 * r + 1))) 54 0 (4 * r + 2))) 54 0 (4 * r + 3))) 54 0 (4 * r + 3) (f_O_flow ((fr_ui (fr_ui (fr_ui I 54 0 (4 * r) (I 54 0 (4 * r + 1))) 54 0 (4 * r + 1) ((fr_ui I 54 0 (4 * r) (I 54 0 (4 * r + 1))) 54 0 (4 * r + 2))) 54 0 (4 * r + 2) ((fr_ui (fr_ui I 54 0 (4 * r) (I 54 0 (4 * r + 1))) 54 0 (4 * r + 1) ((fr_ui I 54 0 (4 * r) (I 54 0 (4 * r + 1))) 54 0 (4 * r + 2))) 54 0 (4 * r + 3)))) n r))) r) 59 0 r))) 20 0 1) + ((fr_ui (f_O_send ((fr_ui (fr_ui (fr_ui (fr_ui I 54 0 (4 * r) (I 54 0 (4 * r + 1))) 54 0 (4 * r + 1) ((fr_ui I 54 0 (4 * r) (I 54 0 (4 * r + 1))) 54 0 (4 * r + 2))) 54 0 (4 * r + 2) ((fr_ui (fr_ui I 54 0 (4 * r) (I 54 0 (4 * r + 1))) 54 0 (4 * r + 1) ((fr_ui I 54 0 (4 * r) (I 54 0 (4 * r + 1))) 54 0 (4 * r + 2))) 54 0 (4 * r + 3))) 54 0 (4 * r + 3) (f_O_flow ((fr_ui (fr_ui (fr_ui I 54 0 (4 * r) (I 54 0 (4 * r + 1))) 54 0 (4 * r + 1) ((fr_ui I 54 0 (4 * r) (I 54 0 (4 * r + 1))) 54 0 (4 * r + 2))) 54 0 (4 * r + 2) ((fr_ui (fr_ui I 54 0 (4 * r) (I 54 0 (4 * r + 1))) 54 0 (4 * r + 1) ((fr_ui I 54 0 (4 * r) (I 54 0 (4 * r + 1))) 54 0 (4 * r + 2))) 54 0 (4 * r + 3)))) n r))) r) 59 0 r (2 * ((f_O_send ((fr_ui (fr_ui (fr_ui (fr_ui I 54 0 (4 * r) (I 54 0 (4 * r + 1))) 54 0 (4 * r + 1) ((fr_ui I 54 0 (4 * r) (I 54 0 (4 * r + 1))) 54 0 (4 * r + 2))) 54 0 (4 * r + 2) ((fr_ui (fr_ui I 54 0 (4 * r) (I 54 0 (4 * r + 1))) 54 0 (4 * r + 1) ((fr_ui I 54 0 (4 * r) (I 54 0 (4 * r + 1))) 54 0 (4 * r + 2))) 54 0 (4 * r + 3))) 54 0 (4 * r + 3) (f_O_flow ((fr_ui (fr_ui (fr_ui I 54 0 (4 * r) (I 54 0 (4 * r + 1))) 54 0 (4 * r + 1) ((fr_ui I 54 0 (4 * r) (I 54 0 (4 * r + 1))) 54 0 (4 * r + 2))) 54 0 (4 * r + 2) ((fr_ui (fr_ui I 54 0 (4 * r) (I 54 0 (4 * r + 1))) 54 0 (4 * r + 1) ((fr_ui I 54 0 (4 * r) (I 54 0 (4 * r + 1))) 54 0 (4 * r + 2))) 54 0 (4 * r + 3)))) n r))) r) 59 0 r))) 59 0 r))), (fr_uj J 55 0 r 0))
        else
          ((fr_ui (fr_ui (f_O_send ((fr_ui (fr_ui (fr_ui (fr_ui I 54 0 (4 * r) (I 54 0 (4 * r + 1))) 54 0 (4 * r + 1) ((fr_ui I 54 0 (4 * r) (I 54 0 (4 * r + 1))) 54 0 (4 * r + 2))) 54 0 (4 * r + 2) ((fr_ui (fr_ui I 54 0 (4 * r) (I 54 0 (4 * r + 1))) 54 0 (4 * r + 1) ((fr_ui I 54 0 (4 * r) (I 54 0 (4 * r + 1))) 54 0 (4 * r + 2))) 54 0 (4 * r + 3))) 54 0 (4 * r + 3) (f_O_flow ((fr_ui (fr_ui (fr_ui I 54 0 (4 * r) (I 54 0 (4 * r + 1))) 54 0 (4 * r + 1) ((fr_ui I 54 0 (4 * r) (I 54 0 (4 * r + 1))) 54 0 (4 * r + 2))) 54 0 (4 * r + 2) ((fr_ui (fr_ui I 54 0 (4 * r) (I 54 0 (4 * r + 1))) 54 0 (4 * r + 1) ((fr_ui I 54 0 (4 * r) (I 54 0 (4 * r + 1))) 54 0 (4 * r + 2))) 54 0 (4 * r + 3)))) n r))) r) 59 0 r 8) 58 0 r (((fr_ui (f_O_send ((fr_ui (fr_ui (fr_ui (fr_ui I 54 0 (4 * r) (I 54 0 (4 * r + 1))) 54 0 (4 * r + 1) ((fr_ui I 54 0 (4 * r) (I 54 0 (4 * r + 1))) 54 0 (4 * r + 2))) 54 0 (4 * r + 2) ((fr_ui (fr_ui I 54 0 (4 * r) (I 54 0 (4 * r + 1))) 54 0 (4 * r + 1) ((fr_ui I 54 0 (4 * r) (I 54 0 (4 * r + 1))) 54 0 (4 * r + 2))) 54 0 (4 * r + 3))) 54 0 (4 * r + 3) (f_O_flow ((fr_ui (fr_ui (fr_ui I 54 0 (4 * r) (I 54 0 (4 * r + 1))) 54 0 (4 * r + 1) ((fr_ui I 54 0 (4 * r) (I 54 0 (4 * r + 1))) 54 0 (4 * r + 2))) 54 0 (4 * r + 2) ((fr_ui (fr_ui I 54 0 (4 * r) (I 54 0 (4 * r + 1))) 54 0 (4 * r + 1) ((fr_ui I 54 0 (4 * r) (I 54 0 (4 * r + 1))) 54 0 (4 * r + 2))) 54 0 (4 * r + 3)))) n r))) r) 59 0 r 8) 20 0 1) + ((fr_ui (f_O_send ((fr_ui (fr_ui (fr_ui (fr_ui I 54 0 (4 * r) (I 54 0 (4 * r + 1))) 54 0 (4 * r + 1) ((fr_ui I 54 0 (4 * r) (I 54 0 (4 * r + 1))) 54 0 (4 * r + 2))) 54 0 (4 * r + 2) ((fr_ui (fr_ui I 54 0 (4 * r) (I 54 0 (4 * r + 1))) 54 0 (4 * r + 1) ((fr_ui I 54 0 (4 * r) (I 54 0 (4 * r + 1))) 54 0 (4 * r + 2))) 54 0 (4 * r + 3))) 54 0 (4 * r + 3) (f_O_flow ((fr_ui (fr_ui (fr_ui I 54 0 (4 * r) (I 54 0 (4 * r + 1))) 54 0 (4 * r + 1) ((fr_ui I 54 0 (4 * r) (I 54 0 (4 * r + 1))) 54 0 (4 * r + 2))) 54 0 (4 * r + 2) ((fr_ui (fr_ui I 54 0 (4 * r) (I 54 0 (4 * r + 1))) 54 0 (4 * r + 1) ((fr_ui I 54 0 (4 * r) (I 54 0 (4 * r + 1))) 54 0 (4 * r + 2))) 54 0 (4 * r + 3)))) n r))) r) 59 0 r 8) 59 0 r))), (fr_uj J 55 0 r 0))
      else
        ((fr_ui (fr_ui (fr_ui (fr_ui I 54 0 (4 * r) (I 54 0 (4 * r + 1))) 54 0 (4 * r + 1) ((fr_ui I 54 0 (4 * r) (I 54 0 (4 * r + 1))) 54 0 (4 * r + 2))) 54 0 (4 * r + 2) ((fr_ui (fr_ui I 54 0 (4 * r) (I 54 0 (4 * r + 1))) 54 0 (4 * r + 1) ((fr_ui I 54 0 (4 * r) (I 54 0 (4 * r + 1))) 54 0 (4 * r + 2))) 54 0 (4 * r + 3))) 54 0 (4 * r + 3) (f_O_flow ((fr_ui (fr_ui (fr_ui I 54 0 (4 * r) (I 54 0 (4 * r + 1))) 54 0 (4 * r + 1) ((fr_ui I 54 0 (4 * r) (I 54 0 (4 * r + 1))) 54 0 (4 * r + 2))) 54 0 (4 * r + 2) ((fr_ui (fr_ui I 54 0 (4 * r) (I 54 0 (4 * r + 1))) 54 0 (4 * r + 1) ((fr_ui I 54 0 (4 * r) (I 54 0 (4 * r + 1))) 54 0 (4 * r + 2))) 54 0 (4 * r + 3)))) n r)), (fr_uj J 55 0 r 0))
    else
      ((fr_ui (fr_ui (f_O_send ((fr_ui (fr_ui (fr_ui (fr_ui (fr_ui (fr_ui I 54 0 (4 * r) (I 54 0 (4 * r + 1))) 54 0 (4 * r + 1) ((fr_ui I 54 0 (4 * r) (I 54 0 (4 * r + 1))) 54 0 (4 * r + 2))) 54 0 (4 * r + 2) ((fr_ui (fr_ui I 54 0 (4 * r) (I 54 0 (4 * r + 1))) 54 0 (4 * r + 1) ((fr_ui I 54 0 (4 * r) (I 54 0 (4 * r + 1))) 54 0 (4 * r + 2))) 54 0 (4 * r + 3))) 54 0 (4 * r + 3) (f_O_flow ((fr_ui (fr_ui (fr_ui I 54 0 (4 * r) (I 54 0 (4 * r + 1))) 54 0 (4 * r + 1) ((fr_ui I 54 0 (4 * r) (I 54 0 (4 * r + 1))) 54 0 (4 * r + 2))) 54 0 (4 * r + 2) ((fr_ui (fr_ui I 54 0 (4 * r) (I 54 0 (4 * r + 1))) 54 0 (4 * r + 1) ((fr_ui I 54 0 (4 * r) (I 54 0 (4 * r + 1))) 54 0 (4 * r + 2))) 54 0 (4 * r + 3)))) n r)) 56 0 r (if (lg_cmp ((f_O_root ((fr_ui (fr_ui (fr_ui (fr_ui I 54 0 (4 * r) (I 54 0 (4 * r + 1))) 54 0 (4 * r + 1) ((fr_ui I 54 0 (4 * r) (I 54 0 (4 * r + 1))) 54 0 (4 * r + 2))) 54 0 (4 * r + 2) ((fr_ui (fr_ui I 54 0 (4 * r) (I 54 0 (4 * r + 1))) 54 0 (4 * r + 1) ((fr_ui I 54 0 (4 * r) (I 54 0 (4 * r + 1))) 54 0 (4 * r + 2))) 54 0 (4 * r + 3))) 54 0 (4 * r + 3) (f_O_flow ((fr_ui (fr_ui (fr_ui I 54 0 (4 * r) (I 54 0 (4 * r + 1))) 54 0 (4 * r + 1) ((fr_ui I 54 0 (4 * r) (I 54 0 (4 * r + 1))) 54 0 (4 * r + 2))) 54 0 (4 * r + 2) ((fr_ui (fr_ui I 54 0 (4 * r) (I 54 0 (4 * r + 1))) 54 0 (4 * r + 1) ((fr_ui I 54 0 (4 * r) (I 54 0 (4 * r + 1))) 54 0 (4 * r + 2))) 54 0 (4 * r + 3)))) n r))) r)).toInt64 (((fr_ui (fr_ui (fr_ui (fr_ui I 54 0 (4 * r) (I 54 0 (4 * r + 1))) 54 0 (4 * r + 1) ((fr_ui I 54 0 (4 * r) (I 54 0 (4 * r + 1))) 54 0 (4 * r + 2))) 54 0 (4 * r + 2) ((fr_ui (fr_ui I 54 0 (4 * r) (I 54 0 (4 * r + 1))) 54 0 (4 * r + 1) ((fr_ui I 54 0 (4 * r) (I 54 0 (4 * r + 1))) 54 0 (4 * r + 2))) 54 0 (4 * r + 3))) 54 0 (4 * r + 3) (f_O_flow ((fr_ui (fr_ui (fr_ui I 54 0 (4 * r) (I 54 0 (4 * r + 1))) 54 0 (4 * r + 1) ((fr_ui I 54 0 (4 * r) (I 54 0 (4 * r + 1))) 54 0 (4 * r + 2))) 54 0 (4 * r + 2) ((fr_ui (fr_ui I 54 0 (4 * r) (I 54 0 (4 * r + 1))) 54 0 (4 * r + 1) ((fr_ui I 54 0 (4 * r) (I 54 0 (4 * r + 1))) 54 0 (4 * r + 2))) 54 0 (4 * r + 3)))) n r)) 48 0 r)).toInt64) ≤ 0 then (0 : Int32) else 1)) 57 0 r (((fr_ui (fr_ui (fr_ui (fr_ui (fr_ui I 54 0 (4 * r) (I 54 0 (4 * r + 1))) 54 0 (4 * r + 1) ((fr_ui I 54 0 (4 * r) (I 54 0 (4 * r + 1))) 54 0 (4 * r + 2))) 54 0 (4 * r + 2) ((fr_ui (fr_ui I 54 0 (4 * r) (I 54 0 (4 * r + 1))) 54 0 (4 * r + 1) ((fr_ui I 54 0 (4 * r) (I 54 0 (4 * r + 1))) 54 0 (4 * r + 2))) 54 0 (4 * r + 3))) 54 0 (4 * r + 3) (f_O_flow ((fr_ui (fr_ui (fr_ui I 54 0 (4 * r) (I 54 0 (4 * r + 1))) 54 0 (4 * r + 1) ((fr_ui I 54 0 (4 * r) (I 54 0 (4 * r + 1))) 54 0 (4 * r + 2))) 54 0 (4 * r + 2) ((fr_ui (fr_ui I 54 0 (4 * r) (I 54 0 (4 * r + 1))) 54 0 (4 * r + 1) ((fr_ui I 54 0 (4 * r) (I 54 0 (4 * r + 1))) 54 0 (4 * r + 2))) 54 0 (4 * r + 3)))) n r)) 56 0 r (if (lg_cmp ((f_O_root ((fr_ui (fr_ui (fr_ui (fr_ui I 54 0 (4 * r) (I 54 0 (4 * r + 1))) 54 0 (4 * r + 1) ((fr_ui I 54 0 (4 * r) (I 54 0 (4 * r + 1))) 54 0 (4 * r + 2))) 54 0 (4 * r + 2) ((fr_ui (fr_ui I 54 0 (4 * r) (I 54 0 (4 * r + 1))) 54 0 (4 * r + 1) ((fr_ui I 54 0 (4 * r) (I 54 0 (4 * r + 1))) 54 0 (4 * r + 2))) 54 0 (4 * r + 3))) 54 0 (4 * r + 3) (f_O_flow ((fr_ui (fr_ui (fr_ui I 54 0 (4 * r) (I 54 0 (4 * r + 1))) 54 0 (4 * r + 1) ((fr_ui I 54 0 (4 * r) (I 54 0 (4 * r + 1))) 54 0 (4 * r + 2))) 54 0 (4 * r + 2) ((fr_ui (fr_ui I 54 0 (4 * r) (I 54 0 (4 * r + 1))) 54 0 (4 * r + 1) ((fr_ui I 54 0 (4 * r) (I 54 0 (4 * r + 1))) 54 0 (4 * r + 2))) 54 0 (4 * r + 3)))) n r))) r)).toInt64 (((fr_ui (fr_ui (fr_ui (fr_ui I 54 0 (4 * r) (I 54 0 (4 * r + 1))) 54 0 (4 * r + 1) ((fr_ui I 54 0 (4 * r) (I 54 0 (4 * r + 1))) 54 0 (4 * r + 2))) 54 0 (4 * r + 2) ((fr_ui (fr_ui I 54 0 (4 * r) (I 54 0 (4 * r + 1))) 54 0 (4 * r + 1) ((fr_ui I 54 0 (4 * r) (I 54 0 (4 * r + 1))) 54 0 (4 * r + 2))) 54 0 (4 * r + 3))) 54 0 (4 * r + 3) (f_O_flow ((fr_ui (fr_ui (fr_ui I 54 0 (4 * r) (I 54 0 (4 * r + 1))) 54 0 (4 * r + 1) ((fr_ui I 54 0 (4 * r) (I 54 0 (4 * r + 1))) 54 0 (4 * r + 2))) 54 0 (4 * r + 2) ((fr_ui (fr_ui I 54 0 (4 * r) (I 54 0 (4 * r + 1))) 54 0 (4 * r + 1) ((fr_ui I 54 0 (4 * r) (I 54 0 (4 * r + 1))) 54 0 (4 * r + 2))) 54 0 (4 * r + 3)))) n r)) 48 0 r)).toInt64) ≤ 0 then (0 : Int32) else 1)) 57 0 r) + 1))) r) 59 0 r 1) 58 0 r (((fr_ui (f_O_send ((fr_ui (fr_ui (fr_ui (fr_ui (fr_ui (fr_ui I 54 0 (4 * r) (I 54 0 (4 * r + 1))) 54 0 (4 * r + 1) ((fr_ui I 54 0 (4 * r) (I 54 0 (4 * r + 1))) 54 0 (4 * r + 2))) 54 0 (4 * r + 2) ((fr_ui (fr_ui I 54 0 (4 * r) (I 54 0 (4 * r + 1))) 54 0 (4 * r + 1) ((fr_ui I 54 0 (4 * r) (I 54 0 (4 * r + 1))) 54 0 (4 * r + 2))) 54 0 (4 * r + 3))) 54 0 (4 * r + 3) (f_O_flow ((fr_ui (fr_ui (fr_ui I 54 0 (4 * r) (I 54 0 (4 * r + 1))) 54 0 (4 * r + 1) ((fr_ui I 54 0 (4 * r) (I 54 0 (4 * r + 1))) 54 0 (4 * r + 2))) 54 0 (4 * r + 2) ((fr_ui (fr_ui I 54 0 (4 * r) (I 54 0 (4 * r + 1))) 54 0 (4 * r + 1) ((fr_ui I 54 0 (4 * r) (I 54 0 (4 * r + 1))) 54 0 (4 * r + 2))) 54 0 (4 * r + 3)))) n r)) 56 0 r (if (lg_cmp ((f_O_root ((fr_ui (fr_ui (fr_ui (fr_ui I 54 0 (4 * r) (I 54 0 (4 * r + 1))) 54 0 (4 * r + 1) ((fr_ui I 54 0 (4 * r) (I 54 0 (4 * r + 1))) 54 0 (4 * r + 2))) 54 0 (4 * r + 2) ((fr_ui (fr_ui I 54 0 (4 * r) (I 54 0 (4 * r + 1))) 54 0 (4 * r + 1) ((fr_ui I 54 0 (4 * r) (I 54 0 (4 * r + 1))) 54 0 (4 * r + 2))) 54 0 (4 * r + 3))) 54 0 (4 * r + 3) (f_O_flow ((fr_ui (fr_ui (fr_ui I 54 0 (4 * r) (I 54 0 (4 * r + 1))) 54 0 (4 * r + 1) ((fr_ui I 54 0 (4 * r) (I 54 0 (4 * r + 1))) 54 0 (4 * r + 2))) 54 0 (4 * r + 2) ((fr_ui (fr_ui I 54 0 (4 * r) (I 54 0 (4 * r + 1))) 54 0 (4 * r + 1) ((fr_ui I 54 0 (4 * r) (I 54 0 (4 * r + 1))) 54 0 (4 * r + 2))) 54 0 (4 * r + 3)))) n r))) r)).toInt64 (((fr_ui (fr_ui (fr_ui (fr_ui I 54 0 (4 * r) (I 54 0 (4 * r + 1))) 54 0 (4 * r + 1) ((fr_ui I 54 0 (4 * r) (I 54 0 (4 * r + 1))) 54 0 (4 * r + 2))) 54 0 (4 * r + 2) ((fr_ui (fr_ui I 54 0 (4 * r) (I 54 0 (4 * r + 1))) 54 0 (4 * r + 1) ((fr_ui I 54 0 (4 * r) (I 54 0 (4 * r + 1))) 54 0 (4 * r + 2))) 54 0 (4 * r + 3))) 54 0 (4 * r + 3) (f_O_flow ((fr_ui (fr_ui (fr_ui I 54 0 (4 * r) (I 54 0 (4 * r + 1))) 54 0 (4 * r + 1) ((fr_ui I 54 0 (4 * r) (I 54 0 (4 * r + 1))) 54 0 (4 * r + 2))) 54 0 (4 * r + 2) ((fr_ui (fr_ui I 54 0 (4 * r) (I 54 0 (4 * r + 1))) 54 0 (4 * r + 1) ((fr_ui I 54 0 (4 * r) (I 54 0 (4 * r + 1))) 54 0 (4 * r + 2))) 54 0 (4 * r + 3)))) n r)) 48 0 r)).toInt64) ≤ 0 then (0 : Int32) else 1)) 57 0 r (((fr_ui (fr_ui (fr_ui (fr_ui (fr_ui I 54 0 (4 * r) (I 54 0 (4 * r + 1))) 54 0 (4 * r + 1) ((fr_ui I 54 0 (4 * r) (I 54 0 (4 * r + 1))) 54 0 (4 * r + 2))) 54 0 (4 * r + 2) ((fr_ui (fr_ui I 54 0 (4 * r) (I 54 0 (4 * r + 1))) 54 0 (4 * r + 1) ((fr_ui I 54 0 (4 * r) (I 54 0 (4 * r + 1))) 54 0 (4 * r + 2))) 54 0 (4 * r + 3))) 54 0 (4 * r + 3) (f_O_flow ((fr_ui (fr_ui (fr_ui I 54 0 (4 * r) (I 54 0 (4 * r + 1))) 54 0 (4 * r + 1) ((fr_ui I 54 0 (4 * r) (I 54 0 (4 * r + 1))) 54 0 (4 * r + 2))) 54 0 (4 * r + 2) ((fr_ui (fr_ui I 54 0 (4 * r) (I 54 0 (4 * r + 1))) 54 0 (4 * r + 1) ((fr_ui I 54 0 (4 * r) (I 54 0 (4 * r + 1))) 54 0 (4 * r + 2))) 54 0 (4 * r + 3)))) n r)) 56 0 r (if (lg_cmp ((f_O_root ((fr_ui (fr_ui (fr_ui (fr_ui I 54 0 (4 * r) (I 54 0 (4 * r + 1))) 54 0 (4 * r + 1) ((fr_ui I 54 0 (4 * r) (I 54 0 (4 * r + 1))) 54 0 (4 * r + 2))) 54 0 (4 * r + 2) ((fr_ui (fr_ui I 54 0 (4 * r) (I 54 0 (4 * r + 1))) 54 0 (4 * r + 1) ((fr_ui I 54 0 (4 * r) (I 54 0 (4 * r + 1))) 54 0 (4 * r + 2))) 54 0 (4 * r + 3))) 54 0 (4 * r + 3) (f_O_flow ((fr_ui (fr_ui (fr_ui I 54 0 (4 * r) (I 54 0 (4 * r + 1))) 54 0 (4 * r + 1) ((fr_ui I 54 0 (4 * r) (I 54 0 (4 * r + 1))) 54 0 (4 * r + 2))) 54 0 (4 * r + 2) ((fr_ui (fr_ui I 54 0 (4 * r) (I 54 0 (4 * r + 1))) 54 0 (4 * r + 1) ((fr_ui I 54 0 (4 * r) (I 54 0 (4 * r + 1))) 54 0 (4 * r + 2))) 54 0 (4 * r + 3)))) n r))) r)).toInt64 (((fr_ui (fr_ui (fr_ui (fr_ui I 54 0 (4 * r) (I 54 0 (4 * r + 1))) 54 0 (4 * r + 1) ((fr_ui I 54 0 (4 * r) (I 54 0 (4 * r + 1))) 54 0 (4 * r + 2))) 54 0 (4 * r + 2) ((fr_ui (fr_ui I 54 0 (4 * r) (I 54 0 (4 * r + 1))) 54 0 (4 * r + 1) ((fr_ui I 54 0 (4 * r) (I 54 0 (4 * r + 1))) 54 0 (4 * r + 2))) 54 0 (4 * r + 3))) 54 0 (4 * r + 3) (f_O_flow ((fr_ui (fr_ui (fr_ui I 54 0 (4 * r) (I 54 0 (4 * r + 1))) 54 0 (4 * r + 1) ((fr_ui I 54 0 (4 * r) (I 54 0 (4 * r + 1))) 54 0 (4 * r + 2))) 54 0 (4 * r + 2) ((fr_ui (fr_ui I 54 0 (4 * r) (I 54 0 (4 * r + 1))) 54 0 (4 * r + 1) ((fr_ui I 54 0 (4 * r) (I 54 0 (4 * r + 1))) 54 0 (4 * r + 2))) 54 0 (4 * r + 3)))) n r)) 48 0 r)).toInt64) ≤ 0 then (0 : Int32) else 1)) 57 0 r) + 1))) r) 59 0 r 1) 20 0 1) + 1)), (fr_uj J 55 0 r 0))
  else
    if ((fr_ui (fr_ui (fr_ui (fr_ui I 54 0 (4 * r) (I 54 0 (4 * r + 1))) 54 0 (4 * r + 1) ((fr_ui I 54 0 (4 * r) (I 54 0 (4 * r + 1))) 54 0 (4 * r + 2))) 54 0 (4 * r + 2) ((fr_ui (fr_ui I 54 0 (4 * r) (I 54 0 (4 * r + 1))) 54 0 (4 * r + 1) ((fr_ui I 54 0 (4 * r) (I 54 0 (4 * r + 1))) 54 0 (4 * r + 2))) 54 0 (4 * r + 3))) 54 0 (4 * r + 3) (f_O_flow ((fr_ui (fr_ui (fr_ui I 54 0 (4 * r) (I 54 0 (4 * r + 1))) 54 0 (4 * r + 1) ((fr_ui I 54 0 (4 * r) (I 54 0 (4 * r + 1))) 54 0 (4 * r + 2))) 54 0 (4 * r + 2) ((fr_ui (fr_ui I 54 0 (4 * r) (I 54 0 (4 * r + 1))) 54 0 (4 * r + 1) ((fr_ui I 54 0 (4 * r) (I 54 0 (4 * r + 1))) 54 0 (4 * r + 2))) 54 0 (4 * r + 3)))) n r)) 47 0 r) = 0 then
      if (if (lg_cmp ((f_O_root ((fr_ui (fr_ui (fr_ui (fr_ui I 54 0 (4 * r) (I 54 0 (4 * r + 1))) 54 0 (4 * r + 1) ((fr_ui I 54 0 (4 * r) (I 54 0 (4 * r + 1))) 54 0 (4 * r + 2))) 54 0 (4 * r + 2) ((fr_ui (fr_ui I 54 0 (4 * r) (I 54 0 (4 * r + 1))) 54 0 (4 * r + 1) ((fr_ui I 54 0 (4 * r) (I 54 0 (4 * r + 1))) 54 0 (4 * r + 2))) 54 0 (4 * r + 3))) 54 0 (4 * r + 3) (f_O_flow ((fr_ui (fr_ui (fr_ui I 54 0 (4 * r) (I 54 0 (4 * r + 1))) 54 0 (4 * r + 1) ((fr_ui I 54 0 (4 * r) (I 54 0 (4 * r + 1))) 54 0 (4 * r + 2))) 54 0 (4 * r + 2) ((fr_ui (fr_ui I 54 0 (4 * r) (I 54 0 (4 * r + 1))) 54 0 (4 * r + 1) ((fr_ui I 54 0 (4 * r) (I 54 0 (4 * r + 1))) 54 0 (4 * r + 2))) 54 0 (4 * r + 3)))) n r))) r)).toInt64 (((fr_ui (fr_ui (fr_ui (fr_ui I 54 0 (4 * r) (I 54 0 (4 * r + 1))) 54 0 (4 * r + 1) ((fr_ui I 54 0 (4 * r) (I 54 0 (4 * r + 1))) 54 0 (4 * r + 2))) 54 0 (4 * r + 2) ((fr_ui (fr_ui I 54 0 (4 * r) (I 54 0 (4 * r + 1))) 54 0 (4 * r + 1) ((fr_ui I 54 0 (4 * r) (I 54 0 (4 * r + 1))) 54 0 (4 * r + 2))) 54 0 (4 * r + 3))) 54 0 (4 * r + 3) (f_O_flow ((fr_ui (fr_ui (fr_ui I 54 0 (4 * r) (I 54 0 (4 * r + 1))) 54 0 (4 * r + 1) ((fr_ui I 54 0 (4 * r) (I 54 0 (4 * r + 1))) 54 0 (4 * r + 2))) 54 0 (4 * r + 2) ((fr_ui (fr_ui I 54 0 (4 * r) (I 54 0 (4 * r + 1))) 54 0 (4 * r + 1) ((fr_ui I 54 0 (4 * r) (I 54 0 (4 * r + 1))) 54 0 (4 * r + 2))) 54 0 (4 * r + 3)))) n r)) 48 0 r)).toInt64) ≤ 0 then (0 : Int32) else 1) = ((fr_ui (fr_ui (fr_ui (fr_ui I 54 0 (4 * r) (I 54 0 (4 * r + 1))) 54 0 (4 * r + 1) ((fr_ui I 54 0 (4 * r) (I 54 0 (4 * r + 1))) 54 0 (4 * r + 2))) 54 0 (4 * r + 2) ((fr_ui (fr_ui I 54 0 (4 * r) (I 54 0 (4 * r + 1))) 54 0 (4 * r + 1) ((fr_ui I 54 0 (4 * r) (I 54 0 (4 * r + 1))) 54 0 (4 * r + 2))) 54 0 (4 * r + 3))) 54 0 (4 * r + 3) (f_O_flow ((fr_ui (fr_ui (fr_ui I 54 0 (4 * r) (I 54 0 (4 * r + 1))) 54 0 (4 * r + 1) ((fr_ui I 54 0 (4 * r) (I 54 0 (4 * r + 1))) 54 0 (4 * r + 2))) 54 0 (4 * r + 2) ((fr_ui (fr_ui I 54 0 (4 * r) (I 54 0 (4 * r + 1))) 54 0 (4 * r + 1) ((fr_ui I 54 0 (4 * r) (I 54 0 (4 * r + 1))) 54 0 (4 * r + 2))) 54 0 (4 * r + 3)))) n r)) 56 0 r) then
        if ((fr_ui (fr_ui (fr_ui (fr_ui I 54 0 (4 * r) (I 54 0 (4 * r + 1))) 54 0 (4 * r + 1) ((fr_ui I 54 0 (4 * r) (I 54 0 (4 * r + 1))) 54 0 (4 * r + 2))) 54 0 (4 * r + 2) ((fr_ui (fr_ui I 54 0 (4 * r) (I 54 0 (4 * r + 1))) 54 0 (4 * r + 1) ((fr_ui I 54 0 (4 * r) (I 54 0 (4 * r + 1))) 54 0 (4 * r + 2))) 54 0 (4 * r + 3))) 54 0 (4 * r + 3) (f_O_flow ((fr_ui (fr_ui (fr_ui I 54 0 (4 * r) (I 54 0 (4 * r + 1))) 54 0 (4 * r + 1) ((fr_ui I 54 0 (4 * r) (I 54 0 (4 * r + 1))) 54 0 (4 * r + 2))) 54 0 (4 * r + 2) ((fr_ui (fr_ui I 54 0 (4 * r) (I 54 0 (4 * r + 1))) 54 0 (4 * r + 1) ((fr_ui I 54 0 (4 * r) (I 54 0 (4 * r + 1))) 54 0 (4 * r + 2))) 54 0 (4 * r + 3)))) n r)) 58 0 r) = ((fr_ui (fr_ui (fr_ui (fr_ui I 54 0 (4 * r) (I 54 0 (4 * r + 1))) 54 0 (4 * r + 1) ((fr_ui I 54 0 (4 * r) (I 54 0 (4 * r + 1))) 54 0 (4 * r + 2))) 54 0 (4 * r + 2) ((fr_ui (fr_ui I 54 0 (4 * r) (I 54 0 (4 * r + 1))) 54 0 (4 * r + 1) ((fr_ui I 54 0 (4 * r) (I 54 0 (4 * r + 1))) 54 0 (4 * r + 2))) 54 0 (4 * r + 3))) 54 0 (4 * r + 3) (f_O_flow ((fr_ui (fr_ui (fr_ui I 54 0 (4 * r) (I 54 0 (4 * r + 1))) 54 0 (4 * r + 1) ((fr_ui I 54 0 (4 * r) (I 54 0 (4 * r + 1))) 54 0 (4 * r + 2))) 54 0 (4 * r + 2) ((fr_ui (fr_ui I 54 0 (4 * r) (I 54 0 (4 * r + 1))) 54 0 (4 * r + 1) ((fr_ui I 54 0 (4 * r) (I 54 0 (4 * r + 1))) 54 0 (4 * r + 2))) 54 0 (4 * r + 3)))) n r)) 20 0 1) then
          if ((f_O_send ((fr_ui (fr_ui (fr_ui (fr_ui I 54 0 (4 * r) (I 54 0 (4 * r + 1))) 54 0 (4 * r + 1) ((fr_ui I 54 0 (4 * r) (I 54 0 (4 * r + 1))) 54 0 (4 * r + 2))) 54 0 (4 * r + 2) ((fr_ui (fr_ui I 54 0 (4 * r) (I 54 0 (4 * r + 1))) 54 0 (4 * r + 1) ((fr_ui I 54 0 (4 * r) (I 54 0 (4 * r + 1))) 54 0 (4 * r + 2))) 54 0 (4 * r + 3))) 54 0 (4 * r + 3) (f_O_flow ((fr_ui (fr_ui (fr_ui I 54 0 (4 * r) (I 54 0 (4 * r + 1))) 54 0 (4 * r + 1) ((fr_ui I 54 0 (4 * r) (I 54 0 (4 * r + 1))) 54 0 (4 * r + 2))) 54 0 (4 * r + 2) ((fr_ui (fr_ui I 54 0 (4 * r) (I 54 0 (4 * r + 1))) 54 0 (4 * r + 1) ((fr_ui I 54 0 (4 * r) (I 54 0 (4 * r + 1))) 54 0 (4 * r + 2))) 54 0 (4 * r + 3)))) n r))) r) 59 0 r) < 4 then
            ((fr_ui (fr_ui (f_O_send ((fr_ui (fr_ui (fr_ui (fr_ui I 54 0 (4 * r) (I 54 0 (4 * r + 1))) 54 0 (4 * r + 1) ((fr_ui I 54 0 (4 * r) (I 54 0 (4 * r + 1))) 54 0 (4 * r + 2))) 54 0 (4 * r + 2) ((fr_ui (fr_ui I 54 0 (4 * r) (I 54 0 (4 * r + 1))) 54 0 (4 * r + 1) ((fr_ui I 54 0 (4 * r) (I 54 0 (4 * r + 1))) 54 0 (4 * r + 2))) 54 0 (4 * r + 3))) 54 0 (4 * r + 3) (f_O_flow ((fr_ui (fr_ui (fr_ui I 54 0 (4 * r) (I 54 0 (4 * r + 1))) 54 0 (4 * r + 1) ((fr_ui I 54 0 (4 * r) (I 54 0 (4 * r + 1))) 54 0 (4 * r + 2))) 54 0 (4 * r + 2) ((fr_ui (fr_ui I 54 0 (4 * r) (I 54 0 (4 * r + 1))) 54 0 (4 * r + 1) ((fr_ui I 54 0 (4 * r) (I 54 0 (4 * r + 1))) 54 0 (4 * r + 2))) 54 0 (4 * r + 3)))) n r))) r) 59 0 r (2 * ((f_O_send ((fr_ui (fr_ui (fr_ui (fr_ui I 54 0 (4 * r) (I 54 0 (4 * r + 1))) 54 0 (4 * r + 1) ((fr_ui I 54 0 (4 * r) (I 54 0 (4 * r + 1))) 54 0 (4 * r + 2))) 54 0 (4 * r + 2) ((fr_ui (fr_ui I 54 0 (4 * r) (I 54 0 (4 * r + 1))) 54 0 (4 * r + 1) ((fr_ui I 54 0 (4 * r) (I 54 0 (4 * r + 1))) 54 0 (4 * r + 2))) 54 0 (4 * r + 3))) 54 0 (4 * r + 3) (f_O_flow ((fr_ui (fr_ui (fr_ui I 54 0 (4 * r) (I 54 0 (4 * r + 1))) 54 0 (4 * r + 1) ((fr_ui I 54 0 (4 * r) (I 54 0 (4 * r + 1))) 54 0 (4 * r + 2))) 54 0 (4 * r + 2) ((fr_ui (fr_ui I 54 0 (4 * r) (I 54 0 (4 * r + 1))) 54 0 (4 * r + 1) ((fr_ui I 54 0 (4 * r) (I 54 0 (4 * r + 1))) 54 0 (4 * r + 2))) 54 0 (4 * r + 3)))) n r))) r) 59 0 r))) 58 0 r (((fr_ui (f_O_send ((fr_ui (fr_ui (fr_ui (fr_ui I 54 0 (4 * r) (I 54 0 (4 * r + 1))) 54 0 (4 * r + 1) ((fr_ui I 54 0 (4 * r) (I 54 0 (4 * r + 1))) 54 0 (4 * r + 2))) 54 0 (4 * r + 2) ((fr_ui (fr_ui I 54 0 (4 * r) (I 54 0 (4 * r + 1))) 54 0 (4 * r + 1) ((fr_ui I 54 0 (4 * r) (I 54 0 (4 * r + 1))) 54 0 (4 * r + 2))) 54 0 (4 * r + 3))) 54 0 (4 * r + 3) (f_O_flow ((fr_ui (fr_ui (fr_ui I 54 0 (4 * r) (I 54 0 (4 * r + 1))) 54 0 (4 * r + 1) ((fr_ui I 54 0 (4 * r) (I 54 0 (4 * r + 1))) 54 0 (4 * r + 2))) 54 0 (4 * r + 2) ((fr_ui (fr_ui I 54 0 (4 * r) (I 54 0 (4 * r + 1))) 54 0 (4 * r + 1) ((fr_ui I 54 0 (4 * r) (I 54 0 (4 * r + 1))) 54 0 (4 * r + 2))) 54 0 (4 * r + 3)))) n r))) r) 59 0 r (2 * ((f_O_send ((fr_ui (fr_ui (fr_ui (fr_ui I 54 0 (4 * r) (I 54 0 (4 * r + 1))) 54 0 (4 * r + 1) ((fr_ui I 54 0 (4 * r) (I 54 0 (4 * r + 1))) 54 0 (4 * r + 2))) 54 0 (4 * r + 2) ((fr_ui (fr_ui I 54 0 (4 * r) (I 54 0 (4 * r + 1))) 54 0 (4 * r + 1) ((fr_ui I 54 0 (4 * r) (I 54 0 (4 * r + 1))) 54 0 (4 * r + 2))) 54 0 (4 * r + 3))) 54 0 (4 * r + 3) (f_O_flow ((fr_ui (fr_ui (fr_ui I 54 0 (4 * r) (I 54 0 (4 * r + 1))) 54 0 (4 * r + 1) ((fr_ui I 54 0 (4 * r) (I 54 0 (4 * r + 1))) 54 0 (4 * r + 2))) 54 0 (4 * r + 2) ((fr_ui (fr_ui I 54 0 (4 * r) (I 54 0 (4 * r + 1))) 54 0 (4 * r + 1) ((fr_ui I 54 0 (4 * r) (I 54 0 (4 * r + 1))) 54 0 (4 * r + 2))) 54 0 (4 * r + 3)))) n r))) r) 59 0 r))) 20 0 1) + ((fr_ui (f_O_send ((fr_ui (fr_ui (fr_ui (fr_ui I 54 0 (4 * r) (I 54 0 (4 * r + 1))) 54 0 (4 * r + 1) ((fr_ui I 54 0 (4 * r) (I 54 0 (4 * r + 1))) 54 0 (4 * r + 2))) 54 0 (4 * r + 2) ((fr_ui (fr_ui I 54 0 (4 * r) (I 54 0 (4 * r + 1))) 54 0 (4 * r + 1) ((fr_ui I 54 0 (4 * r) (I 54 0 (4 * r + 1))) 54 0 (4 * r + 2))) 54 0 (4 * r + 3))) 54 0 (4 * r + 3) (f_O_flow ((fr_ui (fr_ui (fr_ui I 54 0 (4 * r) (I 54 0 (4 * r + 1))) 54 0 (4 * r + 1) ((fr_ui I 54 0 (4 * r) (I 54 0 (4 * r + 1))) 54 0 (4 * r + 2))) 54 0 (4 * r + 2) ((fr_ui (fr_ui I 54 0 (4 * r) (I 54 0 (4 * r + 1))) 54 0 (4 * r + 1) ((fr_ui I 54 0 (4 * r) (I 54 0 (4 * r + 1))) 54 0 (4 * r + 2))) 54 0 (4 * r + 3)))) n r))) r) 59 0 r (2 * ((f_O_send ((fr_ui (fr_ui (fr_ui (fr_ui I 54 0 (4 * r) (I 54 0 (4 * r + 1))) 54 0 (4 * r + 1) ((fr_ui I 54 0 (4 * r) (I 54 0 (4 * r + 1))) 54 0 (4 * r + 2))) 54 0 (4 * r + 2) ((fr_ui (fr_ui I 54 0 (4 * r) (I 54 0 (4 * r + 1))) 54 0 (4 * r + 1) ((fr_ui I 54 0 (4 * r) (I 54 0 (4 * r + 1))) 54 0 (4 * r + 2))) 54 0 (4 * r + 3))) 54 0 (4 * r + 3) (f_O_flow ((fr_ui (fr_ui (fr_ui I 54 0 (4 * r) (I 54 0 (4 * r + 1))) 54 0 (4 * r + 1) ((fr_ui I 54 0 (4 * r) (I 54 0 (4 * r + 1))) 54 0 (4 * r + 2))) 54 0 (4 * r + 2) ((fr_ui (fr_ui I 54 0 (4 * r) (I 54 0 (4 * r + 1))) 54 0 (4 * r + 1) ((fr_ui I 54 0 (4 * r) (I 54 0 (4 * r + 1))) 54 0 (4 * r + 2))) 54 0 (4 * r + 3)))) n r))) r) 59 0 r))) 59 0 r))), (fr_uj J 55 0 r ((J 55 0 r) + 1)))
          else
            ((fr_ui (fr_ui (f_O_send ((fr_ui (fr_ui (fr_ui (fr_ui I 54 0 (4 * r) (I 54 0 (4 * r + 1))) 54 0 (4 * r + 1) ((fr_ui I 54 0 (4 * r) (I 54 0 (4 * r + 1))) 54 0 (4 * r + 2))) 54 0 (4 * r + 2) ((fr_ui (fr_ui I 54 0 (4 * r) (I 54 0 (4 * r + 1))) 54 0 (4 * r + 1) ((fr_ui I 54 0 (4 * r) (I 54 0 (4 * r + 1))) 54 0 (4 * r + 2))) 54 0 (4 * r + 3))) 54 0 (4 * r + 3) (f_O_flow ((fr_ui (fr_ui (fr_ui I 54 0 (4 * r) (I 54 0 (4 * r + 1))) 54 0 (4 * r + 1) ((fr_ui I 54 0 (4 * r) (I 54 0 (4 * r + 1))) 54 0 (4 * r + 2))) 54 0 (4 * r + 2) ((fr_ui (fr_ui I 54 0 (4 * r) (I 54 0 (4 * r + 1))) 54 0 (4 * r + 1) ((fr_ui I 54 0 (4 * r) (I 54 0 (4 * r + 1))) 54 0 (4 * r + 2))) 54 0 (4 * r + 3)))) n r))) r) 59 0 r 8) 58 0 r (((fr_ui (f_O_send ((fr_ui (fr_ui (fr_ui (fr_ui I 54 0 (4 * r) (I 54 0 (4 * r + 1))) 54 0 (4 * r + 1) ((fr_ui I 54 0 (4 * r) (I 54 0 (4 * r + 1))) 54 0 (4 * r + 2))) 54 0 (4 * r + 2) ((fr_ui (fr_ui I 54 0 (4 * r) (I 54 0 (4 * r + 1))) 54 0 (4 * r + 1) ((fr_ui I 54 0 (4 * r) (I 54 0 (4 * r + 1))) 54 0 (4 * r + 2))) 54 0 (4 * r + 3))) 54 0 (4 * r + 3) (f_O_flow ((fr_ui (fr_ui (fr_ui I 54 0 (4 * r) (I 54 0 (4 * r + 1))) 54 0 (4 * r + 1) ((fr_ui I 54 0 (4 * r) (I 54 0 (4 * r + 1))) 54 0 (4 * r + 2))) 54 0 (4 * r + 2) ((fr_ui (fr_ui I 54 0 (4 * r) (I 54 0 (4 * r + 1))) 54 0 (4 * r + 1) ((fr_ui I 54 0 (4 * r) (I 54 0 (4 * r + 1))) 54 0 (4 * r + 2))) 54 0 (4 * r + 3)))) n r))) r) 59 0 r 8) 20 0 1) + ((fr_ui (f_O_send ((fr_ui (fr_ui (fr_ui (fr_ui I 54 0 (4 * r) (I 54 0 (4 * r + 1))) 54 0 (4 * r + 1) ((fr_ui I 54 0 (4 * r) (I 54 0 (4 * r + 1))) 54 0 (4 * r + 2))) 54 0 (4 * r + 2) ((fr_ui (fr_ui I 54 0 (4 * r) (I 54 0 (4 * r + 1))) 54 0 (4 * r + 1) ((fr_ui I 54 0 (4 * r) (I 54 0 (4 * r + 1))) 54 0 (4 * r + 2))) 54 0 (4 * r + 3))) 54 0 (4 * r + 3) (f_O_flow ((fr_ui (fr_ui (fr_ui I 54 0 (4 * r) (I 54 0 (4 * r + 1))) 54 0 (4 * r + 1) ((fr_ui I 54 0 (4 * r) (I 54 0 (4 * r + 1))) 54 0 (4 * r + 2))) 54 0 (4 * r + 2) ((fr_ui (fr_ui I 54 0 (4 * r) (I 54 0 (4 * r + 1))) 54 0 (4 * r + 1) ((fr_ui I 54 0 (4 * r) (I 54 0 (4 * r + 1))) 54 0 (4 * r + 2))) 54 0 (4 * r + 3)))) n r))) r) 59 0 r 8) 59 0 r))), (fr_uj J 55 0 r ((J 55 0 r) + 1)))
        else
          ((fr_ui (fr_ui (fr_ui (fr_ui I 54 0 (4 * r) (I 54 0 (4 * r + 1))) 54 0 (4 * r + 1) ((fr_ui I 54 0 (4 * r) (I 54 0 (4 * r + 1))) 54 0 (4 * r + 2))) 54 0 (4 * r + 2) ((fr_ui (fr_ui I 54 0 (4 * r) (I 54 0 (4 * r + 1))) 54 0 (4 * r + 1) ((fr_ui I 54 0 (4 * r) (I 54 0 (4 * r + 1))) 54 0 (4 * r + 2))) 54 0 (4 * r + 3))) 54 0 (4 * r + 3) (f_O_flow ((fr_ui (fr_ui (fr_ui I 54 0 (4 * r) (I 54 0 (4 * r + 1))) 54 0 (4 * r + 1) ((fr_ui I 54 0 (4 * r) (I 54 0 (4 * r + 1))) 54 0 (4 * r + 2))) 54 0 (4 * r + 2) ((fr_ui (fr_ui I 54 0 (4 * r) (I 54 0 (4 * r + 1))) 54 0 (4 * r + 1) ((fr_ui I 54 0 (4 * r) (I 54 0 (4 * r + 1))) 54 0 (4 * r + 2))) 54 0 (4 * r + 3)))) n r)), (fr_uj J 55 0 r ((J 55 0 r) + 1)))
      else
        ((fr_ui (fr_ui (f_O_send ((fr_ui (fr_ui (fr_ui (fr_ui (fr_ui (fr_ui I 54 0 (4 * r) (I 54 0 (4 * r + 1))) 54 0 (4 * r + 1) ((fr_ui I 54 0 (4 * r) (I 54 0 (4 * r + 1))) 54 0 (4 * r + 2))) 54 0 (4 * r + 2) ((fr_ui (fr_ui I 54 0 (4 * r) (I 54 0 (4 * r + 1))) 54 0 (4 * r + 1) ((fr_ui I 54 0 (4 * r) (I 54 0 (4 * r + 1))) 54 0 (4 * r + 2))) 54 0 (4 * r + 3))) 54 0 (4 * r + 3) (f_O_flow ((fr_ui (fr_ui (fr_ui I 54 0 (4 * r) (I 54 0 (4 * r + 1))) 54 0 (4 * r + 1) ((fr_ui I 54 0 (4 * r) (I 54 0 (4 * r + 1))) 54 0 (4 * r + 2))) 54 0 (4 * r + 2) ((fr_ui (fr_ui I 54 0 (4 * r) (I 54 0 (4 * r + 1))) 54 0 (4 * r + 1) ((fr_ui I 54 0 (4 * r) (I 54 0 (4 * r + 1))) 54 0 (4 * r + 2))) 54 0 (4 * r + 3)))) n r)) 56 0 r (if (lg_cmp ((f_O_root ((fr_ui (fr_ui (fr_ui (fr_ui I 54 0 (4 * r) (I 54 0 (4 * r + 1))) 54 0 (4 * r + 1) ((fr_ui I 54 0 (4 * r) (I 54 0 (4 * r + 1))) 54 0 (4 * r + 2))) 54 0 (4 * r + 2) ((fr_ui (fr_ui I 54 0 (4 * r) (I 54 0 (4 * r + 1))) 54 0 (4 * r + 1) ((fr_ui I 54 0 (4 * r) (I 54 0 (4 * r + 1))) 54 0 (4 * r + 2))) 54 0 (4 * r + 3))) 54 0 (4 * r + 3) (f_O_flow ((fr_ui (fr_ui (fr_ui I 54 0 (4 * r) (I 54 0 (4 * r + 1))) 54 0 (4 * r + 1) ((fr_ui I 54 0 (4 * r) (I 54 0 (4 * r + 1))) 54 0 (4 * r + 2))) 54 0 (4 * r + 2) ((fr_ui (fr_ui I 54 0 (4 * r) (I 54 0 (4 * r + 1))) 54 0 (4 * r + 1) ((fr_ui I 54 0 (4 * r) (I 54 0 (4 * r + 1))) 54 0 (4 * r + 2))) 54 0 (4 * r + 3)))) n r))) r)).toInt64 (((fr_ui (fr_ui (fr_ui (fr_ui I 54 0 (4 * r) (I 54 0 (4 * r + 1))) 54 0 (4 * r + 1) ((fr_ui I 54 0 (4 * r) (I 54 0 (4 * r + 1))) 54 0 (4 * r + 2))) 54 0 (4 * r + 2) ((fr_ui (fr_ui I 54 0 (4 * r) (I 54 0 (4 * r + 1))) 54 0 (4 * r + 1) ((fr_ui I 54 0 (4 * r) (I 54 0 (4 * r + 1))) 54 0 (4 * r + 2))) 54 0 (4 * r + 3))) 54 0 (4 * r + 3) (f_O_flow ((fr_ui (fr_ui (fr_ui I 54 0 (4 * r) (I 54 0 (4 * r + 1))) 54 0 (4 * r + 1) ((fr_ui I 54 0 (4 * r) (I 54 0 (4 * r + 1))) 54 0 (4 * r + 2))) 54 0 (4 * r + 2) ((fr_ui (fr_ui I 54 0 (4 * r) (I 54 0 (4 * r + 1))) 54 0 (4 * r + 1) ((fr_ui I 54 0 (4 * r) (I 54 0 (4 * r + 1))) 54 0 (4 * r + 2))) 54 0 (4 * r + 3)))) n r)) 48 0 r)).toInt64) ≤ 0 then (0 : Int32) else 1)) 57 0 r (((fr_ui (fr_ui (fr_ui (fr_ui (fr_ui I 54 0 (4 * r) (I 54 0 (4 * r + 1))) 54 0 (4 * r + 1) ((fr_ui I 54 0 (4 * r) (I 54 0 (4 * r + 1))) 54 0 (4 * r + 2))) 54 0 (4 * r + 2) ((fr_ui (fr_ui I 54 0 (4 * r) (I 54 0 (4 * r + 1))) 54 0 (4 * r + 1) ((fr_ui I 54 0 (4 * r) (I 54 0 (4 * r + 1))) 54 0 (4 * r + 2))) 54 0 (4 * r + 3))) 54 0 (4 * r + 3) (f_O_flow ((fr_ui (fr_ui (fr_ui I 54 0 (4 * r) (I 54 0 (4 * r + 1))) 54 0 (4 * r + 1) ((fr_ui I 54 0 (4 * r) (I 54 0 (4 * r + 1))) 54 0 (4 * r + 2))) 54 0 (4 * r + 2) ((fr_ui (fr_ui I 54 0 (4 * r) (I 54 0 (4 * r + 1))) 54 0 (4 * r + 1) ((fr_ui I 54 0 (4 * r) (I 54 0 (4 * r + 1))) 54 0 (4 * r + 2))) 54 0 (4 * r + 3)))) n r)) 56 0 r (if (lg_cmp ((f_O_root ((fr_ui (fr_ui (fr_ui (fr_ui I 54 0 (4 * r) (I 54 0 (4 * r + 1))) 54 0 (4 * r + 1) ((fr_ui I 54 0 (4 * r) (I 54 0 (4 * r + 1))) 54 0 (4 * r + 2))) 54 0 (4 * r + 2) ((fr_ui (fr_ui I 54 0 (4 * r) (I 54 0 (4 * r + 1))) 54 0 (4 * r + 1) ((fr_ui I 54 0 (4 * r) (I 54 0 (4 * r + 1))) 54 0 (4 * r + 2))) 54 0 (4 * r + 3))) 54 0 (4 * r + 3) (f_O_flow ((fr_ui (fr_ui (fr_ui I 54 0 (4 * r) (I 54 0 (4 * r + 1))) 54 0 (4 * r + 1) ((fr_ui I 54 0 (4 * r) (I 54 0 (4 * r + 1))) 54 0 (4 * r + 2))) 54 0 (4 * r + 2) ((fr_ui (fr_ui I 54 0 (4 * r) (I 54 0 (4 * r + 1))) 54 0 (4 * r + 1) ((fr_ui I 54 0 (4 * r) (I 54 0 (4 * r + 1))) 54 0 (4 * r + 2))) 54 0 (4 * r + 3)))) n r))) r)).toInt64 (((fr_ui (fr_ui (fr_ui (fr_ui I 54 0 (4 * r) (I 54 0 (4 * r + 1))) 54 0 (4 * r + 1) ((fr_ui I 54 0 (4 * r) (I 54 0 (4 * r + 1))) 54 0 (4 * r + 2))) 54 0 (4 * r + 2) ((fr_ui (fr_ui I 54 0 (4 * r) (I 54 0 (4 * r + 1))) 54 0 (4 * r + 1) ((fr_ui I 54 0 (4 * r) (I 54 0 (4 * r + 1))) 54 0 (4 * r + 2))) 54 0 (4 * r + 3))) 54 0 (4 * r + 3) (f_O_flow ((fr_ui (fr_ui (fr_ui I 54 0 (4 * r) (I 54 0 (4 * r + 1))) 54 0 (4 * r + 1) ((fr_ui I 54 0 (4 * r) (I 54 0 (4 * r + 1))) 54 0 (4 * r + 2))) 54 0 (4 * r + 2) ((fr_ui (fr_ui I 54 0 (4 * r) (I 54 0 (4 * r + 1))) 54 0 (4 * r + 1) ((fr_ui I 54 0 (4 * r) (I 54 0 (4 * r + 1))) 54 0 (4 * r + 2))) 54 0 (4 * r + 3)))) n r)) 48 0 r)).toInt64) ≤ 0 then (0 : Int32) else 1)) 57 0 r) + 1))) r) 59 0 r 1) 58 0 r (((fr_ui (f_O_send ((fr_ui (fr_ui (fr_ui (fr_ui (fr_ui (fr_ui I 54 0 (4 * r) (I 54 0 (4 * r + 1))) 54 0 (4 * r + 1) ((fr_ui I 54 0 (4 * r) (I 54 0 (4 * r + 1))) 54 0 (4 * r + 2))) 54 0 (4 * r + 2) ((fr_ui (fr_ui I 54 0 (4 * r) (I 54 0 (4 * r + 1))) 54 0 (4 * r + 1) ((fr_ui I 54 0 (4 * r) (I 54 0 (4 * r + 1))) 54 0 (4 * r + 2))) 54 0 (4 * r + 3))) 54 0 (4 * r + 3) (f_O_flow ((fr_ui (fr_ui (fr_ui I 54 0 (4 * r) (I 54 0 (4 * r + 1))) 54 0 (4 * r + 1) ((fr_ui I 54 0 (4 * r) (I 54 0 (4 * r + 1))) 54 0 (4 * r + 2))) 54 0 (4 * r + 2) ((fr_ui (fr_ui I 54 0 (4 * r) (I 54 0 (4 * r + 1))) 54 0 (4 * r + 1) ((fr_ui I 54 0 (4 * r) (I 54 0 (4 * r + 1))) 54 0 (4 * r + 2))) 54 0 (4 * r + 3)))) n r)) 56 0 r (if (lg_cmp ((f_O_root ((fr_ui (fr_ui (fr_ui (fr_ui I 54 0 (4 * r) (I 54 0 (4 * r + 1))) 54 0 (4 * r + 1) ((fr_ui I 54 0 (4 * r) (I 54 0 (4 * r + 1))) 54 0 (4 * r + 2))) 54 0 (4 * r + 2) ((fr_ui (fr_ui I 54 0 (4 * r) (I 54 0 (4 * r + 1))) 54 0 (4 * r + 1) ((fr_ui I 54 0 (4 * r) (I 54 0 (4 * r + 1))) 54 0 (4 * r + 2))) 54 0 (4 * r + 3))) 54 0 (4 * r + 3) (f_O_flow ((fr_ui (fr_ui (fr_ui I 54 0 (4 * r) (I 54 0 (4 * r + 1))) 54 0 (4 * r + 1) ((fr_ui I 54 0 (4 * r) (I 54 0 (4 * r + 1))) 54 0 (4 * r + 2))) 54 0 (4 * r + 2) ((fr_ui (fr_ui I 54 0 (4 * r) (I 54 0 (4 * r + 1))) 54 0 (4 * r + 1) ((fr_ui I 54 0 (4 * r) (I 54 0 (4 * r + 1))) 54 0 (4 * r + 2))) 54 0 (4 * r + 3)))) n r))) r)).toInt64 (((fr_ui (fr_ui (fr_ui (fr_ui I 54 0 (4 * r) (I 54 0 (4 * r + 1))) 54 0 (4 * r + 1) ((fr_ui I 54 0 (4 * r) (I 54 0 (4 * r + 1))) 54 0 (4 * r + 2))) 54 0 (4 * r + 2) ((fr_ui (fr_ui I 54 0 (4 * r) (I 54 0 (4 * r + 1))) 54 0 (4 * r + 1) ((fr_ui I 54 0 (4 * r) (I 54 0 (4 * r + 1))) 54 0 (4 * r + 2))) 54 0 (4 * r + 3))) 54 0 (4 * r + 3) (f_O_flow ((fr_ui (fr_ui (fr_ui I 54 0 (4 * r) (I 54 0 (4 * r + 1))) 54 0 (4 * r + 1) ((fr_ui I 54 0 (4 * r) (I 54 0 (4 * r + 1))) 54 0 (4 * r + 2))) 54 0 (4 * r + 2) ((fr_ui (fr_ui I 54 0 (4 * r) (I 54 0 (4 * r + 1))) 54 0 (4 * r + 1) ((fr_ui I 54 0 (4 * r) (I 54 0 (4 * r + 1))) 54 0 (4 * r + 2))) 54 0 (4 * r + 3)))) n r)) 48 0 r)).toInt64) ≤ 0 then (0 : Int32) else 1)) 57 0 r (((fr_ui (fr_ui (fr_ui (fr_ui (fr_ui I 54 0 (4 * r) (I 54 0 (4 * r + 1))) 54 0 (4 * r + 1) ((fr_ui I 54 0 (4 * r) (I 54 0 (4 * r + 1))) 54 0 (4 * r + 2))) 54 0 (4 * r + 2) ((fr_ui (fr_ui I 54 0 (4 * r) (I 54 0 (4 * r + 1))) 54 0 (4 * r + 1) ((fr_ui I 54 0 (4 * r) (I 54 0 (4 * r + 1))) 54 0 (4 * r + 2))) 54 0 (4 * r + 3))) 54 0 (4 * r + 3) (f_O_flow ((fr_ui (fr_ui (fr_ui I 54 0 (4 * r) (I 54 0 (4 * r + 1))) 54 0 (4 * r + 1) ((fr_ui I 54 0 (4 * r) (I 54 0 (4 * r + 1))) 54 0 (4 * r + 2))) 54 0 (4 * r + 2) ((fr_ui (fr_ui I 54 0 (4 * r) (I 54 0 (4 * r + 1))) 54 0 (4 * r + 1) ((fr_ui I 54 0 (4 * r) (I 54 0 (4 * r + 1))) 54 0 (4 * r + 2))) 54 0 (4 * r + 3)))) n r)) 56 0 r (if (lg_cmp ((f_O_root ((fr_ui (fr_ui (fr_ui (fr_ui I 54 0 (4 * r) (I 54 0 (4 * r + 1))) 54 0 (4 * r + 1) ((fr_ui I 54 0 (4 * r) (I 54 0 (4 * r + 1))) 54 0 (4 * r + 2))) 54 0 (4 * r + 2) ((fr_ui (fr_ui I 54 0 (4 * r) (I 54 0 (4 * r + 1))) 54 0 (4 * r + 1) ((fr_ui I 54 0 (4 * r) (I 54 0 (4 * r + 1))) 54 0 (4 * r + 2))) 54 0 (4 * r + 3))) 54 0 (4 * r + 3) (f_O_flow ((fr_ui (fr_ui (fr_ui I 54 0 (4 * r) (I 54 0 (4 * r + 1))) 54 0 (4 * r + 1) ((fr_ui I 54 0 (4 * r) (I 54 0 (4 * r + 1))) 54 0 (4 * r + 2))) 54 0 (4 * r + 2) ((fr_ui (fr_ui I 54 0 (4 * r) (I 54 0 (4 * r + 1))) 54 0 (4 * r + 1) ((fr_ui I 54 0 (4 * r) (I 54 0 (4 * r + 1))) 54 0 (4 * r + 2))) 54 0 (4 * r + 3)))) n r))) r)).toInt64 (((fr_ui (fr_ui (fr_ui (fr_ui I 54 0 (4 * r) (I 54 0 (4 * r + 1))) 54 0 (4 * r + 1) ((fr_ui I 54 0 (4 * r) (I 54 0 (4 * r + 1))) 54 0 (4 * r + 2))) 54 0 (4 * r + 2) ((fr_ui (fr_ui I 54 0 (4 * r) (I 54 0 (4 * r + 1))) 54 0 (4 * r + 1) ((fr_ui I 54 0 (4 * r) (I 54 0 (4 * r + 1))) 54 0 (4 * r + 2))) 54 0 (4 * r + 3))) 54 0 (4 * r + 3) (f_O_flow ((fr_ui (fr_ui (fr_ui I 54 0 (4 * r) (I 54 0 (4 * r + 1))) 54 0 (4 * r + 1) ((fr_ui I 54 0 (4 * r) (I 54 0 (4 * r + 1))) 54 0 (4 * r + 2))) 54 0 (4 * r + 2) ((fr_ui (fr_ui I 54 0 (4 * r) (I 54 0 (4 * r + 1))) 54 0 (4 * r + 1) ((fr_ui I 54 0 (4 * r) (I 54 0 (4 * r + 1))) 54 0 (4 * r + 2))) 54 0 (4 * r + 3)))) n r)) 48 0 r)).toInt64) ≤ 0 then (0 : Int32) else 1)) 57 0 r) + 1))) r) 59 0 r 1) 20 0 1) + 1)), (fr_uj J 55 0 r ((J 55 0 r) + 1)))
    else
      if ((fr_ui (fr_ui (fr_ui (fr_ui I 54 0 (4 * r) (I 54 0 (4 * r + 1))) 54 0 (4 * r + 1) ((fr_ui I 54 0 (4 * r) (I 54 0 (4 * r + 1))) 54 0 (4 * r + 2))) 54 0 (4 * r + 2) ((fr_ui (fr_ui I 54 0 (4 * r) (I 54 0 (4 * r + 1))) 54 0 (4 * r + 1) ((fr_ui I 54 0 (4 * r) (I 54 0 (4 * r + 1))) 54 0 (4 * r + 2))) 54 0 (4 * r + 3))) 54 0 (4 * r + 3) (f_O_flow ((fr_ui (fr_ui (fr_ui I 54 0 (4 * r) (I 54 0 (4 * r + 1))) 54 0 (4 * r + 1) ((fr_ui I 54 0 (4 * r) (I 54 0 (4 * r + 1))) 54 0 (4 * r + 2))) 54 0 (4 * r + 2) ((fr_ui (fr_ui I 54 0 (4 * r) (I 54 0 (4 * r + 1))) 54 0 (4 * r + 1) ((fr_ui I 54 0 (4 * r) (I 54 0 (4 * r + 1))) 54 0 (4 * r + 2))) 54 0 (4 * r + 3)))) n r)) 47 0 r) = 1 then
        if (if (lg_cmp ((f_O_root ((fr_ui (fr_ui (fr_ui (fr_ui I 54 0 (4 * r) (I 54 0 (4 * r + 1))) 54 0 (4 * r + 1) ((fr_ui I 54 0 (4 * r) (I 54 0 (4 * r + 1))) 54 0 (4 * r + 2))) 54 0 (4 * r + 2) ((fr_ui (fr_ui I 54 0 (4 * r) (I 54 0 (4 * r + 1))) 54 0 (4 * r + 1) ((fr_ui I 54 0 (4 * r) (I 54 0 (4 * r + 1))) 54 0 (4 * r + 2))) 54 0 (4 * r + 3))) 54 0 (4 * r + 3) (f_O_flow ((fr_ui (fr_ui (fr_ui I 54 0 (4 * r) (I 54 0 (4 * r + 1))) 54 0 (4 * r + 1) ((fr_ui I 54 0 (4 * r) (I 54 0 (4 * r + 1))) 54 0 (4 * r + 2))) 54 0 (4 * r + 2) ((fr_ui (fr_ui I 54 0 (4 * r) (I 54 0 (4 * r + 1))) 54 0 (4 * r + 1) ((fr_ui I 54 0 (4 * r) (I 54 0 (4 * r + 1))) 54 0 (4 * r + 2))) 54 0 (4 * r + 3)))) n r))) r)).toInt64 (((fr_ui (fr_ui (fr_ui (fr_ui I 54 0 (4 * r) (I 54 0 (4 * r + 1))) 54 0 (4 * r + 1) ((fr_ui I 54 0 (4 * r) (I 54 0 (4 * r + 1))) 54 0 (4 * r + 2))) 54 0 (4 * r + 2) ((fr_ui (fr_ui I 54 0 (4 * r) (I 54 0 (4 * r + 1))) 54 0 (4 * r + 1) ((fr_ui I 54 0 (4 * r) (I 54 0 (4 * r + 1))) 54 0 (4 * r + 2))) 54 0 (4 * r + 3))) 54 0 (4 * r + 3) (f_O_flow ((fr_ui (fr_ui (fr_ui I 54 0 (4 * r) (I 54 0 (4 * r + 1))) 54 0 (4 * r + 1) ((fr_ui I 54 0 (4 * r) (I 54 0 (4 * r + 1))) 54 0 (4 * r + 2))) 54 0 (4 * r + 2) ((fr_ui (fr_ui I 54 0 (4 * r) (I 54 0 (4 * r + 1))) 54 0 (4 * r + 1) ((fr_ui I 54 0 (4 * r) (I 54 0 (4 * r + 1))) 54 0 (4 * r + 2))) 54 0 (4 * r + 3)))) n r)) 48 0 r)).toInt64) ≤ 0 then (0 : Int32) else 1) = ((fr_ui (fr_ui (fr_ui (fr_ui I 54 0 (4 * r) (I 54 0 (4 * r + 1))) 54 0 (4 * r + 1) ((fr_ui I 54 0 (4 * r) (I 54 0 (4 * r + 1))) 54 0 (4 * r + 2))) 54 0 (4 * r + 2) ((fr_ui (fr_ui I 54 0 (4 * r) (I 54 0 (4 * r + 1))) 54 0 (4 * r + 1) ((fr_ui I 54 0 (4 * r) (I 54 0 (4 * r + 1))) 54 0 (4 * r + 2))) 54 0 (4 * r + 3))) 54 0 (4 * r + 3) (f_O_flow ((fr_ui (fr_ui (fr_ui I 54 0 (4 * r) (I 54 0 (4 * r + 1))) 54 0 (4 * r + 1) ((fr_ui I 54 0 (4 * r) (I 54 0 (4 * r + 1))) 54 0 (4 * r + 2))) 54 0 (4 * r + 2) ((fr_ui (fr_ui I 54 0 (4 * r) (I 54 0 (4 * r + 1))) 54 0 (4 * r + 1) ((fr_ui I 54 0 (4 * r) (I 54 0 (4 * r + 1))) 54 0 (4 * r + 2))) 54 0 (4 * r + 3)))) n r)) 56 0 r) then
          if ((fr_ui (fr_ui (fr_ui (fr_ui I 54 0 (4 * r) (I 54 0 (4 * r + 1))) 54 0 (4 * r + 1) ((fr_ui I 54 0 (4 * r) (I 54 0 (4 * r + 1))) 54 0 (4 * r + 2))) 54 0 (4 * r + 2) ((fr_ui (fr_ui I 54 0 (4 * r) (I 54 0 (4 * r + 1))) 54 0 (4 * r + 1) ((fr_ui I 54 0 (4 * r) (I 54 0 (4 * r + 1))) 54 0 (4 * r + 2))) 54 0 (4 * r + 3))) 54 0 (4 * r + 3) (f_O_flow ((fr_ui (fr_ui (fr_ui I 54 0 (4 * r) (I 54 0 (4 * r + 1))) 54 0 (4 * r + 1) ((fr_ui I 54 0 (4 * r) (I 54 0 (4 * r + 1))) 54 0 (4 * r + 2))) 54 0 (4 * r + 2) ((fr_ui (fr_ui I 54 0 (4 * r) (I 54 0 (4 * r + 1))) 54 0 (4 * r + 1) ((fr_ui I 54 0 (4 * r) (I 54 0 (4 * r + 1))) 54 0 (4 * r + 2))) 54 0 (4 * r + 3)))) n r)) 58 0 r) = ((fr_ui (fr_ui (fr_ui (fr_ui I 54 0 (4 * r) (I 54 0 (4 * r + 1))) 54 0 (4 * r + 1) ((fr_ui I 54 0 (4 * r) (I 54 0 (4 * r + 1))) 54 0 (4 * r + 2))) 54 0 (4 * r + 2) ((fr_ui (fr_ui I 54 0 (4 * r) (I 54 0 (4 * r + 1))) 54 0 (4 * r + 1) ((fr_ui I 54 0 (4 * r) (I 54 0 (4 * r + 1))) 54 0 (4 * r + 2))) 54 0 (4 * r + 3))) 54 0 (4 * r + 3) (f_O_flow ((fr_ui (fr_ui (fr_ui I 54 0 (4 * r) (I 54 0 (4 * r + 1))) 54 0 (4 * r + 1) ((fr_ui I 54 0 (4 * r) (I 54 0 (4 * r + 1))) 54 0 (4 * r + 2))) 54 0 (4 * r + 2) ((fr_ui (fr_ui I 54 0 (4 * r) (I 54 0 (4 * r + 1))) 54 0 (4 * r + 1) ((fr_ui I 54 0 (4 * r) (I 54 0 (4 * r + 1))) 54 0 (4 * r + 2))) 54 0 (4 * r + 3)))) n r)) 20 0 1) then
            if ((f_O_send ((fr_ui (fr_ui (fr_ui (fr_ui I 54 0 (4 * r) (I 54 0 (4 * r + 1))) 54 0 (4 * r + 1) ((fr_ui I 54 0 (4 * r) (I 54 0 (4 * r + 1))) 54 0 (4 * r + 2))) 54 0 (4 * r + 2) ((fr_ui (fr_ui I 54 0 (4 * r) (I 54 0 (4 * r + 1))) 54 0 (4 * r + 1) ((fr_ui I 54 0 (4 * r) (I 54 0 (4 * r + 1))) 54 0 (4 * r + 2))) 54 0 (4 * r + 3))) 54 0 (4 * r + 3) (f_O_flow ((fr_ui (fr_ui (fr_ui I 54 0 (4 * r) (I 54 0 (4 * r + 1))) 54 0 (4 * r + 1) ((fr_ui I 54 0 (4 * r) (I 54 0 (4 * r + 1))) 54 0 (4 * r + 2))) 54 0 (4 * r + 2) ((fr_ui (fr_ui I 54 0 (4 * r) (I 54 0 (4 * r + 1))) 54 0 (4 * r + 1) ((fr_ui I 54 0 (4 * r) (I 54 0 (4 * r + 1))) 54 0 (4 * r + 2))) 54 0 (4 * r + 3)))) n r))) r) 59 0 r) < 4 then
              ((fr_ui (fr_ui (f_O_send ((fr_ui (fr_ui (fr_ui (fr_ui I 54 0 (4 * r) (I 54 0 (4 * r + 1))) 54 0 (4 * r + 1) ((fr_ui I 54 0 (4 * r) (I 54 0 (4 * r + 1))) 54 0 (4 * r + 2))) 54 0 (4 * r + 2) ((fr_ui (fr_ui I 54 0 (4 * r) (I 54 0 (4 * r + 1))) 54 0 (4 * r + 1) ((fr_ui I 54 0 (4 * r) (I 54 0 (4 * r + 1))) 54 0 (4 * r + 2))) 54 0 (4 * r + 3))) 54 0 (4 * r + 3) (f_O_flow ((fr_ui (fr_ui (fr_ui I 54 0 (4 * r) (I 54 0 (4 * r + 1))) 54 0 (4 * r + 1) ((fr_ui I 54 0 (4 * r) (I 54 0 (4 * r + 1))) 54 0 (4 * r + 2))) 54 0 (4 * r + 2) ((fr_ui (fr_ui I 54 0 (4 * r) (I 54 0 (4 * r + 1))) 54 0 (4 * r + 1) ((fr_ui I 54 0 (4 * r) (I 54 0 (4 * r + 1))) 54 0 (4 * r + 2))) 54 0 (4 * r + 3)))) n r))) r) 59 0 r (2 * ((f_O_send ((fr_ui (fr_ui (fr_ui (fr_ui I 54 0 (4 * r) (I 54 0 (4 * r + 1))) 54 0 (4 * r + 1) ((fr_ui I 54 0 (4 * r) (I 54 0 (4 * r + 1))) 54 0 (4 * r + 2))) 54 0 (4 * r + 2) ((fr_ui (fr_ui I 54 0 (4 * r) (I 54 0 (4 * r + 1))) 54 0 (4 * r + 1) ((fr_ui I 54 0 (4 * r) (I 54 0 (4 * r + 1))) 54 0 (4 * r + 2))) 54 0 (4 * r + 3))) 54 0 (4 * r + 3) (f_O_flow ((fr_ui (fr_ui (fr_ui I 54 0 (4 * r) (I 54 0 (4 * r + 1))) 54 0 (4 * r + 1) ((fr_ui I 54 0 (4 * r) (I 54 0 (4 * r + 1))) 54 0 (4 * r + 2))) 54 0 (4 * r + 2) ((fr_ui (fr_ui I 54 0 (4 * r) (I 54 0 (4 * r + 1))) 54 0 (4 * r + 1) ((fr_ui I 54 0 (4 * r) (I 54 0 (4 * r + 1))) 54 0 (4 * r + 2))) 54 0 (4 * r + 3)))) n r))) r) 59 0 r))) 58 0 r (((fr_ui (f_O_send ((fr_ui (fr_ui (fr_ui (fr_ui I 54 0 (4 * r) (I 54 0 (4 * r + 1))) 54 0 (4 * r + 1) ((fr_ui I 54 0 (4 * r) (I 54 0 (4 * r + 1))) 54 0 (4 * r + 2))) 54 0 (4 * r + 2) ((fr_ui (fr_ui I 54 0 (4 * r) (I 54 0 (4 * r + 1))) 54 0 (4 * r + 1) ((fr_ui I 54 0 (4 * r) (I 54 0 (4 * r + 1))) 54 0 (4 * r + 2))) 54 0 (4 * r + 3))) 54 0 (4 * r + 3) (f_O_flow ((fr_ui (fr_ui (fr_ui I 54 0 (4 * r) (I 54 0 (4 * r + 1))) 54 0 (4 * r + 1) ((fr_ui I 54 0 (4 * r) (I 54 0 (4 * r + 1))) 54 0 (4 * r + 2))) 54 0 (4 * r + 2) ((fr_ui (fr_ui I 54 0 (4 * r) (I 54 0 (4 * r + 1))) 54 0 (4 * r + 1) ((fr_ui I 54 0 (4 * r) (I 54 0 (4 * r + 1))) 54 0 (4 * r + 2))) 54 0 (4 * r + 3)))) n r))) r) 59 0 r (2 * ((f_O_send ((fr_ui (fr_ui (fr_ui (fr_ui I 54 0 (4 * r) (I 54 0 (4 * r + 1))) 54 0 (4 * r + 1) ((fr_ui I 54 0 (4 * r) (I 54 0 (4 * r + 1))) 54 0 (4 * r + 2))) 54 0 (4 * r + 2) ((fr_ui (fr_ui I 54 0 (4 * r) (I 54 0 (4 * r + 1))) 54 0 (4 * r + 1) ((fr_ui I 54 0 (4 * r) (I 54 0 (4 * r + 1))) 54 0 (4 * r + 2))) 54 0 (4 * r + 3))) 54 0 (4 * r + 3) (f_O_flow ((fr_ui (fr_ui (fr_ui I 54 0 (4 * r) (I 54 0 (4 * r + 1))) 54 0 (4 * r + 1) ((fr_ui I 54 0 (4 * r) (I 54 0 (4 * r + 1))) 54 0 (4 * r + 2))) 54 0 (4 * r + 2) ((fr_ui (fr_ui I 54 0 (4 * r) (I 54 0 (4 * r + 1))) 54 0 (4 * r + 1) ((fr_ui I 54 0 (4 * r) (I 54 0 (4 * r + 1))) 54 0 (4 * r + 2))) 54 0 (4 * r + 3)))) n r))) r) 59 0 r))) 20 0 1) + ((fr_ui (f_O_send ((fr_ui (fr_ui (fr_ui (fr_ui I 54 0 (4 * r) (I 54 0 (4 * r + 1))) 54 0 (4 * r + 1) ((fr_ui I 54 0 (4 * r) (I 54 0 (4 * r + 1))) 54 0 (4 * r + 2))) 54 0 (4 * r + 2) ((fr_ui (fr_ui I 54 0 (4 * r) (I 54 0 (4 * r + 1))) 54 0 (4 * r + 1) ((fr_ui I 54 0 (4 * r) (I 54 0 (4 * r + 1))) 54 0 (4 * r + 2))) 54 0 (4 * r + 3))) 54 0 (4 * r + 3) (f_O_flow ((fr_ui (fr_ui (fr_ui I 54 0 (4 * r) (I 54 0 (4 * r + 1))) 54 0 (4 * r + 1) ((fr_ui I 54 0 (4 * r) (I 54 0 (4 * r + 1))) 54 0 (4 * r + 2))) 54 0 (4 * r + 2) ((fr_ui (fr_ui I 54 0 (4 * r) (I 54 0 (4 * r + 1))) 54 0 (4 * r + 1) ((fr_ui I 54 0 (4 * r) (I 54 0 (4 * r + 1))) 54 0 (4 * r + 2))) 54 0 (4 * r + 3)))) n r))) r) 59 0 r (2 * ((f_O_send ((fr_ui (fr_ui (fr_ui (fr_ui I 54 0 (4 * r) (I 54 0 (4 * r + 1))) 54 0 (4 * r + 1) ((fr_ui I 54 0 (4 * r) (I 54 0 (4 * r + 1))) 54 0 (4 * r + 2))) 54 0 (4 * r + 2) ((fr_ui (fr_ui I 54 0 (4 * r) (I 54 0 (4 * r + 1))) 54 0 (4 * r + 1) ((fr_ui I 54 0 (4 * r) (I 54 0 (4 * r + 1))) 54 0 (4 * r + 2))) 54 0 (4 * r + 3))) 54 0 (4 * r + 3) (f_O_flow ((fr_ui (fr_ui (fr_ui I 54 0 (4 * r) (I 54 0 (4 * r + 1))) 54 0 (4 * r + 1) ((fr_ui I 54 0 (4 * r) (I 54 0 (4 * r + 1))) 54 0 (4 * r + 2))) 54 0 (4 * r + 2) ((fr_ui (fr_ui I 54 0 (4 * r) (I 54 0 (4 * r + 1))) 54 0 (4 * r + 1) ((fr_ui I 54 0 (4 * r) (I 54 0 (4 * r + 1))) 54 0 (4 * r + 2))) 54 0 (4 * r + 3)))) n r))) r) 59 0 r))) 59 0 r))), (fr_uj J 55 0 r ((J 55 0 r) + (((f_O_root ((fr_ui (fr_ui (fr_ui (fr_ui I 54 0 (4 * r) (I 54 0 (4 * r + 1))) 54 0 (4 * r + 1) ((fr_ui I 54 0 (4 * r) (I 54 0 (4 * r + 1))) 54 0 (4 * r + 2))) 54 0 (4 * r + 2) ((fr_ui (fr_ui I 54 0 (4 * r) (I 54 0 (4 * r + 1))) 54 0 (4 * r + 1) ((fr_ui I 54 0 (4 * r) (I 54 0 (4 * r + 1))) 54 0 (4 * r + 2))) 54 0 (4 * r + 3))) 54 0 (4 * r + 3) (f_O_flow ((fr_ui (fr_ui (fr_ui I 54 0 (4 * r) (I 54 0 (4 * r + 1))) 54 0 (4 * r + 1) ((fr_ui I 54 0 (4 * r) (I 54 0 (4 * r + 1))) 54 0 (4 * r + 2))) 54 0 (4 * r + 2) ((fr_ui (fr_ui I 54 0 (4 * r) (I 54 0 (4 * r + 1))) 54 0 (4 * r + 1) ((fr_ui I 54 0 (4 * r) (I 54 0 (4 * r + 1))) 54 0 (4 * r + 2))) 54 0 (4 * r + 3)))) n r))) r)).toInt64 - (((fr_ui (fr_ui (fr_ui (fr_ui I 54 0 (4 * r) (I 54 0 (4 * r + 1))) 54 0 (4 * r + 1) ((fr_ui I 54 0 (4 * r) (I 54 0 (4 * r + 1))) 54 0 (4 * r + 2))) 54 0 (4 * r + 2) ((fr_ui (fr_ui I 54 0 (4 * r) (I 54 0 (4 * r + 1))) 54 0 (4 * r + 1) ((fr_ui I 54 0 (4 * r) (I 54 0 (4 * r + 1))) 54 0 (4 * r + 2))) 54 0 (4 * r + 3))) 54 0 (4 * r + 3) (f_O_flow ((fr_ui (fr_ui (fr_ui I 54 0 (4 * r) (I 54 0 (4 * r + 1))) 54 0 (4 * r + 1) ((fr_ui I 54 0 (4 * r) (I 54 0 (4 * r + 1))) 54 0 (4 * r + 2))) 54 0 (4 * r + 2) ((fr_ui (fr_ui I 54 0 (4 * r) (I 54 0 (4 * r + 1))) 54 0 (4 * r + 1) ((fr_ui I 54 0 (4 * r) (I 54 0 (4 * r + 1))) 54 0 (4 * r + 2))) 54 0 (4 * r + 3)))) n r)) 48 0 r)).toInt64))))
            else
              ((fr_ui (fr_ui (f_O_send ((fr_ui (fr_ui (fr_ui (fr_ui I 54 0 (4 * r) (I 54 0 (4 * r + 1))) 54 0 (4 * r + 1) ((fr_ui I 54 0 (4 * r) (I 54 0 (4 * r + 1))) 54 0 (4 * r + 2))) 54 0 (4 * r + 2) ((fr_ui (fr_ui I 54 0 (4 * r) (I 54 0 (4 * r + 1))) 54 0 (4 * r + 1) ((fr_ui I 54 0 (4 * r) (I 54 0 (4 * r + 1))) 54 0 (4 * r + 2))) 54 0 (4 * r + 3))) 54 0 (4 * r + 3) (f_O_flow ((fr_ui (fr_ui (fr_ui I 54 0 (4 * r) (I 54 0 (4 * r + 1))) 54 0 (4 * r + 1) ((fr_ui I 54 0 (4 * r) (I 54 0 (4 * r + 1))) 54 0 (4 * r + 2))) 54 0 (4 * r + 2) ((fr_ui (fr_ui I 54 0 (4 * r) (I 54 0 (4 * r + 1))) 54 0 (4 * r + 1) ((fr_ui I 54 0 (4 * r) (I 54 0 (4 * r + 1))) 54 0 (4 * r + 2))) 54 0 (4 * r + 3)))) n r))) r) 59 0 r 8) 58 0 r (((fr_ui (f_O_send ((fr_ui (fr_ui (fr_ui (fr_ui I 54 0 (4 * r) (I 54 0 (4 * r + 1))) 54 0 (4 * r + 1) ((fr_ui I 54 0 (4 * r) (I 54 0 (4 * r + 1))) 54 0 (4 * r + 2))) 54 0 (4 * r + 2) ((fr_ui (fr_ui I 54 0 (4 * r) (I 54 0 (4 * r + 1))) 54 0 (4 * r + 1) ((fr_ui I 54 0 (4 * r) (I 54 0 (4 * r + 1))) 54 0 (4 * r + 2))) 54 0 (4 * r + 3))) 54 0 (4 * r + 3) (f_O_flow ((fr_ui (fr_ui (fr_ui I 54 0 (4 * r) (I 54 0 (4 * r + 1))) 54 0 (4 * r + 1) ((fr_ui I 54 0 (4 * r) (I 54 0 (4 * r + 1))) 54 0 (4 * r + 2))) 54 0 (4 * r + 2) ((fr_ui (fr_ui I 54 0 (4 * r) (I 54 0 (4 * r + 1))) 54 0 (4 * r + 1) ((fr_ui I 54 0 (4 * r) (I 54 0 (4 * r + 1))) 54 0 (4 * r + 2))) 54 0 (4 * r + 3)))) n r))) r) 59 0 r 8) 20 0 1) + ((fr_ui (f_O_send ((fr_ui (fr_ui (fr_ui (fr_ui I 54 0 (4 * r) (I 54 0 (4 * r + 1))) 54 0 (4 * r + 1) ((fr_ui I 54 0 (4 * r) (I 54 0 (4 * r + 1))) 54 0 (4 * r + 2))) 54 0 (4 * r + 2) ((fr_ui (fr_ui I 54 0 (4 * r) (I 54 0 (4 * r + 1))) 54 0 (4 * r + 1) ((fr_ui I 54 0 (4 * r) (I 54 0 (4 * r + 1))) 54 0 (4 * r + 2))) 54 0 (4 * r + 3))) 54 0 (4 * r + 3) (f_O_flow ((fr_ui (fr_ui (fr_ui I 54 0 (4 * r) (I 54 0 (4 * r + 1))) 54 0 (4 * r + 1) ((fr_ui I 54 0 (4 * r) (I 54 0 (4 * r + 1))) 54 0 (4 * r + 2))) 54 0 (4 * r + 2) ((fr_ui (fr_ui I 54 0 (4 * r) (I 54 0 (4 * r + 1))) 54 0 (4 * r + 1) ((fr_ui I 54 0 (4 * r) (I 54 0 (4 * r + 1))) 54 0 (4 * r + 2))) 54 0 (4 * r + 3)))) n r))) r) 59 0 r 8) 59 0 r))), (fr_uj J 55 0 r ((J 55 0 r) + (((f_O_root ((fr_ui (fr_ui (fr_ui (fr_ui I 54 0 (4 * r) (I 54 0 (4 * r + 1))) 54 0 (4 * r + 1) ((fr_ui I 54 0 (4 * r) (I 54 0 (4 * r + 1))) 54 0 (4 * r + 2))) 54 0 (4 * r + 2) ((fr_ui (fr_ui I 54 0 (4 * r) (I 54 0 (4 * r + 1))) 54 0 (4 * r + 1) ((fr_ui I 54 0 (4 * r) (I 54 0 (4 * r + 1))) 54 0 (4 * r + 2))) 54 0 (4 * r + 3))) 54 0 (4 * r + 3) (f_O_flow ((fr_ui (fr_ui (fr_ui I 54 0 (4 * r) (I 54 0 (4 * r + 1))) 54 0 (4 * r + 1) ((fr_ui I 54 0 (4 * r) (I 54 0 (4 * r + 1))) 54 0 (4 * r + 2))) 54 0 (4 * r + 2) ((fr_ui (fr_ui I 54 0 (4 * r) (I 54 0 (4 * r + 1))) 54 0 (4 * r + 1) ((fr_ui I 54 0 (4 * r) (I 54 0 (4 * r + 1))) 54 0 (4 * r + 2))) 54 0 (4 * r + 3)))) n r))) r)).toInt64 - (((fr_ui (fr_ui (fr_ui (fr_ui I 54 0 (4 * r) (I 54 0 (4 * r + 1))) 54 0 (4 * r + 1) ((fr_ui I 54 0 (4 * r) (I 54 0 (4 * r + 1))) 54 0 (4 * r + 2))) 54 0 (4 * r + 2) ((fr_ui (fr_ui I 54 0 (4 * r) (I 54 0 (4 * r + 1))) 54 0 (4 * r + 1) ((fr_ui I 54 0 (4 * r) (I 54 0 (4 * r + 1))) 54 0 (4 * r + 2))) 54 0 (4 * r + 3))) 54 0 (4 * r + 3) (f_O_flow ((fr_ui (fr_ui (fr_ui I 54 0 (4 * r) (I 54 0 (4 * r + 1))) 54 0 (4 * r + 1) ((fr_ui I 54 0 (4 * r) (I 54 0 (4 * r + 1))) 54 0 (4 * r + 2))) 54 0 (4 * r + 2) ((fr_ui (fr_ui I 54 0 (4 * r) (I 54 0 (4 * r + 1))) 54 0 (4 * r + 1) ((fr_ui I 54 0 (4 * r) (I 54 0 (4 * r + 1))) 54 0 (4 * r + 2))) 54 0 (4 * r + 3)))) n r)) 48 0 r)).toInt64))))
          else
            ((fr_ui (fr_ui (fr_ui (fr_ui I 54 0 (4 * r) (I 54 0 (4 * r + 1))) 54 0 (4 * r + 1) ((fr_ui I 54 0 (4 * r) (I 54 0 (4 * r + 1))) 54 0 (4 * r + 2))) 54 0 (4 * r + 2) ((fr_ui (fr_ui I 54 0 (4 * r) (I 54 0 (4 * r + 1))) 54 0 (4 * r + 1) ((fr_ui I 54 0 (4 * r) (I 54 0 (4 * r + 1))) 54 0 (4 * r + 2))) 54 0 (4 * r + 3))) 54 0 (4 * r + 3) (f_O_flow ((fr_ui (fr_ui (fr_ui I 54 0 (4 * r) (I 54 0 (4 * r + 1))) 54 0 (4 * r + 1) ((fr_ui I 54 0 (4 * r) (I 54 0 (4 * r + 1))) 54 0 (4 * r + 2))) 54 0 (4 * r + 2) ((fr_ui (fr_ui I 54 0 (4 * r) (I 54 0 (4 * r + 1))) 54 0 (4 * r + 1) ((fr_ui I 54 0 (4 * r) (I 54 0 (4 * r + 1))) 54 0 (4 * r + 2))) 54 0 (4 * r + 3)))) n r)), (fr_uj J 55 0 r ((J 55 0 r) + (((f_O_root ((fr_ui (fr_ui (fr_ui (fr_ui I 54 0 (4 * r) (I 54 0 (4 * r + 1))) 54 0 (4 * r + 1) ((fr_ui I 54 0 (4 * r) (I 54 0 (4 * r + 1))) 54 0 (4 * r + 2))) 54 0 (4 * r + 2) ((fr_ui (fr_ui I 54 0 (4 * r) (I 54 0 (4 * r + 1))) 54 0 (4 * r + 1) ((fr_ui I 54 0 (4 * r) (I 54 0 (4 * r + 1))) 54 0 (4 * r + 2))) 54 0 (4 * r + 3))) 54 0 (4 * r + 3) (f_O_flow ((fr_ui (fr_ui (fr_ui I 54 0 (4 * r) (I 54 0 (4 * r + 1))) 54 0 (4 * r + 1) ((fr_ui I 54 0 (4 * r) (I 54 0 (4 * r + 1))) 54 0 (4 * r + 2))) 54 0 (4 * r + 2) ((fr_ui (fr_ui I 54 0 (4 * r) (I 54 0 (4 * r + 1))) 54 0 (4 * r + 1) ((fr_ui I 54 0 (4 * r) (I 54 0 (4 * r + 1))) 54 0 (4 * r + 2))) 54 0 (4 * r + 3)))) n r))) r)).toInt64 - (((fr_ui (fr_ui (fr_ui (fr_ui I 54 0 (4 * r) (I 54 0 (4 * r + 1))) 54 0 (4 * r + 1) ((fr_ui I 54 0 (4 * r) (I 54 0 (4 * r + 1))) 54 0 (4 * r + 2))) 54 0 (4 * r + 2) ((fr_ui (fr_ui I 54 0 (4 * r) (I 54 0 (4 * r + 1))) 54 0 (4 * r + 1) ((fr_ui I 54 0 (4 * r) (I 54 0 (4 * r + 1))) 54 0 (4 * r + 2))) 54 0 (4 * r + 3))) 54 0 (4 * r + 3) (f_O_flow ((fr_ui (fr_ui (fr_ui I 54 0 (4 * r) (I 54 0 (4 * r + 1))) 54 0 (4 * r + 1) ((fr_ui I 54 0 (4 * r) (I 54 0 (4 * r + 1))) 54 0 (4 * r + 2))) 54 0 (4 * r + 2) ((fr_ui (fr_ui I 54 0 (4 * r) (I 54 0 (4 * r + 1))) 54 0 (4 * r + 1) ((fr_ui I 54 0 (4 * r) (I 54 0 (4 * r + 1))) 54 0 (4 * r + 2))) 54 0 (4 * r + 3)))) n r)) 48 0 r)).toInt64))))
        else
          ((fr_ui (fr_ui (f_O_send ((fr_ui (fr_ui (fr_ui (fr_ui (fr_ui (fr_ui I 54 0 (4 * r) (I 54 0 (4 * r + 1))) 54 0 (4 * r + 1) ((fr_ui I 54 0 (4 * r) (I 54 0 (4 * r + 1))) 54 0 (4 * r + 2))) 54 0 (4 * r + 2) ((fr_ui (fr_ui I 54 0 (4 * r) (I 54 0 (4 * r + 1))) 54 0 (4 * r + 1) ((fr_ui I 54 0 (4 * r) (I 54 0 (4 * r + 1))) 54 0 (4 * r + 2))) 54 0 (4 * r + 3))) 54 0 (4 * r + 3) (f_O_flow ((fr_ui (fr_ui (fr_ui I 54 0 (4 * r) (I 54 0 (4 * r + 1))) 54 0 (4 * r + 1) ((fr_ui I 54 0 (4 * r) (I 54 0 (4 * r + 1))) 54 0 (4 * r + 2))) 54 0 (4 * r + 2) ((fr_ui (fr_ui I 54 0 (4 * r) (I 54 0 (4 * r + 1))) 54 0 (4 * r + 1) ((fr_ui I 54 0 (4 * r) (I 54 0 (4 * r + 1))) 54 0 (4 * r + 2))) 54 0 (4 * r + 3)))) n r)) 56 0 r (if (lg_cmp ((f_O_root ((fr_ui (fr_ui (fr_ui (fr_ui I 54 0 (4 * r) (I 54 0 (4 * r + 1))) 54 0 (4 * r + 1) ((fr_ui I 54 0 (4 * r) (I 54 0 (4 * r + 1))) 54 0 (4 * r + 2))) 54 0 (4 * r + 2) ((fr_ui (fr_ui I 54 0 (4 * r) (I 54 0 (4 * r + 1))) 54 0 (4 * r + 1) ((fr_ui I 54 0 (4 * r) (I 54 0 (4 * r + 1))) 54 0 (4 * r + 2))) 54 0 (4 * r + 3))) 54 0 (4 * r + 3) (f_O_flow ((fr_ui (fr_ui (fr_ui I 54 0 (4 * r) (I 54 0 (4 * r + 1))) 54 0 (4 * r + 1) ((fr_ui I 54 0 (4 * r) (I 54 0 (4 * r + 1))) 54 0 (4 * r + 2))) 54 0 (4 * r + 2) ((fr_ui (fr_ui I 54 0 (4 * r) (I 54 0 (4 * r + 1))) 54 0 (4 * r + 1) ((fr_ui I 54 0 (4 * r) (I 54 0 (4 * r + 1))) 54 0 (4 * r + 2))) 54 0 (4 * r + 3)))) n r))) r)).toInt64 (((fr_ui (fr_ui (fr_ui (fr_ui I 54 0 (4 * r) (I 54 0 (4 * r + 1))) 54 0 (4 * r + 1) ((fr_ui I 54 0 (4 * r) (I 54 0 (4 * r + 1))) 54 0 (4 * r + 2))) 54 0 (4 * r + 2) ((fr_ui (fr_ui I 54 0 (4 * r) (I 54 0 (4 * r + 1))) 54 0 (4 * r + 1) ((fr_ui I 54 0 (4 * r) (I 54 0 (4 * r + 1))) 54 0 (4 * r + 2))) 54 0 (4 * r + 3))) 54 0 (4 * r + 3) (f_O_flow ((fr_ui (fr_ui (fr_ui I 54 0 (4 * r) (I 54 0 (4 * r + 1))) 54 0 (4 * r + 1) ((fr_ui I 54 0 (4 * r) (I 54 0 (4 * r + 1))) 54 0 (4 * r + 2))) 54 0 (4 * r + 2) ((fr_ui (fr_ui I 54 0 (4 * r) (I 54 0 (4 * r + 1))) 54 0 (4 * r + 1) ((fr_ui I 54 0 (4 * r) (I 54 0 (4 * r + 1))) 54 0 (4 * r + 2))) 54 0 (4 * r + 3)))) n r)) 48 0 r)).toInt64) ≤ 0 then (0 : Int32) else 1)) 57 0 r (((fr_ui (fr_ui (fr_ui (fr_ui (fr_ui I 54 0 (4 * r) (I 54 0 (4 * r + 1))) 54 0 (4 * r + 1) ((fr_ui I 54 0 (4 * r) (I 54 0 (4 * r + 1))) 54 0 (4 * r + 2))) 54 0 (4 * r + 2) ((fr_ui (fr_ui I 54 0 (4 * r) (I 54 0 (4 * r + 1))) 54 0 (4 * r + 1) ((fr_ui I 54 0 (4 * r) (I 54 0 (4 * r + 1))) 54 0 (4 * r + 2))) 54 0 (4 * r + 3))) 54 0 (4 * r + 3) (f_O_flow ((fr_ui (fr_ui (fr_ui I 54 0 (4 * r) (I 54 0 (4 * r + 1))) 54 0 (4 * r + 1) ((fr_ui I 54 0 (4 * r) (I 54 0 (4 * r + 1))) 54 0 (4 * r + 2))) 54 0 (4 * r + 2) ((fr_ui (fr_ui I 54 0 (4 * r) (I 54 0 (4 * r + 1))) 54 0 (4 * r + 1) ((fr_ui I 54 0 (4 * r) (I 54 0 (4 * r + 1))) 54 0 (4 * r + 2))) 54 0 (4 * r + 3)))) n r)) 56 0 r (if (lg_cmp ((f_O_root ((fr_ui (fr_ui (fr_ui (fr_ui I 54 0 (4 * r) (I 54 0 (4 * r + 1))) 54 0 (4 * r + 1) ((fr_ui I 54 0 (4 * r) (I 54 0 (4 * r + 1))) 54 0 (4 * r + 2))) 54 0 (4 * r + 2) ((fr_ui (fr_ui I 54 0 (4 * r) (I 54 0 (4 * r + 1))) 54 0 (4 * r + 1) ((fr_ui I 54 0 (4 * r) (I 54 0 (4 * r + 1))) 54 0 (4 * r + 2))) 54 0 (4 * r + 3))) 54 0 (4 * r + 3) (f_O_flow ((fr_ui (fr_ui (fr_ui I 54 0 (4 * r) (I 54 0 (4 * r + 1))) 54 0 (4 * r + 1) ((fr_ui I 54 0 (4 * r) (I 54 0 (4 * r + 1))) 54 0 (4 * r + 2))) 54 0 (4 * r + 2) ((fr_ui (fr_ui I 54 0 (4 * r) (I 54 0 (4 * r + 1))) 54 0 (4 * r + 1) ((fr_ui I 54 0 (4 * r) (I 54 0 (4 * r + 1))) 54 0 (4 * r + 2))) 54 0 (4 * r + 3)))) n r))) r)).toInt64 (((fr_ui (fr_ui (fr_ui (fr_ui I 54 0 (4 * r) (I 54 0 (4 * r + 1))) 54 0 (4 * r + 1) ((fr_ui I 54 0 (4 * r) (I 54 0 (4 * r + 1))) 54 0 (4 * r + 2))) 54 0 (4 * r + 2) ((fr_ui (fr_ui I 54 0 (4 * r) (I 54 0 (4 * r + 1))) 54 0 (4 * r + 1) ((fr_ui I 54 0 (4 * r) (I 54 0 (4 * r + 1))) 54 0 (4 * r + 2))) 54 0 (4 * r + 3))) 54 0 (4 * r + 3) (f_O_flow ((fr_ui (fr_ui (fr_ui I 54 0 (4 * r) (I 54 0 (4 * r + 1))) 54 0 (4 * r + 1) ((fr_ui I 54 0 (4 * r) (I 54 0 (4 * r + 1))) 54 0 (4 * r + 2))) 54 0 (4 * r + 2) ((fr_ui (fr_ui I 54 0 (4 * r) (I 54 0 (4 * r + 1))) 54 0 (4 * r + 1) ((fr_ui I 54 0 (4 * r) (I 54 0 (4 * r + 1))) 54 0 (4 * r + 2))) 54 0 (4 * r + 3)))) n r)) 48 0 r)).toInt64) ≤ 0 then (0 : Int32) else 1)) 57 0 r) + 1))) r) 59 0 r 1) 58 0 r (((fr_ui (f_O_send ((fr_ui (fr_ui (fr_ui (fr_ui (fr_ui (fr_ui I 54 0 (4 * r) (I 54 0 (4 * r + 1))) 54 0 (4 * r + 1) ((fr_ui I 54 0 (4 * r) (I 54 0 (4 * r + 1))) 54 0 (4 * r + 2))) 54 0 (4 * r + 2) ((fr_ui (fr_ui I 54 0 (4 * r) (I 54 0 (4 * r + 1))) 54 0 (4 * r + 1) ((fr_ui I 54 0 (4 * r) (I 54 0 (4 * r + 1))) 54 0 (4 * r + 2))) 54 0 (4 * r + 3))) 54 0 (4 * r + 3) (f_O_flow ((fr_ui (fr_ui (fr_ui I 54 0 (4 * r) (I 54 0 (4 * r + 1))) 54 0 (4 * r + 1) ((fr_ui I 54 0 (4 * r) (I 54 0 (4 * r + 1))) 54 0 (4 * r + 2))) 54 0 (4 * r + 2) ((fr_ui (fr_ui I 54 0 (4 * r) (I 54 0 (4 * r + 1))) 54 0 (4 * r + 1) ((fr_ui I 54 0 (4 * r) (I 54 0 (4 * r + 1))) 54 0 (4 * r + 2))) 54 0 (4 * r + 3)))) n r)) 56 0 r (if (lg_cmp ((f_O_root ((fr_ui (fr_ui (fr_ui (fr_ui I 54 0 (4 * r) (I 54 0 (4 * r + 1))) 54 0 (4 * r + 1) ((fr_ui I 54 0 (4 * r) (I 54 0 (4 * r + 1))) 54 0 (4 * r + 2))) 54 0 (4 * r + 2) ((fr_ui (fr_ui I 54 0 (4 * r) (I 54 0 (4 * r + 1))) 54 0 (4 * r + 1) ((fr_ui I 54 0 (4 * r) (I 54 0 (4 * r + 1))) 54 0 (4 * r + 2))) 54 0 (4 * r + 3))) 54 0 (4 * r + 3) (f_O_flow ((fr_ui (fr_ui (fr_ui I 54 0 (4 * r) (I 54 0 (4 * r + 1))) 54 0 (4 * r + 1) ((fr_ui I 54 0 (4 * r) (I 54 0 (4 * r + 1))) 54 0 (4 * r + 2))) 54 0 (4 * r + 2) ((fr_ui (fr_ui I 54 0 (4 * r) (I 54 0 (4 * r + 1))) 54 0 (4 * r + 1) ((fr_ui I 54 0 (4 * r) (I 54 0 (4 * r + 1))) 54 0 (4 * r + 2))) 54 0 (4 * r + 3)))) n r))) r)).toInt64 (((fr_ui (fr_ui (fr_ui (fr_ui I 54 0 (4 * r) (I 54 0 (4 * r + 1))) 54 0 (4 * r + 1) ((fr_ui I 54 0 (4 * r) (I 54 0 (4 * r + 1))) 54 0 (4 * r + 2))) 54 0 (4 * r + 2) ((fr_ui (fr_ui I 54 0 (4 * r) (I 54 0 (4 * r + 1))) 54 0 (4 * r + 1) ((fr_ui I 54 0 (4 * r) (I 54 0 (4 * r + 1))) 54 0 (4 * r + 2))) 54 0 (4 * r + 3))) 54 0 (4 * r + 3) (f_O_flow ((fr_ui (fr_ui (fr_ui I 54 0 (4 * r) (I 54 0 (4 * r + 1))) 54 0 (4 * r + 1) ((fr_ui I 54 0 (4 * r) (I 54 0 (4 * r + 1))) 54 0 (4 * r + 2))) 54 0 (4 * r + 2) ((fr_ui (fr_ui I 54 0 (4 * r) (I 54 0 (4 * r + 1))) 54 0 (4 * r + 1) ((fr_ui I 54 0 (4 * r) (I 54 0 (4 * r + 1))) 54 0 (4 * r + 2))) 54 0 (4 * r + 3)))) n r)) 48 0 r)).toInt64) ≤ 0 then (0 : Int32) else 1)) 57 0 r (((fr_ui (fr_ui (fr_ui (fr_ui (fr_ui I 54 0 (4 * r) (I 54 0 (4 * r + 1))) 54 0 (4 * r + 1) ((fr_ui I 54 0 (4 * r) (I 54 0 (4 * r + 1))) 54 0 (4 * r + 2))) 54 0 (4 * r + 2) ((fr_ui (fr_ui I 54 0 (4 * r) (I 54 0 (4 * r + 1))) 54 0 (4 * r + 1) ((fr_ui I 54 0 (4 * r) (I 54 0 (4 * r + 1))) 54 0 (4 * r + 2))) 54 0 (4 * r + 3))) 54 0 (4 * r + 3) (f_O_flow ((fr_ui (fr_ui (fr_ui I 54 0 (4 * r) (I 54 0 (4 * r + 1))) 54 0 (4 * r + 1) ((fr_ui I 54 0 (4 * r) (I 54 0 (4 * r + 1))) 54 0 (4 * r + 2))) 54 0 (4 * r + 2) ((fr_ui (fr_ui I 54 0 (4 * r) (I 54 0 (4 * r + 1))) 54 0 (4 * r + 1) ((fr_ui I 54 0 (4 * r) (I 54 0 (4 * r + 1))) 54 0 (4 * r + 2))) 54 0 (4 * r + 3)))) n r)) 56 0 r (if (lg_cmp ((f_O_root ((fr_ui (fr_ui (fr_ui (fr_ui I 54 0 (4 * r) (I 54 0 (4 * r + 1))) 54 0 (4 * r + 1) ((fr_ui I 54 0 (4 * r) (I 54 0 (4 * r + 1))) 54 0 (4 * r + 2))) 54 0 (4 * r + 2) ((fr_ui (fr_ui I 54 0 (4 * r) (I 54 0 (4 * r + 1))) 54 0 (4 * r + 1) ((fr_ui I 54 0 (4 * r) (I 54 0 (4 * r + 1))) 54 0 (4 * r + 2))) 54 0 (4 * r + 3))) 54 0 (4 * r + 3) (f_O_flow ((fr_ui (fr_ui (fr_ui I 54 0 (4 * r) (I 54 0 (4 * r + 1))) 54 0 (4 * r + 1) ((fr_ui I 54 0 (4 * r) (I 54 0 (4 * r + 1))) 54 0 (4 * r + 2))) 54 0 (4 * r + 2) ((fr_ui (fr_ui I 54 0 (4 * r) (I 54 0 (4 * r + 1))) 54 0 (4 * r + 1) ((fr_ui I 54 0 (4 * r) (I 54 0 (4 * r + 1))) 54 0 (4 * r + 2))) 54 0 (4 * r + 3)))) n r))) r)).toInt64 (((fr_ui (fr_ui (fr_ui (fr_ui I 54 0 (4 * r) (I 54 0 (4 * r + 1))) 54 0 (4 * r + 1) ((fr_ui I 54 0 (4 * r) (I 54 0 (4 * r + 1))) 54 0 (4 * r + 2))) 54 0 (4 * r + 2) ((fr_ui (fr_ui I 54 0 (4 * r) (I 54 0 (4 * r + 1))) 54 0 (4 * r + 1) ((fr_ui I 54 0 (4 * r) (I 54 0 (4 * r + 1))) 54 0 (4 * r + 2))) 54 0 (4 * r + 3))) 54 0 (4 * r + 3) (f_O_flow ((fr_ui (fr_ui (fr_ui I 54 0 (4 * r) (I 54 0 (4 * r + 1))) 54 0 (4 * r + 1) ((fr_ui I 54 0 (4 * r) (I 54 0 (4 * r + 1))) 54 0 (4 * r + 2))) 54 0 (4 * r + 2) ((fr_ui (fr_ui I 54 0 (4 * r) (I 54 0 (4 * r + 1))) 54 0 (4 * r + 1) ((fr_ui I 54 0 (4 * r) (I 54 0 (4 * r + 1))) 54 0 (4 * r + 2))) 54 0 (4 * r + 3)))) n r)) 48 0 r)).toInt64) ≤ 0 then (0 : Int32) else 1)) 57 0 r) + 1))) r) 59 0 r 1) 20 0 1) + 1)), (fr_uj J 55 0 r ((J 55 0 r) + (((f_O_root ((fr_ui (fr_ui (fr_ui (fr_ui I 54 0 (4 * r) (I 54 0 (4 * r + 1))) 54 0 (4 * r + 1) ((fr_ui I 54 0 (4 * r) (I 54 0 (4 * r + 1))) 54 0 (4 * r + 2))) 54 0 (4 * r + 2) ((fr_ui (fr_ui I 54 0 (4 * r) (I 54 0 (4 * r + 1))) 54 0 (4 * r + 1) ((fr_ui I 54 0 (4 * r) (I 54 0 (4 * r + 1))) 54 0 (4 * r + 2))) 54 0 (4 * r + 3))) 54 0 (4 * r + 3) (f_O_flow ((fr_ui (fr_ui (fr_ui I 54 0 (4 * r) (I 54 0 (4 * r + 1))) 54 0 (4 * r + 1) ((fr_ui I 54 0 (4 * r) (I 54 0 (4 * r + 1))) 54 0 (4 * r + 2))) 54 0 (4 * r + 2) ((fr_ui (fr_ui I 54 0 (4 * r) (I 54 0 (4 * r + 1))) 54 0 (4 * r + 1) ((fr_ui I 54 0 (4 * r) (I 54 0 (4 * r + 1))) 54 0 (4 * r + 2))) 54 0 (4 * r + 3)))) n r))) r)).toInt64 - (((fr_ui (fr_ui (fr_ui (fr_ui I 54 0 (4 * r) (I 54 0 (4 * r + 1))) 54 0 (4 * r + 1) ((fr_ui I 54 0 (4 * r) (I 54 0 (4 * r + 1))) 54 0 (4 * r + 2))) 54 0 (4 * r + 2) ((fr_ui (fr_ui I 54 0 (4 * r) (I 54 0 (4 * r + 1))) 54 0 (4 * r + 1) ((fr_ui I 54 0 (4 * r) (I 54 0 (4 * r + 1))) 54 0 (4 * r + 2))) 54 0 (4 * r + 3))) 54 0 (4 * r + 3) (f_O_flow ((fr_ui (fr_ui (fr_ui I 54 0 (4 * r) (I 54 0 (4 * r + 1))) 54 0 (4 * r + 1) ((fr_ui I 54 0 (4 * r) (I 54 0 (4 * r + 1))) 54 0 (4 * r + 2))) 54 0 (4 * r + 2) ((fr_ui (fr_ui I 54 0 (4 * r) (I 54 0 (4 * r + 1))) 54 0 (4 * r + 1) ((fr_ui I 54 0 (4 * r) (I 54 0 (4 * r + 1))) 54 0 (4 * r + 2))) 54 0 (4 * r + 3)))) n r)) 48 0 r)).toInt64))))
      else
        if (if (lg_cmp ((f_O_root ((fr_ui (fr_ui (fr_ui (fr_ui I 54 0 (4 * r) (I 54 0 (4 * r + 1))) 54 0 (4 * r + 1) ((fr_ui I 54 0 (4 * r) (I 54 0 (4 * r + 1))) 54 0 (4 * r + 2))) 54 0 (4 * r + 2) ((fr_ui (fr_ui I 54 0 (4 * r) (I 54 0 (4 * r + 1))) 54 0 (4 * r + 1) ((fr_ui I 54 0 (4 * r) (I 54 0 (4 * r + 1))) 54 0 (4 * r + 2))) 54 0 (4 * r + 3))) 54 0 (4 * r + 3) (f_O_flow ((fr_ui (fr_ui (fr_ui I 54 0 (4 * r) (I 54 0 (4 * r + 1))) 54 0 (4 * r + 1) ((fr_ui I 54 0 (4 * r) (I 54 0 (4 * r + 1))) 54 0 (4 * r + 2))) 54 0 (4 * r + 2) ((fr_ui (fr_ui I 54 0 (4 * r) (I 54 0 (4 * r + 1))) 54 0 (4 * r + 1) ((fr_ui I 54 0 (4 * r) (I 54 0 (4 * r + 1))) 54 0 (4 * r + 2))) 54 0 (4 * r + 3)))) n r))) r)).toInt64 (((fr_ui (fr_ui (fr_ui (fr_ui I 54 0 (4 * r) (I 54 0 (4 * r + 1))) 54 0 (4 * r + 1) ((fr_ui I 54 0 (4 * r) (I 54 0 (4 * r + 1))) 54 0 (4 * r + 2))) 54 0 (4 * r + 2) ((fr_ui (fr_ui I 54 0 (4 * r) (I 54 0 (4 * r + 1))) 54 0 (4 * r + 1) ((fr_ui I 54 0 (4 * r) (I 54 0 (4 * r + 1))) 54 0 (4 * r + 2))) 54 0 (4 * r + 3))) 54 0 (4 * r + 3) (f_O_flow ((fr_ui (fr_ui (fr_ui I 54 0 (4 * r) (I 54 0 (4 * r + 1))) 54 0 (4 * r + 1) ((fr_ui I 54 0 (4 * r) (I 54 0 (4 * r + 1))) 54 0 (4 * r + 2))) 54 0 (4 * r + 2) ((fr_ui (fr_ui I 54 0 (4 * r) (I 54 0 (4 * r + 1))) 54 0 (4 * r + 1) ((fr_ui I 54 0 (4 * r) (I 54 0 (4 * r + 1))) 54 0 (4 * r + 2))) 54 0 (4 * r + 3)))) n r)) 48 0 r)).toInt64) ≤ 0 then (0 : Int32) else 1) = ((fr_ui (fr_ui (fr_ui (fr_ui I 54 0 (4 * r) (I 54 0 (4 * r + 1))) 54 0 (4 * r + 1) ((fr_ui I 54 0 (4 * r) (I 54 0 (4 * r + 1))) 54 0 (4 * r + 2))) 54 0 (4 * r + 2) ((fr_ui (fr_ui I 54 0 (4 * r) (I 54 0 (4 * r + 1))) 54 0 (4 * r + 1) ((fr_ui I 54 0 (4 * r) (I 54 0 (4 * r + 1))) 54 0 (4 * r + 2))) 54 0 (4 * r + 3))) 54 0 (4 * r + 3) (f_O_flow ((fr_ui (fr_ui (fr_ui I 54 0 (4 * r) (I 54 0 (4 * r + 1))) 54 0 (4 * r + 1) ((fr_ui I 54 0 (4 * r) (I 54 0 (4 * r + 1))) 54 0 (4 * r + 2))) 54 0 (4 * r + 2) ((fr_ui (fr_ui I 54 0 (4 * r) (I 54 0 (4 * r + 1))) 54 0 (4 * r + 1) ((fr_ui I 54 0 (4 * r) (I 54 0 (4 * r + 1))) 54 0 (4 * r + 2))) 54 0 (4 * r + 3)))) n r)) 56 0 r) then
          if ((fr_ui (fr_ui (fr_ui (fr_ui I 54 0 (4 * r) (I 54 0 (4 * r + 1))) 54 0 (4 * r + 1) ((fr_ui I 54 0 (4 * r) (I 54 0 (4 * r + 1))) 54 0 (4 * r + 2))) 54 0 (4 * r + 2) ((fr_ui (fr_ui I 54 0 (4 * r) (I 54 0 (4 * r + 1))) 54 0 (4 * r + 1) ((fr_ui I 54 0 (4 * r) (I 54 0 (4 * r + 1))) 54 0 (4 * r + 2))) 54 0 (4 * r + 3))) 54 0 (4 * r + 3) (f_O_flow ((fr_ui (fr_ui (fr_ui I 54 0 (4 * r) (I 54 0 (4 * r + 1))) 54 0 (4 * r + 1) ((fr_ui I 54 0 (4 * r) (I 54 0 (4 * r + 1))) 54 0 (4 * r + 2))) 54 0 (4 * r + 2) ((fr_ui (fr_ui I 54 0 (4 * r) (I 54 0 (4 * r + 1))) 54 0 (4 * r + 1) ((fr_ui I 54 0 (4 * r) (I 54 0 (4 * r + 1))) 54 0 (4 * r + 2))) 54 0 (4 * r + 3)))) n r)) 58 0 r) = ((fr_ui (fr_ui (fr_ui (fr_ui I 54 0 (4 * r) (I 54 0 (4 * r + 1))) 54 0 (4 * r + 1) ((fr_ui I 54 0 (4 * r) (I 54 0 (4 * r + 1))) 54 0 (4 * r + 2))) 54 0 (4 * r + 2) ((fr_ui (fr_ui I 54 0 (4 * r) (I 54 0 (4 * r + 1))) 54 0 (4 * r + 1) ((fr_ui I 54 0 (4 * r) (I 54 0 (4 * r + 1))) 54 0 (4 * r + 2))) 54 0 (4 * r + 3))) 54 0 (4 * r + 3) (f_O_flow ((fr_ui (fr_ui (fr_ui I 54 0 (4 * r) (I 54 0 (4 * r + 1))) 54 0 (4 * r + 1) ((fr_ui I 54 0 (4 * r) (I 54 0 (4 * r + 1))) 54 0 (4 * r + 2))) 54 0 (4 * r + 2) ((fr_ui (fr_ui I 54 0 (4 * r) (I 54 0 (4 * r + 1))) 54 0 (4 * r + 1) ((fr_ui I 54 0 (4 * r) (I 54 0 (4 * r + 1))) 54 0 (4 * r + 2))) 54 0 (4 * r + 3)))) n r)) 20 0 1) then
            if ((f_O_send ((fr_ui (fr_ui (fr_ui (fr_ui I 54 0 (4 * r) (I 54 0 (4 * r + 1))) 54 0 (4 * r + 1) ((fr_ui I 54 0 (4 * r) (I 54 0 (4 * r + 1))) 54 0 (4 * r + 2))) 54 0 (4 * r + 2) ((fr_ui (fr_ui I 54 0 (4 * r) (I 54 0 (4 * r + 1))) 54 0 (4 * r + 1) ((fr_ui I 54 0 (4 * r) (I 54 0 (4 * r + 1))) 54 0 (4 * r + 2))) 54 0 (4 * r + 3))) 54 0 (4 * r + 3) (f_O_flow ((fr_ui (fr_ui (fr_ui I 54 0 (4 * r) (I 54 0 (4 * r + 1))) 54 0 (4 * r + 1) ((fr_ui I 54 0 (4 * r) (I 54 0 (4 * r + 1))) 54 0 (4 * r + 2))) 54 0 (4 * r + 2) ((fr_ui (fr_ui I 54 0 (4 * r) (I 54 0 (4 * r + 1))) 54 0 (4 * r + 1) ((fr_ui I 54 0 (4 * r) (I 54 0 (4 * r + 1))) 54 0 (4 * r + 2))) 54 0 (4 * r + 3)))) n r))) r) 59 0 r) < 4 then
              ((fr_ui (fr_ui (f_O_send ((fr_ui (fr_ui (fr_ui (fr_ui I 54 0 (4 * r) (I 54 0 (4 * r + 1))) 54 0 (4 * r + 1) ((fr_ui I 54 0 (4 * r) (I 54 0 (4 * r + 1))) 54 0 (4 * r + 2))) 54 0 (4 * r + 2) ((fr_ui (fr_ui I 54 0 (4 * r) (I 54 0 (4 * r + 1))) 54 0 (4 * r + 1) ((fr_ui I 54 0 (4 * r) (I 54 0 (4 * r + 1))) 54 0 (4 * r + 2))) 54 0 (4 * r + 3))) 54 0 (4 * r + 3) (f_O_flow ((fr_ui (fr_ui (fr_ui I 54 0 (4 * r) (I 54 0 (4 * r + 1))) 54 0 (4 * r + 1) ((fr_ui I 54 0 (4 * r) (I 54 0 (4 * r + 1))) 54 0 (4 * r + 2))) 54 0 (4 * r + 2) ((fr_ui (fr_ui I 54 0 (4 * r) (I 54 0 (4 * r + 1))) 54 0 (4 * r + 1) ((fr_ui I 54 0 (4 * r) (I 54 0 (4 * r + 1))) 54 0 (4 * r + 2))) 54 0 (4 * r + 3)))) n r))) r) 59 0 r (2 * ((f_O_send ((fr_ui (fr_ui (fr_ui (fr_ui I 54 0 (4 * r) (I 54 0 (4 * r + 1))) 54 0 (4 * r + 1) ((fr_ui I 54 0 (4 * r) (I 54 0 (4 * r + 1))) 54 0 (4 * r + 2))) 54 0 (4 * r + 2) ((fr_ui (fr_ui I 54 0 (4 * r) (I 54 0 (4 * r + 1))) 54 0 (4 * r + 1) ((fr_ui I 54 0 (4 * r) (I 54 0 (4 * r + 1))) 54 0 (4 * r + 2))) 54 0 (4 * r + 3))) 54 0 (4 * r + 3) (f_O_flow ((fr_ui (fr_ui (fr_ui I 54 0 (4 * r) (I 54 0 (4 * r + 1))) 54 0 (4 * r + 1) ((fr_ui I 54 0 (4 * r) (I 54 0 (4 * r + 1))) 54 0 (4 * r + 2))) 54 0 (4 * r + 2) ((fr_ui (fr_ui I 54 0 (4 * r) (I 54 0 (4 * r + 1))) 54 0 (4 * r + 1) ((fr_ui I 54 0 (4 * r) (I 54 0 (4 * r + 1))) 54 0 (4 * r + 2))) 54 0 (4 * r + 3)))) n r))) r) 59 0 r))) 58 0 r (((fr_ui (f_O_send ((fr_ui (fr_ui (fr_ui (fr_ui I 54 0 (4 * r) (I 54 0 (4 * r + 1))) 54 0 (4 * r + 1) ((fr_ui I 54 0 (4 * r) (I 54 0 (4 * r + 1))) 54 0 (4 * r + 2))) 54 0 (4 * r + 2) ((fr_ui (fr_ui I 54 0 (4 * r) (I 54 0 (4 * r + 1))) 54 0 (4 * r + 1) ((fr_ui I 54 0 (4 * r) (I 54 0 (4 * r + 1))) 54 0 (4 * r + 2))) 54 0 (4 * r + 3))) 54 0 (4 * r + 3) (f_O_flow ((fr_ui (fr_ui (fr_ui I 54 0 (4 * r) (I 54 0 (4 * r + 1))) 54 0 (4 * r + 1) ((fr_ui I 54 0 (4 * r) (I 54 0 (4 * r + 1))) 54 0 (4 * r + 2))) 54 0 (4 * r + 2) ((fr_ui (fr_ui I 54 0 (4 * r) (I 54 0 (4 * r + 1))) 54 0 (4 * r + 1) ((fr_ui I 54 0 (4 * r) (I 54 0 (4 * r + 1))) 54 0 (4 * r + 2))) 54 0 (4 * r + 3)))) n r))) r) 59 0 r (2 * ((f_O_send ((fr_ui (fr_ui (fr_ui (fr_ui I 54 0 (4 * r) (I 54 0 (4 * r + 1))) 54 0 (4 * r + 1) ((fr_ui I 54 0 (4 * r) (I 54 0 (4 * r + 1))) 54 0 (4 * r + 2))) 54 0 (4 * r + 2) ((fr_ui (fr_ui I 54 0 (4 * r) (I 54 0 (4 * r + 1))) 54 0 (4 * r + 1) ((fr_ui I 54 0 (4 * r) (I 54 0 (4 * r + 1))) 54 0 (4 * r + 2))) 54 0 (4 * r + 3))) 54 0 (4 * r + 3) (f_O_flow ((fr_ui (fr_ui (fr_ui I 54 0 (4 * r) (I 54 0 (4 * r + 1))) 54 0 (4 * r + 1) ((fr_ui I 54 0 (4 * r) (I 54 0 (4 * r + 1))) 54 0 (4 * r + 2))) 54 0 (4 * r + 2) ((fr_ui (fr_ui I 54 0 (4 * r) (I 54 0 (4 * r + 1))) 54 0 (4 * r + 1) ((fr_ui I 54 0 (4 * r) (I 54 0 (4 * r + 1))) 54 0 (4 * r + 2))) 54 0 (4 * r + 3)))) n r))) r) 59 0 r))) 20 0 1) + ((fr_ui (f_O_send ((fr_ui (fr_ui (fr_ui (fr_ui I 54 0 (4 * r) (I 54 0 (4 * r + 1))) 54 0 (4 * r + 1) ((fr_ui I 54 0 (4 * r) (I 54 0 (4 * r + 1))) 54 0 (4 * r + 2))) 54 0 (4 * r + 2) ((fr_ui (fr_ui I 54 0 (4 * r) (I 54 0 (4 * r + 1))) 54 0 (4 * r + 1) ((fr_ui I 54 0 (4 * r) (I 54 0 (4 * r + 1))) 54 0 (4 * r + 2))) 54 0 (4 * r + 3))) 54 0 (4 * r + 3) (f_O_flow ((fr_ui (fr_ui (fr_ui I 54 0 (4 * r) (I 54 0 (4 * r + 1))) 54 0 (4 * r + 1) ((fr_ui I 54 0 (4 * r) (I 54 0 (4 * r + 1))) 54 0 (4 * r + 2))) 54 0 (4 * r + 2) ((fr_ui (fr_ui I 54 0 (4 * r) (I 54 0 (4 * r + 1))) 54 0 (4 * r + 1) ((fr_ui I 54 0 (4 * r) (I 54 0 (4 * r + 1))) 54 0 (4 * r + 2))) 54 0 (4 * r + 3)))) n r))) r) 59 0 r (2 * ((f_O_send ((fr_ui (fr_ui (fr_ui (fr_ui I 54 0 (4 * r) (I 54 0 (4 * r + 1))) 54 0 (4 * r + 1) ((fr_ui I 54 0 (4 * r) (I 54 0 (4 * r + 1))) 54 0 (4 * r + 2))) 54 0 (4 * r + 2) ((fr_ui (fr_ui I 54 0 (4 * r) (I 54 0 (4 * r + 1))) 54 0 (4 * r + 1) ((fr_ui I 54 0 (4 * r) (I 54 0 (4 * r + 1))) 54 0 (4 * r + 2))) 54 0 (4 * r + 3))) 54 0 (4 * r + 3) (f_O_flow ((fr_ui (fr_ui (fr_ui I 54 0 (4 * r) (I 54 0 (4 * r + 1))) 54 0 (4 * r + 1) ((fr_ui I 54 0 (4 * r) (I 54 0 (4 * r + 1))) 54 0 (4 * r + 2))) 54 0 (4 * r + 2) ((fr_ui (fr_ui I 54 0 (4 * r) (I 54 0 (4 * r + 1))) 54 0 (4 * r + 1) ((fr_ui I 54 0 (4 * r) (I 54 0 (4 * r + 1))) 54 0 (4 * r + 2))) 54 0 (4 * r + 3)))) n r))) r) 59 0 r))) 59 0 r))), (fr_uj J 55 0 r ((J 55 0 r) + ((((f_O_root ((fr_ui (fr_ui (fr_ui (fr_ui I 54 0 (4 * r) (I 54 0 (4 * r + 1))) 54 0 (4 * r + 1) ((fr_ui I 54 0 (4 * r) (I 54 0 (4 * r + 1))) 54 0 (4 * r + 2))) 54 0 (4 * r + 2) ((fr_ui (fr_ui I 54 0 (4 * r) (I 54 0 (4 * r + 1))) 54 0 (4 * r + 1) ((fr_ui I 54 0 (4 * r) (I 54 0 (4 * r + 1))) 54 0 (4 * r + 2))) 54 0 (4 * r + 3))) 54 0 (4 * r + 3) (f_O_flow ((fr_ui (fr_ui (fr_ui I 54 0 (4 * r) (I 54 0 (4 * r + 1))) 54 0 (4 * r + 1) ((fr_ui I 54 0 (4 * r) (I 54 0 (4 * r + 1))) 54 0 (4 * r + 2))) 54 0 (4 * r + 2) ((fr_ui (fr_ui I 54 0 (4 * r) (I 54 0 (4 * r + 1))) 54 0 (4 * r + 1) ((fr_ui I 54 0 (4 * r) (I 54 0 (4 * r + 1))) 54 0 (4 * r + 2))) 54 0 (4 * r + 3)))) n r))) r)).toInt64 * ((f_O_root ((fr_ui (fr_ui (fr_ui (fr_ui I 54 0 (4 * r) (I 54 0 (4 * r + 1))) 54 0 (4 * r + 1) ((fr_ui I 54 0 (4 * r) (I 54 0 (4 * r + 1))) 54 0 (4 * r + 2))) 54 0 (4 * r + 2) ((fr_ui (fr_ui I 54 0 (4 * r) (I 54 0 (4 * r + 1))) 54 0 (4 * r + 1) ((fr_ui I 54 0 (4 * r) (I 54 0 (4 * r + 1))) 54 0 (4 * r + 2))) 54 0 (4 * r + 3))) 54 0 (4 * r + 3) (f_O_flow ((fr_ui (fr_ui (fr_ui I 54 0 (4 * r) (I 54 0 (4 * r + 1))) 54 0 (4 * r + 1) ((fr_ui I 54 0 (4 * r) (I 54 0 (4 * r + 1))) 54 0 (4 * r + 2))) 54 0 (4 * r + 2) ((fr_ui (fr_ui I 54 0 (4 * r) (I 54 0 (4 * r + 1))) 54 0 (4 * r + 1) ((fr_ui I 54 0 (4 * r) (I 54 0 (4 * r + 1))) 54 0 (4 * r + 2))) 54 0 (4 * r + 3)))) n r))) r)).toInt64) - ((((fr_ui (fr_ui (fr_ui (fr_ui I 54 0 (4 * r) (I 54 0 (4 * r + 1))) 54 0 (4 * r + 1) ((fr_ui I 54 0 (4 * r) (I 54 0 (4 * r + 1))) 54 0 (4 * r + 2))) 54 0 (4 * r + 2) ((fr_ui (fr_ui I 54 0 (4 * r) (I 54 0 (4 * r + 1))) 54 0 (4 * r + 1) ((fr_ui I 54 0 (4 * r) (I 54 0 (4 * r + 1))) 54 0 (4 * r + 2))) 54 0 (4 * r + 3))) 54 0 (4 * r + 3) (f_O_flow ((fr_ui (fr_ui (fr_ui I 54 0 (4 * r) (I 54 0 (4 * r + 1))) 54 0 (4 * r + 1) ((fr_ui I 54 0 (4 * r) (I 54 0 (4 * r + 1))) 54 0 (4 * r + 2))) 54 0 (4 * r + 2) ((fr_ui (fr_ui I 54 0 (4 * r) (I 54 0 (4 * r + 1))) 54 0 (4 * r + 1) ((fr_ui I 54 0 (4 * r) (I 54 0 (4 * r + 1))) 54 0 (4 * r + 2))) 54 0 (4 * r + 3)))) n r)) 48 0 r)).toInt64 * (((fr_ui (fr_ui (fr_ui (fr_ui I 54 0 (4 * r) (I 54 0 (4 * r + 1))) 54 0 (4 * r + 1) ((fr_ui I 54 0 (4 * r) (I 54 0 (4 * r + 1))) 54 0 (4 * r + 2))) 54 0 (4 * r + 2) ((fr_ui (fr_ui I 54 0 (4 * r) (I 54 0 (4 * r + 1))) 54 0 (4 * r + 1) ((fr_ui I 54 0 (4 * r) (I 54 0 (4 * r + 1))) 54 0 (4 * r + 2))) 54 0 (4 * r + 3))) 54 0 (4 * r + 3) (f_O_flow ((fr_ui (fr_ui (fr_ui I 54 0 (4 * r) (I 54 0 (4 * r + 1))) 54 0 (4 * r + 1) ((fr_ui I 54 0 (4 * r) (I 54 0 (4 * r + 1))) 54 0 (4 * r + 2))) 54 0 (4 * r + 2) ((fr_ui (fr_ui I 54 0 (4 * r) (I 54 0 (4 * r + 1))) 54 0 (4 * r + 1) ((fr_ui I 54 0 (4 * r) (I 54 0 (4 * r + 1))) 54 0 (4 * r + 2))) 54 0 (4 * r + 3)))) n r)) 48 0 r)).toInt64)))))
            else
              ((fr_ui (fr_ui (f_O_send ((fr_ui (fr_ui (fr_ui (fr_ui I 54 0 (4 * r) (I 54 0 (4 * r + 1))) 54 0 (4 * r + 1) ((fr_ui I 54 0 (4 * r) (I 54 0 (4 * r + 1))) 54 0 (4 * r + 2))) 54 0 (4 * r + 2) ((fr_ui (fr_ui I 54 0 (4 * r) (I 54 0 (4 * r + 1))) 54 0 (4 * r + 1) ((fr_ui I 54 0 (4 * r) (I 54 0 (4 * r + 1))) 54 0 (4 * r + 2))) 54 0 (4 * r + 3))) 54 0 (4 * r + 3) (f_O_flow ((fr_ui (fr_ui (fr_ui I 54 0 (4 * r) (I 54 0 (4 * r + 1))) 54 0 (4 * r + 1) ((fr_ui I 54 0 (4 * r) (I 54 0 (4 * r + 1))) 54 0 (4 * r + 2))) 54 0 (4 * r + 2) ((fr_ui (fr_ui I 54 0 (4 * r) (I 54 0 (4 * r + 1))) 54 0 (4 * r + 1) ((fr_ui I 54 0 (4 * r) (I 54 0 (4 * r + 1))) 54 0 (4 * r + 2))) 54 0 (4 * r + 3)))) n r))) r) 59 0 r 8) 58 0 r (((fr_ui (f_O_send ((fr_ui (fr_ui (fr_ui (fr_ui I 54 0 (4 * r) (I 54 0 (4 * r + 1))) 54 0 (4 * r + 1) ((fr_ui I 54 0 (4 * r) (I 54 0 (4 * r + 1))) 54 0 (4 * r + 2))) 54 0 (4 * r + 2) ((fr_ui (fr_ui I 54 0 (4 * r) (I 54 0 (4 * r + 1))) 54 0 (4 * r + 1) ((fr_ui I 54 0 (4 * r) (I 54 0 (4 * r + 1))) 54 0 (4 * r + 2))) 54 0 (4 * r + 3))) 54 0 (4 * r + 3) (f_O_flow ((fr_ui (fr_ui (fr_ui I 54 0 (4 * r) (I 54 0 (4 * r + 1))) 54 0 (4 * r + 1) ((fr_ui I 54 0 (4 * r) (I 54 0 (4 * r + 1))) 54 0 (4 * r + 2))) 54 0 (4 * r + 2) ((fr_ui (fr_ui I 54 0 (4 * r) (I 54 0 (4 * r + 1))) 54 0 (4 * r + 1) ((fr_ui I 54 0 (4 * r) (I 54 0 (4 * r + 1))) 54 0 (4 * r + 2))) 54 0 (4 * r + 3)))) n r))) r) 59 0 r 8) 20 0 1) + ((fr_ui (f_O_send ((fr_ui (fr_ui (fr_ui (fr_ui I 54 0 (4 * r) (I 54 0 (4 * r + 1))) 54 0 (4 * r + 1) ((fr_ui I 54 0 (4 * r) (I 54 0 (4 * r + 1))) 54 0 (4 * r + 2))) 54 0 (4 * r + 2) ((fr_ui (fr_ui I 54 0 (4 * r) (I 54 0 (4 * r + 1))) 54 0 (4 * r + 1) ((fr_ui I 54 0 (4 * r) (I 54 0 (4 * r + 1))) 54 0 (4 * r + 2))) 54 0 (4 * r + 3))) 54 0 (4 * r + 3) (f_O_flow ((fr_ui (fr_ui (fr_ui I 54 0 (4 * r) (I 54 0 (4 * r + 1))) 54 0 (4 * r + 1) ((fr_ui I 54 0 (4 * r) (I 54 0 (4 * r + 1))) 54 0 (4 * r + 2))) 54 0 (4 * r + 2) ((fr_ui (fr_ui I 54 0 (4 * r) (I 54 0 (4 * r + 1))) 54 0 (4 * r + 1) ((fr_ui I 54 0 (4 * r) (I 54 0 (4 * r + 1))) 54 0 (4 * r + 2))) 54 0 (4 * r + 3)))) n r))) r) 59 0 r 8) 59 0 r))), (fr_uj J 55 0 r ((J 55 0 r) + ((((f_O_root ((fr_ui (fr_ui (fr_ui (fr_ui I 54 0 (4 * r) (I 54 0 (4 * r + 1))) 54 0 (4 * r + 1) ((fr_ui I 54 0 (4 * r) (I 54 0 (4 * r + 1))) 54 0 (4 * r + 2))) 54 0 (4 * r + 2) ((fr_ui (fr_ui I 54 0 (4 * r) (I 54 0 (4 * r + 1))) 54 0 (4 * r + 1) ((fr_ui I 54 0 (4 * r) (I 54 0 (4 * r + 1))) 54 0 (4 * r + 2))) 54 0 (4 * r + 3))) 54 0 (4 * r + 3) (f_O_flow ((fr_ui (fr_ui (fr_ui I 54 0 (4 * r) (I 54 0 (4 * r + 1))) 54 0 (4 * r + 1) ((fr_ui I 54 0 (4 * r) (I 54 0 (4 * r + 1))) 54 0 (4 * r + 2))) 54 0 (4 * r + 2) ((fr_ui (fr_ui I 54 0 (4 * r) (I 54 0 (4 * r + 1))) 54 0 (4 * r + 1) ((fr_ui I 54 0 (4 * r) (I 54 0 (4 * r + 1))) 54 0 (4 * r + 2))) 54 0 (4 * r + 3)))) n r))) r)).toInt64 * ((f_O_root ((fr_ui (fr_ui (fr_ui (fr_ui I 54 0 (4 * r) (I 54 0 (4 * r + 1))) 54 0 (4 * r + 1) ((fr_ui I 54 0 (4 * r) (I 54 0 (4 * r + 1))) 54 0 (4 * r + 2))) 54 0 (4 * r + 2) ((fr_ui (fr_ui I 54 0 (4 * r) (I 54 0 (4 * r + 1))) 54 0 (4 * r + 1) ((fr_ui I 54 0 (4 * r) (I 54 0 (4 * r + 1))) 54 0 (4 * r + 2))) 54 0 (4 * r + 3))) 54 0 (4 * r + 3) (f_O_flow ((fr_ui (fr_ui (fr_ui I 54 0 (4 * r) (I 54 0 (4 * r + 1))) 54 0 (4 * r + 1) ((fr_ui I 54 0 (4 * r) (I 54 0 (4 * r + 1))) 54 0 (4 * r + 2))) 54 0 (4 * r + 2) ((fr_ui (fr_ui I 54 0 (4 * r) (I 54 0 (4 * r + 1))) 54 0 (4 * r + 1) ((fr_ui I 54 0 (4 * r) (I 54 0 (4 * r + 1))) 54 0 (4 * r + 2))) 54 0 (4 * r + 3)))) n r))) r)).toInt64) - ((((fr_ui (fr_ui (fr_ui (fr_ui I 54 0 (4 * r) (I 54 0 (4 * r + 1))) 54 0 (4 * r + 1) ((fr_ui I 54 0 (4 * r) (I 54 0 (4 * r + 1))) 54 0 (4 * r + 2))) 54 0 (4 * r + 2) ((fr_ui (fr_ui I 54 0 (4 * r) (I 54 0 (4 * r + 1))) 54 0 (4 * r + 1) ((fr_ui I 54 0 (4 * r) (I 54 0 (4 * r + 1))) 54 0 (4 * r + 2))) 54 0 (4 * r + 3))) 54 0 (4 * r + 3) (f_O_flow ((fr_ui (fr_ui (fr_ui I 54 0 (4 * r) (I 54 0 (4 * r + 1))) 54 0 (4 * r + 1) ((fr_ui I 54 0 (4 * r) (I 54 0 (4 * r + 1))) 54 0 (4 * r + 2))) 54 0 (4 * r + 2) ((fr_ui (fr_ui I 54 0 (4 * r) (I 54 0 (4 * r + 1))) 54 0 (4 * r + 1) ((fr_ui I 54 0 (4 * r) (I 54 0 (4 * r + 1))) 54 0 (4 * r + 2))) 54 0 (4 * r + 3)))) n r)) 48 0 r)).toInt64 * (((fr_ui (fr_ui (fr_ui (fr_ui I 54 0 (4 * r) (I 54 0 (4 * r + 1))) 54 0 (4 * r + 1) ((fr_ui I 54 0 (4 * r) (I 54 0 (4 * r + 1))) 54 0 (4 * r + 2))) 54 0 (4 * r + 2) ((fr_ui (fr_ui I 54 0 (4 * r) (I 54 0 (4 * r + 1))) 54 0 (4 * r + 1) ((fr_ui I 54 0 (4 * r) (I 54 0 (4 * r + 1))) 54 0 (4 * r + 2))) 54 0 (4 * r + 3))) 54 0 (4 * r + 3) (f_O_flow ((fr_ui (fr_ui (fr_ui I 54 0 (4 * r) (I 54 0 (4 * r + 1))) 54 0 (4 * r + 1) ((fr_ui I 54 0 (4 * r) (I 54 0 (4 * r + 1))) 54 0 (4 * r + 2))) 54 0 (4 * r + 2) ((fr_ui (fr_ui I 54 0 (4 * r) (I 54 0 (4 * r + 1))) 54 0 (4 * r + 1) ((fr_ui I 54 0 (4 * r) (I 54 0 (4 * r + 1))) 54 0 (4 * r + 2))) 54 0 (4 * r + 3)))) n r)) 48 0 r)).toInt64)))))
          else
            ((fr_ui (fr_ui (fr_ui (fr_ui I 54 0 (4 * r) (I 54 0 (4 * r + 1))) 54 0 (4 * r + 1) ((fr_ui I 54 0 (4 * r) (I 54 0 (4 * r + 1))) 54 0 (4 * r + 2))) 54 0 (4 * r + 2) ((fr_ui (fr_ui I 54 0 (4 * r) (I 54 0 (4 * r + 1))) 54 0 (4 * r + 1) ((fr_ui I 54 0 (4 * r) (I 54 0 (4 * r + 1))) 54 0 (4 * r + 2))) 54 0 (4 * r + 3))) 54 0 (4 * r + 3) (f_O_flow ((fr_ui (fr_ui (fr_ui I 54 0 (4 * r) (I 54 0 (4 * r + 1))) 54 0 (4 * r + 1) ((fr_ui I 54 0 (4 * r) (I 54 0 (4 * r + 1))) 54 0 (4 * r + 2))) 54 0 (4 * r + 2) ((fr_ui (fr_ui I 54 0 (4 * r) (I 54 0 (4 * r + 1))) 54 0 (4 * r + 1) ((fr_ui I 54 0 (4 * r) (I 54 0 (4 * r + 1))) 54 0 (4 * r + 2))) 54 0 (4 * r + 3)))) n r)), (fr_uj J 55 0 r ((J 55 0 r) + ((((f_O_root ((fr_ui (fr_ui (fr_ui (fr_ui I 54 0 (4 * r) (I 54 0 (4 * r + 1))) 54 0 (4 * r + 1) ((fr_ui I 54 0 (4 * r) (I 54 0 (4 * r + 1))) 54 0 (4 * r + 2))) 54 0 (4 * r + 2) ((fr_ui (fr_ui I 54 0 (4 * r) (I 54 0 (4 * r + 1))) 54 0 (4 * r + 1) ((fr_ui I 54 0 (4 * r) (I 54 0 (4 * r + 1))) 54 0 (4 * r + 2))) 54 0 (4 * r + 3))) 54 0 (4 * r + 3) (f_O_flow ((fr_ui (fr_ui (fr_ui I 54 0 (4 * r) (I 54 0 (4 * r + 1))) 54 0 (4 * r + 1) ((fr_ui I 54 0 (4 * r) (I 54 0 (4 * r + 1))) 54 0 (4 * r + 2))) 54 0 (4 * r + 2) ((fr_ui (fr_ui I 54 0 (4 * r) (I 54 0 (4 * r + 1))) 54 0 (4 * r + 1) ((fr_ui I 54 0 (4 * r) (I 54 0 (4 * r + 1))) 54 0 (4 * r + 2))) 54 0 (4 * r + 3)))) n r))) r)).toInt64 * ((f_O_root ((fr_ui (fr_ui (fr_ui (fr_ui I 54 0 (4 * r) (I 54 0 (4 * r + 1))) 54 0 (4 * r + 1) ((fr_ui I 54 0 (4 * r) (I 54 0 (4 * r + 1))) 54 0 (4 * r + 2))) 54 0 (4 * r + 2) ((fr_ui (fr_ui I 54 0 (4 * r) (I 54 0 (4 * r + 1))) 54 0 (4 * r + 1) ((fr_ui I 54 0 (4 * r) (I 54 0 (4 * r + 1))) 54 0 (4 * r + 2))) 54 0 (4 * r + 3))) 54 0 (4 * r + 3) (f_O_flow ((fr_ui (fr_ui (fr_ui I 54 0 (4 * r) (I 54 0 (4 * r + 1))) 54 0 (4 * r + 1) ((fr_ui I 54 0 (4 * r) (I 54 0 (4 * r + 1))) 54 0 (4 * r + 2))) 54 0 (4 * r + 2) ((fr_ui (fr_ui I 54 0 (4 * r) (I 54 0 (4 * r + 1))) 54 0 (4 * r + 1) ((fr_ui I 54 0 (4 * r) (I 54 0 (4 * r + 1))) 54 0 (4 * r + 2))) 54 0 (4 * r + 3)))) n r))) r)).toInt64) - ((((fr_ui (fr_ui (fr_ui (fr_ui I 54 0 (4 * r) (I 54 0 (4 * r + 1))) 54 0 (4 * r + 1) ((fr_ui I 54 0 (4 * r) (I 54 0 (4 * r + 1))) 54 0 (4 * r + 2))) 54 0 (4 * r + 2) ((fr_ui (fr_ui I 54 0 (4 * r) (I 54 0 (4 * r + 1))) 54 0 (4 * r + 1) ((fr_ui I 54 0 (4 * r) (I 54 0 (4 * r + 1))) 54 0 (4 * r + 2))) 54 0 (4 * r + 3))) 54 0 (4 * r + 3) (f_O_flow ((fr_ui (fr_ui (fr_ui I 54 0 (4 * r) (I 54 0 (4 * r + 1))) 54 0 (4 * r + 1) ((fr_ui I 54 0 (4 * r) (I 54 0 (4 * r + 1))) 54 0 (4 * r + 2))) 54 0 (4 * r + 2) ((fr_ui (fr_ui I 54 0 (4 * r) (I 54 0 (4 * r + 1))) 54 0 (4 * r + 1) ((fr_ui I 54 0 (4 * r) (I 54 0 (4 * r + 1))) 54 0 (4 * r + 2))) 54 0 (4 * r + 3)))) n r)) 48 0 r)).toInt64 * (((fr_ui (fr_ui (fr_ui (fr_ui I 54 0 (4 * r) (I 54 0 (4 * r + 1))) 54 0 (4 * r + 1) ((fr_ui I 54 0 (4 * r) (I 54 0 (4 * r + 1))) 54 0 (4 * r + 2))) 54 0 (4 * r + 2) ((fr_ui (fr_ui I 54 0 (4 * r) (I 54 0 (4 * r + 1))) 54 0 (4 * r + 1) ((fr_ui I 54 0 (4 * r) (I 54 0 (4 * r + 1))) 54 0 (4 * r + 2))) 54 0 (4 * r + 3))) 54 0 (4 * r + 3) (f_O_flow ((fr_ui (fr_ui (fr_ui I 54 0 (4 * r) (I 54 0 (4 * r + 1))) 54 0 (4 * r + 1) ((fr_ui I 54 0 (4 * r) (I 54 0 (4 * r + 1))) 54 0 (4 * r + 2))) 54 0 (4 * r + 2) ((fr_ui (fr_ui I 54 0 (4 * r) (I 54 0 (4 * r + 1))) 54 0 (4 * r + 1) ((fr_ui I 54 0 (4 * r) (I 54 0 (4 * r + 1))) 54 0 (4 * r + 2))) 54 0 (4 * r + 3)))) n r)) 48 0 r)).toInt64)))))
        else
          ((fr_ui (fr_ui (f_O_send ((fr_ui (fr_ui (fr_ui (fr_ui (fr_ui (fr_ui I 54 0 (4 * r) (I 54 0 (4 * r + 1))) 54 0 (4 * r + 1) ((fr_ui I 54 0 (4 * r) (I 54 0 (4 * r + 1))) 54 0 (4 * r + 2))) 54 0 (4 * r + 2) ((fr_ui (fr_ui I 54 0 (4 * r) (I 54 0 (4 * r + 1))) 54 0 (4 * r + 1) ((fr_ui I 54 0 (4 * r) (I 54 0 (4 * r + 1))) 54 0 (4 * r + 2))) 54 0 (4 * r + 3))) 54 0 (4 * r + 3) (f_O_flow ((fr_ui (fr_ui (fr_ui I 54 0 (4 * r) (I 54 0 (4 * r + 1))) 54 0 (4 * r + 1) ((fr_ui I 54 0 (4 * r) (I 54 0 (4 * r + 1))) 54 0 (4 * r + 2))) 54 0 (4 * r + 2) ((fr_ui (fr_ui I 54 0 (4 * r) (I 54 0 (4 * r + 1))) 54 0 (4 * r + 1) ((fr_ui I 54 0 (4 * r) (I 54 0 (4 * r + 1))) 54 0 (4 * r + 2))) 54 0 (4 * r + 3)))) n r)) 56 0 r (if (lg_cmp ((f_O_root ((fr_ui (fr_ui (fr_ui (fr_ui I 54 0 (4 * r) (I 54 0 (4 * r + 1))) 54 0 (4 * r + 1) ((fr_ui I 54 0 (4 * r) (I 54 0 (4 * r + 1))) 54 0 (4 * r + 2))) 54 0 (4 * r + 2) ((fr_ui (fr_ui I 54 0 (4 * r) (I 54 0 (4 * r + 1))) 54 0 (4 * r + 1) ((fr_ui I 54 0 (4 * r) (I 54 0 (4 * r + 1))) 54 0 (4 * r + 2))) 54 0 (4 * r + 3))) 54 0 (4 * r + 3) (f_O_flow ((fr_ui (fr_ui (fr_ui I 54 0 (4 * r) (I 54 0 (4 * r + 1))) 54 0 (4 * r + 1) ((fr_ui I 54 0 (4 * r) (I 54 0 (4 * r + 1))) 54 0 (4 * r + 2))) 54 0 (4 * r + 2) ((fr_ui (fr_ui I 54 0 (4 * r) (I 54 0 (4 * r + 1))) 54 0 (4 * r + 1) ((fr_ui I 54 0 (4 * r) (I 54 0 (4 * r + 1))) 54 0 (4 * r + 2))) 54 0 (4 * r + 3)))) n r))) r)).toInt64 (((fr_ui (fr_ui (fr_ui (fr_ui I 54 0 (4 * r) (I 54 0 (4 * r + 1))) 54 0 (4 * r + 1) ((fr_ui I 54 0 (4 * r) (I 54 0 (4 * r + 1))) 54 0 (4 * r + 2))) 54 0 (4 * r + 2) ((fr_ui (fr_ui I 54 0 (4 * r) (I 54 0 (4 * r + 1))) 54 0 (4 * r + 1) ((fr_ui I 54 0 (4 * r) (I 54 0 (4 * r + 1))) 54 0 (4 * r + 2))) 54 0 (4 * r + 3))) 54 0 (4 * r + 3) (f_O_flow ((fr_ui (fr_ui (fr_ui I 54 0 (4 * r) (I 54 0 (4 * r + 1))) 54 0 (4 * r + 1) ((fr_ui I 54 0 (4 * r) (I 54 0 (4 * r + 1))) 54 0 (4 * r + 2))) 54 0 (4 * r + 2) ((fr_ui (fr_ui I 54 0 (4 * r) (I 54 0 (4 * r + 1))) 54 0 (4 * r + 1) ((fr_ui I 54 0 (4 * r) (I 54 0 (4 * r + 1))) 54 0 (4 * r + 2))) 54 0 (4 * r + 3)))) n r)) 48 0 r)).toInt64) ≤ 0 then (0 : Int32) else 1)) 57 0 r (((fr_ui (fr_ui (fr_ui (fr_ui (fr_ui I 54 0 (4 * r) (I 54 0 (4 * r + 1))) 54 0 (4 * r + 1) ((fr_ui I 54 0 (4 * r) (I 54 0 (4 * r + 1))) 54 0 (4 * r + 2))) 54 0 (4 * r + 2) ((fr_ui (fr_ui I 54 0 (4 * r) (I 54 0 (4 * r + 1))) 54 0 (4 * r + 1) ((fr_ui I 54 0 (4 * r) (I 54 0 (4 * r + 1))) 54 0 (4 * r + 2))) 54 0 (4 * r + 3))) 54 0 (4 * r + 3) (f_O_flow ((fr_ui (fr_ui (fr_ui I 54 0 (4 * r) (I 54 0 (4 * r + 1))) 54 0 (4 * r + 1) ((fr_ui I 54 0 (4 * r) (I 54 0 (4 * r + 1))) 54 0 (4 * r + 2))) 54 0 (4 * r + 2) ((fr_ui (fr_ui I 54 0 (4 * r) (I 54 0 (4 * r + 1))) 54 0 (4 * r + 1) ((fr_ui I 54 0 (4 * r) (I 54 0 (4 * r + 1))) 54 0 (4 * r + 2))) 54 0 (4 * r + 3)))) n r)) 56 0 r (if (lg_cmp ((f_O_root ((fr_ui (fr_ui (fr_ui (fr_ui I 54 0 (4 * r) (I 54 0 (4 * r + 1))) 54 0 (4 * r + 1) ((fr_ui I 54 0 (4 * r) (I 54 0 (4 * r + 1))) 54 0 (4 * r + 2))) 54 0 (4 * r + 2) ((fr_ui (fr_ui I 54 0 (4 * r) (I 54 0 (4 * r + 1))) 54 0 (4 * r + 1) ((fr_ui I 54 0 (4 * r) (I 54 0 (4 * r + 1))) 54 0 (4 * r + 2))) 54 0 (4 * r + 3))) 54 0 (4 * r + 3) (f_O_flow ((fr_ui (fr_ui (fr_ui I 54 0 (4 * r) (I 54 0 (4 * r + 1))) 54 0 (4 * r + 1) ((fr_ui I 54 0 (4 * r) (I 54 0 (4 * r + 1))) 54 0 (4 * r + 2))) 54 0 (4 * r + 2) ((fr_ui (fr_ui I 54 0 (4 * r) (I 54 0 (4 * r + 1))) 54 0 (4 * r + 1) ((fr_ui I 54 0 (4 * r) (I 54 0 (4 * r + 1))) 54 0 (4 * r + 2))) 54 0 (4 * r + 3)))) n r))) r)).toInt64 (((fr_ui (fr_ui (fr_ui (fr_ui I 54 0 (4 * r) (I 54 0 (4 * r + 1))) 54 0 (4 * r + 1) ((fr_ui I 54 0 (4 * r) (I 54 0 (4 * r + 1))) 54 0 (4 * r + 2))) 54 0 (4 * r + 2) ((fr_ui (fr_ui I 54 0 (4 * r) (I 54 0 (4 * r + 1))) 54 0 (4 * r + 1) ((fr_ui I 54 0 (4 * r) (I 54 0 (4 * r + 1))) 54 0 (4 * r + 2))) 54 0 (4 * r + 3))) 54 0 (4 * r + 3) (f_O_flow ((fr_ui (fr_ui (fr_ui I 54 0 (4 * r) (I 54 0 (4 * r + 1))) 54 0 (4 * r + 1) ((fr_ui I 54 0 (4 * r) (I 54 0 (4 * r + 1))) 54 0 (4 * r + 2))) 54 0 (4 * r + 2) ((fr_ui (fr_ui I 54 0 (4 * r) (I 54 0 (4 * r + 1))) 54 0 (4 * r + 1) ((fr_ui I 54 0 (4 * r) (I 54 0 (4 * r + 1))) 54 0 (4 * r + 2))) 54 0 (4 * r + 3)))) n r)) 48 0 r)).toInt64) ≤ 0 then (0 : Int32) else 1)) 57 0 r) + 1))) r) 59 0 r 1) 58 0 r (((fr_ui (f_O_send ((fr_ui (fr_ui (fr_ui (fr_ui (fr_ui (fr_ui I 54 0 (4 * r) (I 54 0 (4 * r + 1))) 54 0 (4 * r + 1) ((fr_ui I 54 0 (4 * r) (I 54 0 (4 * r + 1))) 54 0 (4 * r + 2))) 54 0 (4 * r + 2) ((fr_ui (fr_ui I 54 0 (4 * r) (I 54 0 (4 * r + 1))) 54 0 (4 * r + 1) ((fr_ui I 54 0 (4 * r) (I 54 0 (4 * r + 1))) 54 0 (4 * r + 2))) 54 0 (4 * r + 3))) 54 0 (4 * r + 3) (f_O_flow ((fr_ui (fr_ui (fr_ui I 54 0 (4 * r) (I 54 0 (4 * r + 1))) 54 0 (4 * r + 1) ((fr_ui I 54 0 (4 * r) (I 54 0 (4 * r + 1))) 54 0 (4 * r + 2))) 54 0 (4 * r + 2) ((fr_ui (fr_ui I 54 0 (4 * r) (I 54 0 (4 * r + 1))) 54 0 (4 * r + 1) ((fr_ui I 54 0 (4 * r) (I 54 0 (4 * r + 1))) 54 0 (4 * r + 2))) 54 0 (4 * r + 3)))) n r)) 56 0 r (if (lg_cmp ((f_O_root ((fr_ui (fr_ui (fr_ui (fr_ui I 54 0 (4 * r) (I 54 0 (4 * r + 1))) 54 0 (4 * r + 1) ((fr_ui I 54 0 (4 * r) (I 54 0 (4 * r + 1))) 54 0 (4 * r + 2))) 54 0 (4 * r + 2) ((fr_ui (fr_ui I 54 0 (4 * r) (I 54 0 (4 * r + 1))) 54 0 (4 * r + 1) ((fr_ui I 54 0 (4 * r) (I 54 0 (4 * r + 1))) 54 0 (4 * r + 2))) 54 0 (4 * r + 3))) 54 0 (4 * r + 3) (f_O_flow ((fr_ui (fr_ui (fr_ui I 54 0 (4 * r) (I 54 0 (4 * r + 1))) 54 0 (4 * r + 1) ((fr_ui I 54 0 (4 * r) (I 54 0 (4 * r + 1))) 54 0 (4 * r + 2))) 54 0 (4 * r + 2) ((fr_ui (fr_ui I 54 0 (4 * r) (I 54 0 (4 * r + 1))) 54 0 (4 * r + 1) ((fr_ui I 54 0 (4 * r) (I 54 0 (4 * r + 1))) 54 0 (4 * r + 2))) 54 0 (4 * r + 3)))) n r))) r)).toInt64 (((fr_ui (fr_ui (fr_ui (fr_ui I 54 0 (4 * r) (I 54 0 (4 * r + 1))) 54 0 (4 * r + 1) ((fr_ui I 54 0 (4 * r) (I 54 0 (4 * r + 1))) 54 0 (4 * r + 2))) 54 0 (4 * r + 2) ((fr_ui (fr_ui I 54 0 (4 * r) (I 54 0 (4 * r + 1))) 54 0 (4 * r + 1) ((fr_ui I 54 0 (4 * r) (I 54 0 (4 * r + 1))) 54 0 (4 * r + 2))) 54 0 (4 * r + 3))) 54 0 (4 * r + 3) (f_O_flow ((fr_ui (fr_ui (fr_ui I 54 0 (4 * r) (I 54 0 (4 * r + 1))) 54 0 (4 * r + 1) ((fr_ui I 54 0 (4 * r) (I 54 0 (4 * r + 1))) 54 0 (4 * r + 2))) 54 0 (4 * r + 2) ((fr_ui (fr_ui I 54 0 (4 * r) (I 54 0 (4 * r + 1))) 54 0 (4 * r + 1) ((fr_ui I 54 0 (4 * r) (I 54 0 (4 * r + 1))) 54 0 (4 * r + 2))) 54 0 (4 * r + 3)))) n r)) 48 0 r)).toInt64) ≤ 0 then (0 : Int32) else 1)) 57 0 r (((fr_ui (fr_ui (fr_ui (fr_ui (fr_ui I 54 0 (4 * r) (I 54 0 (4 * r + 1))) 54 0 (4 * r + 1) ((fr_ui I 54 0 (4 * r) (I 54 0 (4 * r + 1))) 54 0 (4 * r + 2))) 54 0 (4 * r + 2) ((fr_ui (fr_ui I 54 0 (4 * r) (I 54 0 (4 * r + 1))) 54 0 (4 * r + 1) ((fr_ui I 54 0 (4 * r) (I 54 0 (4 * r + 1))) 54 0 (4 * r + 2))) 54 0 (4 * r + 3))) 54 0 (4 * r + 3) (f_O_flow ((fr_ui (fr_ui (fr_ui I 54 0 (4 * r) (I 54 0 (4 * r + 1))) 54 0 (4 * r + 1) ((fr_ui I 54 0 (4 * r) (I 54 0 (4 * r + 1))) 54 0 (4 * r + 2))) 54 0 (4 * r + 2) ((fr_ui (fr_ui I 54 0 (4 * r) (I 54 0 (4 * r + 1))) 54 0 (4 * r + 1) ((fr_ui I 54 0 (4 * r) (I 54 0 (4 * r + 1))) 54 0 (4 * r + 2))) 54 0 (4 * r + 3)))) n r)) 56 0 r (if (lg_cmp ((f_O_root ((fr_ui (fr_ui (fr_ui (fr_ui I 54 0 (4 * r) (I 54 0 (4 * r + 1))) 54 0 (4 * r + 1) ((fr_ui I 54 0 (4 * r) (I 54 0 (4 * r + 1))) 54 0 (4 * r + 2))) 54 0 (4 * r + 2) ((fr_ui (fr_ui I 54 0 (4 * r) (I 54 0 (4 * r + 1))) 54 0 (4 * r + 1) ((fr_ui I 54 0 (4 * r) (I 54 0 (4 * r + 1))) 54 0 (4 * r + 2))) 54 0 (4 * r + 3))) 54 0 (4 * r + 3) (f_O_flow ((fr_ui (fr_ui (fr_ui I 54 0 (4 * r) (I 54 0 (4 * r + 1))) 54 0 (4 * r + 1) ((fr_ui I 54 0 (4 * r) (I 54 0 (4 * r + 1))) 54 0 (4 * r + 2))) 54 0 (4 * r + 2) ((fr_ui (fr_ui I 54 0 (4 * r) (I 54 0 (4 * r + 1))) 54 0 (4 * r + 1) ((fr_ui I 54 0 (4 * r) (I 54 0 (4 * r + 1))) 54 0 (4 * r + 2))) 54 0 (4 * r + 3)))) n r))) r)).toInt64 (((fr_ui (fr_ui (fr_ui (fr_ui I 54 0 (4 * r) (I 54 0 (4 * r + 1))) 54 0 (4 * r + 1) ((fr_ui I 54 0 (4 * r) (I 54 0 (4 * r + 1))) 54 0 (4 * r + 2))) 54 0 (4 * r + 2) ((fr_ui (fr_ui I 54 0 (4 * r) (I 54 0 (4 * r + 1))) 54 0 (4 * r + 1) ((fr_ui I 54 0 (4 * r) (I 54 0 (4 * r + 1))) 54 0 (4 * r + 2))) 54 0 (4 * r + 3))) 54 0 (4 * r + 3) (f_O_flow ((fr_ui (fr_ui (fr_ui I 54 0 (4 * r) (I 54 0 (4 * r + 1))) 54 0 (4 * r + 1) ((fr_ui I 54 0 (4 * r) (I 54 0 (4 * r + 1))) 54 0 (4 * r + 2))) 54 0 (4 * r + 2) ((fr_ui (fr_ui I 54 0 (4 * r) (I 54 0 (4 * r + 1))) 54 0 (4 * r + 1) ((fr_ui I 54 0 (4 * r) (I 54 0 (4 * r + 1))) 54 0 (4 * r + 2))) 54 0 (4 * r + 3)))) n r)) 48 0 r)).toInt64) ≤ 0 then (0 : Int32) else 1)) 57 0 r) + 1))) r) 59 0 r 1) 20 0 1) + 1)), (fr_uj J 55 0 r ((J 55 0 r) + ((((f_O_root ((fr_ui (fr_ui (fr_ui (fr_ui I 54 0 (4 * r) (I 54 0 (4 * r + 1))) 54 0 (4 * r + 1) ((fr_ui I 54 0 (4 * r) (I 54 0 (4 * r + 1))) 54 0 (4 * r + 2))) 54 0 (4 * r + 2) ((fr_ui (fr_ui I 54 0 (4 * r) (I 54 0 (4 * r + 1))) 54 0 (4 * r + 1) ((fr_ui I 54 0 (4 * r) (I 54 0 (4 * r + 1))) 54 0 (4 * r + 2))) 54 0 (4 * r + 3))) 54 0 (4 * r + 3) (f_O_flow ((fr_ui (fr_ui (fr_ui I 54 0 (4 * r) (I 54 0 (4 * r + 1))) 54 0 (4 * r + 1) ((fr_ui I 54 0 (4 * r) (I 54 0 (4 * r + 1))) 54 0 (4 * r + 2))) 54 0 (4 * r + 2) ((fr_ui (fr_ui I 54 0 (4 * r) (I 54 0 (4 * r + 1))) 54 0 (4 * r + 1) ((fr_ui I 54 0 (4 * r) (I 54 0 (4 * r + 1))) 54 0 (4 * r + 2))) 54 0 (4 * r + 3)))) n r))) r)).toInt64 * ((f_O_root ((fr_ui (fr_ui (fr_ui (fr_ui I 54 0 (4 * r) (I 54 0 (4 * r + 1))) 54 0 (4 * r + 1) ((fr_ui I 54 0 (4 * r) (I 54 0 (4 * r + 1))) 54 0 (4 * r + 2))) 54 0 (4 * r + 2) ((fr_ui (fr_ui I 54 0 (4 * r) (I 54 0 (4 * r + 1))) 54 0 (4 * r + 1) ((fr_ui I 54 0 (4 * r) (I 54 0 (4 * r + 1))) 54 0 (4 * r + 2))) 54 0 (4 * r + 3))) 54 0 (4 * r + 3) (f_O_flow ((fr_ui (fr_ui (fr_ui I 54 0 (4 * r) (I 54 0 (4 * r + 1))) 54 0 (4 * r + 1) ((fr_ui I 54 0 (4 * r) (I 54 0 (4 * r + 1))) 54 0 (4 * r + 2))) 54 0 (4 * r + 2) ((fr_ui (fr_ui I 54 0 (4 * r) (I 54 0 (4 * r + 1))) 54 0 (4 * r + 1) ((fr_ui I 54 0 (4 * r) (I 54 0 (4 * r + 1))) 54 0 (4 * r + 2))) 54 0 (4 * r + 3)))) n r))) r)).toInt64) - ((((fr_ui (fr_ui (fr_ui (fr_ui I 54 0 (4 * r) (I 54 0 (4 * r + 1))) 54 0 (4 * r + 1) ((fr_ui I 54 0 (4 * r) (I 54 0 (4 * r + 1))) 54 0 (4 * r + 2))) 54 0 (4 * r + 2) ((fr_ui (fr_ui I 54 0 (4 * r) (I 54 0 (4 * r + 1))) 54 0 (4 * r + 1) ((fr_ui I 54 0 (4 * r) (I 54 0 (4 * r + 1))) 54 0 (4 * r + 2))) 54 0 (4 * r + 3))) 54 0 (4 * r + 3) (f_O_flow ((fr_ui (fr_ui (fr_ui I 54 0 (4 * r) (I 54 0 (4 * r + 1))) 54 0 (4 * r + 1) ((fr_ui I 54 0 (4 * r) (I 54 0 (4 * r + 1))) 54 0 (4 * r + 2))) 54 0 (4 * r + 2) ((fr_ui (fr_ui I 54 0 (4 * r) (I 54 0 (4 * r + 1))) 54 0 (4 * r + 1) ((fr_ui I 54 0 (4 * r) (I 54 0 (4 * r + 1))) 54 0 (4 * r + 2))) 54 0 (4 * r + 3)))) n r)) 48 0 r)).toInt64 * (((fr_ui (fr_ui (fr_ui (fr_ui I 54 0 (4 * r) (I 54 0 (4 * r + 1))) 54 0 (4 * r + 1) ((fr_ui I 54 0 (4 * r) (I 54 0 (4 * r + 1))) 54 0 (4 * r + 2))) 54 0 (4 * r + 2) ((fr_ui (fr_ui I 54 0 (4 * r) (I 54 0 (4 * r + 1))) 54 0 (4 * r + 1) ((fr_ui I 54 0 (4 * r) (I 54 0 (4 * r + 1))) 54 0 (4 * r + 2))) 54 0 (4 * r + 3))) 54 0 (4 * r + 3) (f_O_flow ((fr_ui (fr_ui (fr_ui I 54 0 (4 * r) (I 54 0 (4 * r + 1))) 54 0 (4 * r + 1) ((fr_ui I 54 0 (4 * r) (I 54 0 (4 * r + 1))) 54 0 (4 * r + 2))) 54 0 (4 * r + 2) ((fr_ui (fr_ui I 54 0 (4 * r) (I 54 0 (4 * r + 1))) 54 0 (4 * r + 1) ((fr_ui I 54 0 (4 * r) (I 54 0 (4 * r + 1))) 54 0 (4 * r + 2))) 54 0 (4 * r + 3)))) n r)) 48 0 r)).toInt64)))))
set_option maxRecDepth 10000 in
theorem ct_O_measure (X : fr_X) (n : Nat) (r : Nat) (hr : r < n) (I : fr_I) (J : fr_J)  (hw : fr_mw n I) (hu : fr_nn (I 68 0 r) 15) : fr_Ct X y_O_measure c_O_measure 7 none (fr_rm 1) [.ref (fr_ad X 20 0), .int (nI r)] (fr_Z0 X n) (fr_Z0 X n) I J (fr_pv (fun I' J' => (f_O_measure I J n r).1 = I' ∧ (f_O_measure I J n r).2 = J')) := by
  refine fr_ct (by decide) rfl rfl (Nat.le_of_ble_eq_true rfl) rfl (fun E => ?_)
  refine fr_iconst d_O_measure_0 fr_i4 ?_
  refine fr_iload_n d_O_measure_1 rfl ?_
  refine fr_imul d_O_measure_2 ?_
  refine fr_teq (x' := nI (4 * r)) (pk_mul (4) (r)) ?_
  refine fr_istore_n (L' := [(2, .int _), (0, .ref _), (1, .int _)]) d_O_measure_3 (by decide) rfl ?_
  refine fr_iload_n d_O_measure_4 rfl ?_
  refine fr_iconst d_O_measure_5 fr_i4 ?_
  refine fr_iload_n d_O_measure_6 rfl ?_
  refine fr_imul d_O_measure_7 ?_
  refine fr_teq (x' := nI (4 * r)) (pk_mul (4) (r)) ?_
  refine fr_iconst d_O_measure_8 fr_i3 ?_
  refine fr_iadd d_O_measure_9 ?_
  refine fr_teq (x' := nI (4 * r + 3)) (nI_add (4 * r) (3)) ?_
  refine fr_icmp_ge 33 d_O_measure_10 rfl (fun h => absurd h (nI_ge (by omega) (by have := fm_lt8 hw hr; omega))) (fun _ => ?_)
  refine fr_aload_n d_O_measure_13 rfl ?_
  refine fr_getr (k' := 54) (r' := 0) d_O_measure_14 fl_O_47 rfl rfl rfl (Or.inr ⟨rfl, rfl⟩) ?_
  refine fr_iload_n d_O_measure_17 rfl ?_
  refine fr_aload_n d_O_measure_18 rfl ?_
  refine fr_getr (k' := 54) (r' := 0) d_O_measure_19 fl_O_47 rfl rfl rfl (Or.inr ⟨rfl, rfl⟩) ?_
  refine fr_iload_n d_O_measure_22 rfl ?_
  refine fr_iconst d_O_measure_23 fr_i1 ?_
  refine fr_iadd d_O_measure_24 ?_
  refine fr_teq (x' := nI (4 * r + 1)) (nI_add (4 * r) (1)) ?_
  refine fr_iald (4 * r + 1) d_O_measure_25 rfl rfl (Or.inr ⟨rfl, rfl⟩) rfl (by have := fm_lt8 hw hr; omega) (by decide) ?_
  refine fr_iast (4 * r) d_O_measure_26 rfl rfl (Or.inr ⟨rfl, rfl⟩) rfl (by have := fm_lt8 hw hr; omega) (by decide) ?_
  refine fr_iinc (v := (nI (4 * r + 1))) (L' := [(2, .int _), (0, .ref _), (1, .int _)]) d_O_measure_27 rfl (fr_inc _) (by decide) rfl ?_
  refine fr_goto 4 d_O_measure_30 rfl ?_
  refine fr_iload_n d_O_measure_4 rfl ?_
  refine fr_iconst d_O_measure_5 fr_i4 ?_
  refine fr_iload_n d_O_measure_6 rfl ?_
  refine fr_imul d_O_measure_7 ?_
  refine fr_teq (x' := nI (4 * r)) (pk_mul (4) (r)) ?_
  refine fr_iconst d_O_measure_8 fr_i3 ?_
  refine fr_iadd d_O_measure_9 ?_
  refine fr_teq (x' := nI (4 * r + 3)) (nI_add (4 * r) (3)) ?_
  refine fr_icmp_ge 33 d_O_measure_10 rfl (fun h => absurd h (nI_ge (by omega) (by have := fm_lt8 hw hr; omega))) (fun _ => ?_)
  refine fr_aload_n d_O_measure_13 rfl ?_
  refine fr_getr (k' := 54) (r' := 0) d_O_measure_14 fl_O_47 rfl rfl rfl (Or.inr ⟨rfl, rfl⟩) ?_
  refine fr_iload_n d_O_measure_17 rfl ?_
  refine fr_aload_n d_O_measure_18 rfl ?_
  refine fr_getr (k' := 54) (r' := 0) d_O_measure_19 fl_O_47 rfl rfl rfl (Or.inr ⟨rfl, rfl⟩) ?_
  refine fr_iload_n d_O_measure_22 rfl ?_
  refine fr_iconst d_O_measure_23 fr_i1 ?_
  refine fr_iadd d_O_measure_24 ?_
  refine fr_teq (x' := nI (4 * r + 2)) (nI_add (4 * r + 1) (1)) ?_
  refine fr_iald (4 * r + 2) d_O_measure_25 rfl rfl (Or.inr ⟨rfl, rfl⟩) rfl (by have := fm_lt8 hw hr; omega) (by decide) ?_
  refine fr_iast (4 * r + 1) d_O_measure_26 rfl rfl (Or.inr ⟨rfl, rfl⟩) rfl (by have := fm_lt8 hw hr; omega) (by decide) ?_
  refine fr_iinc (v := (nI (4 * r + 2))) (L' := [(2, .int _), (0, .ref _), (1, .int _)]) d_O_measure_27 rfl (fr_inc _) (by decide) rfl ?_
  refine fr_goto 4 d_O_measure_30 rfl ?_
  refine fr_iload_n d_O_measure_4 rfl ?_
  refine fr_iconst d_O_measure_5 fr_i4 ?_
  refine fr_iload_n d_O_measure_6 rfl ?_
  refine fr_imul d_O_measure_7 ?_
  refine fr_teq (x' := nI (4 * r)) (pk_mul (4) (r)) ?_
  refine fr_iconst d_O_measure_8 fr_i3 ?_
  refine fr_iadd d_O_measure_9 ?_
  refine fr_teq (x' := nI (4 * r + 3)) (nI_add (4 * r) (3)) ?_
  refine fr_icmp_ge 33 d_O_measure_10 rfl (fun h => absurd h (nI_ge (by omega) (by have := fm_lt8 hw hr; omega))) (fun _ => ?_)
  refine fr_aload_n d_O_measure_13 rfl ?_
  refine fr_getr (k' := 54) (r' := 0) d_O_measure_14 fl_O_47 rfl rfl rfl (Or.inr ⟨rfl, rfl⟩) ?_
  refine fr_iload_n d_O_measure_17 rfl ?_
  refine fr_aload_n d_O_measure_18 rfl ?_
  refine fr_getr (k' := 54) (r' := 0) d_O_measure_19 fl_O_47 rfl rfl rfl (Or.inr ⟨rfl, rfl⟩) ?_
  refine fr_iload_n d_O_measure_22 rfl ?_
  refine fr_iconst d_O_measure_23 fr_i1 ?_
  refine fr_iadd d_O_measure_24 ?_
  refine fr_teq (x' := nI (4 * r + 3)) (nI_add (4 * r + 2) (1)) ?_
  refine fr_iald (4 * r + 3) d_O_measure_25 rfl rfl (Or.inr ⟨rfl, rfl⟩) rfl (by have := fm_lt8 hw hr; omega) (by decide) ?_
  refine fr_iast (4 * r + 2) d_O_measure_26 rfl rfl (Or.inr ⟨rfl, rfl⟩) rfl (by have := fm_lt8 hw hr; omega) (by decide) ?_
  refine fr_iinc (v := (nI (4 * r + 3))) (L' := [(2, .int _), (0, .ref _), (1, .int _)]) d_O_measure_27 rfl (fr_inc _) (by decide) rfl ?_
  refine fr_goto 4 d_O_measure_30 rfl ?_
  refine fr_iload_n d_O_measure_4 rfl ?_
  refine fr_iconst d_O_measure_5 fr_i4 ?_
  refine fr_iload_n d_O_measure_6 rfl ?_
  refine fr_imul d_O_measure_7 ?_
  refine fr_teq (x' := nI (4 * r)) (pk_mul (4) (r)) ?_
  refine fr_iconst d_O_measure_8 fr_i3 ?_
  refine fr_iadd d_O_measure_9 ?_
  refine fr_teq (x' := nI (4 * r + 3)) (nI_add (4 * r) (3)) ?_
  refine fr_icmp_ge 33 d_O_measure_10 rfl (fun _ => ?_) (fun h => absurd (nI_le (by omega) (by have := fm_lt8 hw hr; omega)) h)
  refine fr_aload_n d_O_measure_33 rfl ?_
  refine fr_getr (k' := 54) (r' := 0) d_O_measure_34 fl_O_47 rfl rfl rfl (Or.inr ⟨rfl, rfl⟩) ?_
  refine fr_iconst d_O_measure_37 fr_i4 ?_
  refine fr_iload_n d_O_measure_38 rfl ?_
  refine fr_imul d_O_measure_39 ?_
  refine fr_teq (x' := nI (4 * r)) (pk_mul (4) (r)) ?_
  refine fr_iconst d_O_measure_40 fr_i3 ?_
  refine fr_iadd d_O_measure_41 ?_
  refine fr_teq (x' := nI (4 * r + 3)) (nI_add (4 * r) (3)) ?_
  refine fr_aload_n d_O_measure_42 rfl ?_
  refine fr_iload_n d_O_measure_43 rfl ?_
  refine fr_callVi fr_q6 d_O_measure_44 (ct_O_flow X n r hr _ _ (fm_ui (k := 54) rfl (fm_ui (k := 54) rfl (fm_ui (k := 54) rfl hw)))) mv_O_135 rfl rfl rfl (Or.inr ⟨rfl, rfl⟩) rfl rfl ⟨Nat.le_of_ble_eq_true rfl, Nat.le_of_ble_eq_true rfl⟩ ⟨rfl, rfl⟩ ⟨Nat.zero_le _, Nat.zero_le _⟩ (Nat.le_of_ble_eq_true rfl) (fun x I' J' hp1 => ?_)
  obtain ⟨rfl, rfl, rfl⟩ := hp1
  refine fr_iast (4 * r + 3) d_O_measure_47 rfl rfl (Or.inr ⟨rfl, rfl⟩) rfl (by have := fm_lt8 hw hr; omega) (by decide) ?_
  refine fr_aload_n d_O_measure_48 rfl ?_
  refine fr_iload_n d_O_measure_49 rfl ?_
  refine fr_callVi fr_q6 d_O_measure_50 (ct_O_root X n r hr _ _ (fm_ui (k := 54) rfl (fm_ui (k := 54) rfl (fm_ui (k := 54) rfl (fm_ui (k := 54) rfl hw))))) mv_O_139 rfl rfl rfl (Or.inr ⟨rfl, rfl⟩) rfl rfl ⟨Nat.le_of_ble_eq_true rfl, Nat.le_of_ble_eq_true rfl⟩ ⟨rfl, rfl⟩ ⟨Nat.zero_le _, Nat.zero_le _⟩ (Nat.le_of_ble_eq_true rfl) (fun x I' J' hp2 => ?_)
  obtain ⟨rfl, rfl, rfl⟩ := hp2
  refine fr_i2l d_O_measure_53 rfl ?_
  refine fr_lstore_n (L' := [(2, .long _), (0, .ref _), (1, .int _)]) d_O_measure_54 (by decide) rfl ?_
  refine fr_aload_n d_O_measure_55 rfl ?_
  refine fr_getr (k' := 48) (r' := 0) d_O_measure_56 fl_O_29 rfl rfl rfl (Or.inr ⟨rfl, rfl⟩) ?_
  refine fr_iload_n d_O_measure_59 rfl ?_
  refine fr_iald (r) d_O_measure_60 rfl rfl (Or.inr ⟨rfl, rfl⟩) rfl (fm_lt8 hw hr) (by decide) ?_
  refine fr_i2l d_O_measure_61 rfl ?_
  refine fr_lstore (L' := [(4, .long _), (2, .long _), (0, .ref _), (1, .int _)]) d_O_measure_62 (by decide) rfl ?_
  refine fr_lload_n d_O_measure_64 rfl ?_
  refine fr_lload d_O_measure_65 rfl ?_
  refine fr_lcmp d_O_measure_67 ?_
  refine fr_tif_le (t := 75) (j := 76) d_O_measure_68 rfl (fun k => fr_iconst d_O_measure_71 fr_i1 (fr_goto 76 d_O_measure_72 rfl k)) (fun k => fr_iconst d_O_measure_75 fr_i0 k) ?_
  refine fr_istore (L' := [(6, .int _), (4, .long _), (2, .long _), (0, .ref _), (1, .int _)]) d_O_measure_76 (by decide) rfl ?_
  refine fr_aload_n d_O_measure_78 rfl ?_
  refine fr_getr (k' := 55) (r' := 0) d_O_measure_79 fl_O_50 rfl rfl rfl (Or.inr ⟨rfl, rfl⟩) ?_
  refine fr_iload_n d_O_measure_82 rfl ?_
  refine fr_iload d_O_measure_83 rfl ?_
  refine fr_if_ne 92 d_O_measure_85 rfl (fun h3 => ?_) (fun h3 => ?_)
  · skip
    refine fr_aload_n d_O_measure_92 rfl ?_
    refine fr_getr (k' := 55) (r' := 0) d_O_measure_93 fl_O_50 rfl rfl rfl (Or.inr ⟨rfl, rfl⟩) ?_
    refine fr_iload_n d_O_measure_96 rfl ?_
    refine fr_lald (r) d_O_measure_97 rfl rfl (Or.inr ⟨rfl, rfl⟩) rfl (fm_lt8 hw hr) (by decide) ?_
    refine fr_aload_n d_O_measure_98 rfl ?_
    refine fr_getr (k' := 47) (r' := 0) d_O_measure_99 fl_O_26 rfl rfl rfl (Or.inr ⟨rfl, rfl⟩) ?_
    refine fr_iload_n d_O_measure_102 rfl ?_
    refine fr_iald (r) d_O_measure_103 rfl rfl (Or.inr ⟨rfl, rfl⟩) rfl (fm_lt8 hw hr) (by decide) ?_
    refine fr_if_ne 111 d_O_measure_104 rfl (fun h4 => ?_) (fun h4 => ?_)
    · skip
      refine fr_aload_n d_O_measure_111 rfl ?_
      refine fr_getr (k' := 47) (r' := 0) d_O_measure_112 fl_O_26 rfl rfl rfl (Or.inr ⟨rfl, rfl⟩) ?_
      refine fr_iload_n d_O_measure_115 rfl ?_
      refine fr_iald (r) d_O_measure_116 rfl rfl (Or.inr ⟨rfl, rfl⟩) rfl (fm_lt8 hw hr) (by decide) ?_
      refine fr_iconst d_O_measure_117 fr_i1 ?_
      refine fr_icmp_ne 128 d_O_measure_118 rfl (fun h5 => ?_) (fun h5 => ?_)
      · skip
        refine fr_lload_n d_O_measure_128 rfl ?_
        refine fr_lload_n d_O_measure_129 rfl ?_
        refine fr_lmul d_O_measure_130 ?_
        refine fr_lload d_O_measure_131 rfl ?_
        refine fr_lload d_O_measure_133 rfl ?_
        refine fr_lmul d_O_measure_135 ?_
        refine fr_lsub d_O_measure_136 ?_
        refine fr_ladd d_O_measure_137 ?_
        refine fr_last (r) d_O_measure_138 rfl rfl (Or.inr ⟨rfl, rfl⟩) rfl (fm_lt8 hw hr) (by decide) ?_
        refine fr_iload d_O_measure_139 rfl ?_
        refine fr_aload_n d_O_measure_141 rfl ?_
        refine fr_getr (k' := 56) (r' := 0) d_O_measure_142 fl_O_54 rfl rfl rfl (Or.inr ⟨rfl, rfl⟩) ?_
        refine fr_iload_n d_O_measure_145 rfl ?_
        refine fr_zald (r) d_O_measure_146 rfl rfl (Or.inr ⟨rfl, rfl⟩) rfl (fm_lt8 hw hr) (by decide) ?_
        refine fr_icmp_eq 195 d_O_measure_147 rfl (fun h6 => ?_) (fun h6 => ?_)
        · skip
          refine fr_aload_n d_O_measure_195 rfl ?_
          refine fr_getr (k' := 58) (r' := 0) d_O_measure_196 fl_O_60 rfl rfl rfl (Or.inr ⟨rfl, rfl⟩) ?_
          refine fr_iload_n d_O_measure_199 rfl ?_
          refine fr_iald (r) d_O_measure_200 rfl rfl (Or.inr ⟨rfl, rfl⟩) rfl (fm_lt8 hw hr) (by decide) ?_
          refine fr_aload_n d_O_measure_201 rfl ?_
          refine fr_geti d_O_measure_202 fl_O_115 rfl rfl (Or.inr ⟨rfl, rfl⟩) ?_
          refine fr_icmp_ne 259 d_O_measure_205 rfl (fun h7 => ?_) (fun h7 => ?_)
          · skip
            exact fr_vret d_O_measure_259 rfl (Nat.zero_le _) (Nat.zero_le _) (fr_tIJ (by unfold f_O_measure; rw [if_neg h3, if_neg h4, if_neg h5, if_pos h6, if_neg h7]))
          · skip
            refine fr_aload_n d_O_measure_208 rfl ?_
            refine fr_iload_n d_O_measure_209 rfl ?_
            refine fr_callVv fr_q6 d_O_measure_210 (ct_O_send X n r hr _ _ (fm_ui (k := 54) rfl (fm_ui (k := 54) rfl (fm_ui (k := 54) rfl (fm_ui (k := 54) rfl hw))))) mv_O_142 rfl rfl rfl (Or.inr ⟨rfl, rfl⟩) rfl rfl ⟨Nat.le_of_ble_eq_true rfl, Nat.le_of_ble_eq_true rfl⟩ ⟨rfl, rfl⟩ ⟨Nat.zero_le _, Nat.zero_le _⟩ (Nat.le_of_ble_eq_true rfl) (fun I' J' hp8 => ?_)
            obtain ⟨rfl, rfl⟩ := hp8
            refine fr_aload_n d_O_measure_213 rfl ?_
            refine fr_getr (k' := 59) (r' := 0) d_O_measure_214 fl_O_63 rfl rfl rfl (Or.inr ⟨rfl, rfl⟩) ?_
            refine fr_iload_n d_O_measure_217 rfl ?_
            refine fr_aload_n d_O_measure_218 rfl ?_
            refine fr_getr (k' := 59) (r' := 0) d_O_measure_219 fl_O_63 rfl rfl rfl (Or.inr ⟨rfl, rfl⟩) ?_
            refine fr_iload_n d_O_measure_222 rfl ?_
            refine fr_iald (r) d_O_measure_223 rfl rfl (Or.inr ⟨rfl, rfl⟩) rfl (fm_lt8 hw hr) (by decide) ?_
            refine fr_iconst d_O_measure_224 fr_i4 ?_
            refine fr_icmp_lt 233 d_O_measure_225 rfl (fun h9 => ?_) (fun h9 => ?_)
            · skip
              refine fr_iconst d_O_measure_233 fr_i2 ?_
              refine fr_aload_n d_O_measure_234 rfl ?_
              refine fr_getr (k' := 59) (r' := 0) d_O_measure_235 fl_O_63 rfl rfl rfl (Or.inr ⟨rfl, rfl⟩) ?_
              refine fr_iload_n d_O_measure_238 rfl ?_
              refine fr_iald (r) d_O_measure_239 rfl rfl (Or.inr ⟨rfl, rfl⟩) rfl (fm_lt8 hw hr) (by decide) ?_
              refine fr_imul d_O_measure_240 ?_
              refine fr_iast (r) d_O_measure_241 rfl rfl (Or.inr ⟨rfl, rfl⟩) rfl (fm_lt8 hw hr) (by decide) ?_
              refine fr_aload_n d_O_measure_242 rfl ?_
              refine fr_getr (k' := 58) (r' := 0) d_O_measure_243 fl_O_60 rfl rfl rfl (Or.inr ⟨rfl, rfl⟩) ?_
              refine fr_iload_n d_O_measure_246 rfl ?_
              refine fr_aload_n d_O_measure_247 rfl ?_
              refine fr_geti d_O_measure_248 fl_O_115 rfl rfl (Or.inr ⟨rfl, rfl⟩) ?_
              refine fr_aload_n d_O_measure_251 rfl ?_
              refine fr_getr (k' := 59) (r' := 0) d_O_measure_252 fl_O_63 rfl rfl rfl (Or.inr ⟨rfl, rfl⟩) ?_
              refine fr_iload_n d_O_measure_255 rfl ?_
              refine fr_iald (r) d_O_measure_256 rfl rfl (Or.inr ⟨rfl, rfl⟩) rfl (fm_lt8 hw hr) (by decide) ?_
              refine fr_iadd d_O_measure_257 ?_
              refine fr_iast (r) d_O_measure_258 rfl rfl (Or.inr ⟨rfl, rfl⟩) rfl (fm_lt8 hw hr) (by decide) ?_
              exact fr_vret d_O_measure_259 rfl (Nat.zero_le _) (Nat.zero_le _) (fr_tIJ (by unfold f_O_measure; rw [if_neg h3, if_neg h4, if_neg h5, if_pos h6, if_pos h7, if_pos h9]))
            · skip
              refine fr_bipush d_O_measure_228 fr_b8 ?_
              refine fr_goto 241 d_O_measure_230 rfl ?_
              refine fr_iast (r) d_O_measure_241 rfl rfl (Or.inr ⟨rfl, rfl⟩) rfl (fm_lt8 hw hr) (by decide) ?_
              refine fr_aload_n d_O_measure_242 rfl ?_
              refine fr_getr (k' := 58) (r' := 0) d_O_measure_243 fl_O_60 rfl rfl rfl (Or.inr ⟨rfl, rfl⟩) ?_
              refine fr_iload_n d_O_measure_246 rfl ?_
              refine fr_aload_n d_O_measure_247 rfl ?_
              refine fr_geti d_O_measure_248 fl_O_115 rfl rfl (Or.inr ⟨rfl, rfl⟩) ?_
              refine fr_aload_n d_O_measure_251 rfl ?_
              refine fr_getr (k' := 59) (r' := 0) d_O_measure_252 fl_O_63 rfl rfl rfl (Or.inr ⟨rfl, rfl⟩) ?_
              refine fr_iload_n d_O_measure_255 rfl ?_
              refine fr_iald (r) d_O_measure_256 rfl rfl (Or.inr ⟨rfl, rfl⟩) rfl (fm_lt8 hw hr) (by decide) ?_
              refine fr_iadd d_O_measure_257 ?_
              refine fr_iast (r) d_O_measure_258 rfl rfl (Or.inr ⟨rfl, rfl⟩) rfl (fm_lt8 hw hr) (by decide) ?_
              exact fr_vret d_O_measure_259 rfl (Nat.zero_le _) (Nat.zero_le _) (fr_tIJ (by unfold f_O_measure; rw [if_neg h3, if_neg h4, if_neg h5, if_pos h6, if_pos h7, if_neg h9]))
        · skip
          refine fr_aload_n d_O_measure_150 rfl ?_
          refine fr_getr (k' := 56) (r' := 0) d_O_measure_151 fl_O_54 rfl rfl rfl (Or.inr ⟨rfl, rfl⟩) ?_
          refine fr_iload_n d_O_measure_154 rfl ?_
          refine fr_iload d_O_measure_155 rfl ?_
          refine fr_zast (r) d_O_measure_157 rfl rfl fr_if01 (Or.inr ⟨rfl, rfl⟩) rfl (fm_lt8 hw hr) (by decide) ?_
          refine fr_aload_n d_O_measure_158 rfl ?_
          refine fr_getr (k' := 57) (r' := 0) d_O_measure_159 fl_O_57 rfl rfl rfl (Or.inr ⟨rfl, rfl⟩) ?_
          refine fr_iload_n d_O_measure_162 rfl ?_
          refine fr_dup2 d_O_measure_163 rfl rfl ?_
          refine fr_iald (r) d_O_measure_164 rfl rfl (Or.inr ⟨rfl, rfl⟩) rfl (fm_lt8 hw hr) (by decide) ?_
          refine fr_iconst d_O_measure_165 fr_i1 ?_
          refine fr_iadd d_O_measure_166 ?_
          refine fr_iast (r) d_O_measure_167 rfl rfl (Or.inr ⟨rfl, rfl⟩) rfl (fm_lt8 hw hr) (by decide) ?_
          refine fr_aload_n d_O_measure_168 rfl ?_
          refine fr_iload_n d_O_measure_169 rfl ?_
          refine fr_callVv fr_q6 d_O_measure_170 (ct_O_send X n r hr _ _ (fm_ui (k := 57) rfl (fm_ui (k := 56) rfl (fm_ui (k := 54) rfl (fm_ui (k := 54) rfl (fm_ui (k := 54) rfl (fm_ui (k := 54) rfl hw))))))) mv_O_142 rfl rfl rfl (Or.inr ⟨rfl, rfl⟩) rfl rfl ⟨Nat.le_of_ble_eq_true rfl, Nat.le_of_ble_eq_true rfl⟩ ⟨rfl, rfl⟩ ⟨Nat.zero_le _, Nat.zero_le _⟩ (Nat.le_of_ble_eq_true rfl) (fun I' J' hp10 => ?_)
          obtain ⟨rfl, rfl⟩ := hp10
          refine fr_aload_n d_O_measure_173 rfl ?_
          refine fr_getr (k' := 59) (r' := 0) d_O_measure_174 fl_O_63 rfl rfl rfl (Or.inr ⟨rfl, rfl⟩) ?_
          refine fr_iload_n d_O_measure_177 rfl ?_
          refine fr_iconst d_O_measure_178 fr_i1 ?_
          refine fr_iast (r) d_O_measure_179 rfl rfl (Or.inr ⟨rfl, rfl⟩) rfl (fm_lt8 hw hr) (by decide) ?_
          refine fr_aload_n d_O_measure_180 rfl ?_
          refine fr_getr (k' := 58) (r' := 0) d_O_measure_181 fl_O_60 rfl rfl rfl (Or.inr ⟨rfl, rfl⟩) ?_
          refine fr_iload_n d_O_measure_184 rfl ?_
          refine fr_aload_n d_O_measure_185 rfl ?_
          refine fr_geti d_O_measure_186 fl_O_115 rfl rfl (Or.inr ⟨rfl, rfl⟩) ?_
          refine fr_iconst d_O_measure_189 fr_i1 ?_
          refine fr_iadd d_O_measure_190 ?_
          refine fr_iast (r) d_O_measure_191 rfl rfl (Or.inr ⟨rfl, rfl⟩) rfl (fm_lt8 hw hr) (by decide) ?_
          refine fr_goto 259 d_O_measure_192 rfl ?_
          exact fr_vret d_O_measure_259 rfl (Nat.zero_le _) (Nat.zero_le _) (fr_tIJ (by unfold f_O_measure; rw [if_neg h3, if_neg h4, if_neg h5, if_neg h6]))
      · skip
        refine fr_lload_n d_O_measure_121 rfl ?_
        refine fr_lload d_O_measure_122 rfl ?_
        refine fr_lsub d_O_measure_124 ?_
        refine fr_goto 137 d_O_measure_125 rfl ?_
        refine fr_ladd d_O_measure_137 ?_
        refine fr_last (r) d_O_measure_138 rfl rfl (Or.inr ⟨rfl, rfl⟩) rfl (fm_lt8 hw hr) (by decide) ?_
        refine fr_iload d_O_measure_139 rfl ?_
        refine fr_aload_n d_O_measure_141 rfl ?_
        refine fr_getr (k' := 56) (r' := 0) d_O_measure_142 fl_O_54 rfl rfl rfl (Or.inr ⟨rfl, rfl⟩) ?_
        refine fr_iload_n d_O_measure_145 rfl ?_
        refine fr_zald (r) d_O_measure_146 rfl rfl (Or.inr ⟨rfl, rfl⟩) rfl (fm_lt8 hw hr) (by decide) ?_
        refine fr_icmp_eq 195 d_O_measure_147 rfl (fun h11 => ?_) (fun h11 => ?_)
        · skip
          refine fr_aload_n d_O_measure_195 rfl ?_
          refine fr_getr (k' := 58) (r' := 0) d_O_measure_196 fl_O_60 rfl rfl rfl (Or.inr ⟨rfl, rfl⟩) ?_
          refine fr_iload_n d_O_measure_199 rfl ?_
          refine fr_iald (r) d_O_measure_200 rfl rfl (Or.inr ⟨rfl, rfl⟩) rfl (fm_lt8 hw hr) (by decide) ?_
          refine fr_aload_n d_O_measure_201 rfl ?_
          refine fr_geti d_O_measure_202 fl_O_115 rfl rfl (Or.inr ⟨rfl, rfl⟩) ?_
          refine fr_icmp_ne 259 d_O_measure_205 rfl (fun h12 => ?_) (fun h12 => ?_)
          · skip
            exact fr_vret d_O_measure_259 rfl (Nat.zero_le _) (Nat.zero_le _) (fr_tIJ (by unfold f_O_measure; rw [if_neg h3, if_neg h4, if_pos h5, if_pos h11, if_neg h12]))
          · skip
            refine fr_aload_n d_O_measure_208 rfl ?_
            refine fr_iload_n d_O_measure_209 rfl ?_
            refine fr_callVv fr_q6 d_O_measure_210 (ct_O_send X n r hr _ _ (fm_ui (k := 54) rfl (fm_ui (k := 54) rfl (fm_ui (k := 54) rfl (fm_ui (k := 54) rfl hw))))) mv_O_142 rfl rfl rfl (Or.inr ⟨rfl, rfl⟩) rfl rfl ⟨Nat.le_of_ble_eq_true rfl, Nat.le_of_ble_eq_true rfl⟩ ⟨rfl, rfl⟩ ⟨Nat.zero_le _, Nat.zero_le _⟩ (Nat.le_of_ble_eq_true rfl) (fun I' J' hp13 => ?_)
            obtain ⟨rfl, rfl⟩ := hp13
            refine fr_aload_n d_O_measure_213 rfl ?_
            refine fr_getr (k' := 59) (r' := 0) d_O_measure_214 fl_O_63 rfl rfl rfl (Or.inr ⟨rfl, rfl⟩) ?_
            refine fr_iload_n d_O_measure_217 rfl ?_
            refine fr_aload_n d_O_measure_218 rfl ?_
            refine fr_getr (k' := 59) (r' := 0) d_O_measure_219 fl_O_63 rfl rfl rfl (Or.inr ⟨rfl, rfl⟩) ?_
            refine fr_iload_n d_O_measure_222 rfl ?_
            refine fr_iald (r) d_O_measure_223 rfl rfl (Or.inr ⟨rfl, rfl⟩) rfl (fm_lt8 hw hr) (by decide) ?_
            refine fr_iconst d_O_measure_224 fr_i4 ?_
            refine fr_icmp_lt 233 d_O_measure_225 rfl (fun h14 => ?_) (fun h14 => ?_)
            · skip
              refine fr_iconst d_O_measure_233 fr_i2 ?_
              refine fr_aload_n d_O_measure_234 rfl ?_
              refine fr_getr (k' := 59) (r' := 0) d_O_measure_235 fl_O_63 rfl rfl rfl (Or.inr ⟨rfl, rfl⟩) ?_
              refine fr_iload_n d_O_measure_238 rfl ?_
              refine fr_iald (r) d_O_measure_239 rfl rfl (Or.inr ⟨rfl, rfl⟩) rfl (fm_lt8 hw hr) (by decide) ?_
              refine fr_imul d_O_measure_240 ?_
              refine fr_iast (r) d_O_measure_241 rfl rfl (Or.inr ⟨rfl, rfl⟩) rfl (fm_lt8 hw hr) (by decide) ?_
              refine fr_aload_n d_O_measure_242 rfl ?_
              refine fr_getr (k' := 58) (r' := 0) d_O_measure_243 fl_O_60 rfl rfl rfl (Or.inr ⟨rfl, rfl⟩) ?_
              refine fr_iload_n d_O_measure_246 rfl ?_
              refine fr_aload_n d_O_measure_247 rfl ?_
              refine fr_geti d_O_measure_248 fl_O_115 rfl rfl (Or.inr ⟨rfl, rfl⟩) ?_
              refine fr_aload_n d_O_measure_251 rfl ?_
              refine fr_getr (k' := 59) (r' := 0) d_O_measure_252 fl_O_63 rfl rfl rfl (Or.inr ⟨rfl, rfl⟩) ?_
              refine fr_iload_n d_O_measure_255 rfl ?_
              refine fr_iald (r) d_O_measure_256 rfl rfl (Or.inr ⟨rfl, rfl⟩) rfl (fm_lt8 hw hr) (by decide) ?_
              refine fr_iadd d_O_measure_257 ?_
              refine fr_iast (r) d_O_measure_258 rfl rfl (Or.inr ⟨rfl, rfl⟩) rfl (fm_lt8 hw hr) (by decide) ?_
              exact fr_vret d_O_measure_259 rfl (Nat.zero_le _) (Nat.zero_le _) (fr_tIJ (by unfold f_O_measure; rw [if_neg h3, if_neg h4, if_pos h5, if_pos h11, if_pos h12, if_pos h14]))
            · skip
              refine fr_bipush d_O_measure_228 fr_b8 ?_
              refine fr_goto 241 d_O_measure_230 rfl ?_
              refine fr_iast (r) d_O_measure_241 rfl rfl (Or.inr ⟨rfl, rfl⟩) rfl (fm_lt8 hw hr) (by decide) ?_
              refine fr_aload_n d_O_measure_242 rfl ?_
              refine fr_getr (k' := 58) (r' := 0) d_O_measure_243 fl_O_60 rfl rfl rfl (Or.inr ⟨rfl, rfl⟩) ?_
              refine fr_iload_n d_O_measure_246 rfl ?_
              refine fr_aload_n d_O_measure_247 rfl ?_
              refine fr_geti d_O_measure_248 fl_O_115 rfl rfl (Or.inr ⟨rfl, rfl⟩) ?_
              refine fr_aload_n d_O_measure_251 rfl ?_
              refine fr_getr (k' := 59) (r' := 0) d_O_measure_252 fl_O_63 rfl rfl rfl (Or.inr ⟨rfl, rfl⟩) ?_
              refine fr_iload_n d_O_measure_255 rfl ?_
              refine fr_iald (r) d_O_measure_256 rfl rfl (Or.inr ⟨rfl, rfl⟩) rfl (fm_lt8 hw hr) (by decide) ?_
              refine fr_iadd d_O_measure_257 ?_
              refine fr_iast (r) d_O_measure_258 rfl rfl (Or.inr ⟨rfl, rfl⟩) rfl (fm_lt8 hw hr) (by decide) ?_
              exact fr_vret d_O_measure_259 rfl (Nat.zero_le _) (Nat.zero_le _) (fr_tIJ (by unfold f_O_measure; rw [if_neg h3, if_neg h4, if_pos h5, if_pos h11, if_pos h12, if_neg h14]))
        · skip
          refine fr_aload_n d_O_measure_150 rfl ?_
          refine fr_getr (k' := 56) (r' := 0) d_O_measure_151 fl_O_54 rfl rfl rfl (Or.inr ⟨rfl, rfl⟩) ?_
          refine fr_iload_n d_O_measure_154 rfl ?_
          refine fr_iload d_O_measure_155 rfl ?_
          refine fr_zast (r) d_O_measure_157 rfl rfl fr_if01 (Or.inr ⟨rfl, rfl⟩) rfl (fm_lt8 hw hr) (by decide) ?_
          refine fr_aload_n d_O_measure_158 rfl ?_
          refine fr_getr (k' := 57) (r' := 0) d_O_measure_159 fl_O_57 rfl rfl rfl (Or.inr ⟨rfl, rfl⟩) ?_
          refine fr_iload_n d_O_measure_162 rfl ?_
          refine fr_dup2 d_O_measure_163 rfl rfl ?_
          refine fr_iald (r) d_O_measure_164 rfl rfl (Or.inr ⟨rfl, rfl⟩) rfl (fm_lt8 hw hr) (by decide) ?_
          refine fr_iconst d_O_measure_165 fr_i1 ?_
          refine fr_iadd d_O_measure_166 ?_
          refine fr_iast (r) d_O_measure_167 rfl rfl (Or.inr ⟨rfl, rfl⟩) rfl (fm_lt8 hw hr) (by decide) ?_
          refine fr_aload_n d_O_measure_168 rfl ?_
          refine fr_iload_n d_O_measure_169 rfl ?_
          refine fr_callVv fr_q6 d_O_measure_170 (ct_O_send X n r hr _ _ (fm_ui (k := 57) rfl (fm_ui (k := 56) rfl (fm_ui (k := 54) rfl (fm_ui (k := 54) rfl (fm_ui (k := 54) rfl (fm_ui (k := 54) rfl hw))))))) mv_O_142 rfl rfl rfl (Or.inr ⟨rfl, rfl⟩) rfl rfl ⟨Nat.le_of_ble_eq_true rfl, Nat.le_of_ble_eq_true rfl⟩ ⟨rfl, rfl⟩ ⟨Nat.zero_le _, Nat.zero_le _⟩ (Nat.le_of_ble_eq_true rfl) (fun I' J' hp15 => ?_)
          obtain ⟨rfl, rfl⟩ := hp15
          refine fr_aload_n d_O_measure_173 rfl ?_
          refine fr_getr (k' := 59) (r' := 0) d_O_measure_174 fl_O_63 rfl rfl rfl (Or.inr ⟨rfl, rfl⟩) ?_
          refine fr_iload_n d_O_measure_177 rfl ?_
          refine fr_iconst d_O_measure_178 fr_i1 ?_
          refine fr_iast (r) d_O_measure_179 rfl rfl (Or.inr ⟨rfl, rfl⟩) rfl (fm_lt8 hw hr) (by decide) ?_
          refine fr_aload_n d_O_measure_180 rfl ?_
          refine fr_getr (k' := 58) (r' := 0) d_O_measure_181 fl_O_60 rfl rfl rfl (Or.inr ⟨rfl, rfl⟩) ?_
          refine fr_iload_n d_O_measure_184 rfl ?_
          refine fr_aload_n d_O_measure_185 rfl ?_
          refine fr_geti d_O_measure_186 fl_O_115 rfl rfl (Or.inr ⟨rfl, rfl⟩) ?_
          refine fr_iconst d_O_measure_189 fr_i1 ?_
          refine fr_iadd d_O_measure_190 ?_
          refine fr_iast (r) d_O_measure_191 rfl rfl (Or.inr ⟨rfl, rfl⟩) rfl (fm_lt8 hw hr) (by decide) ?_
          refine fr_goto 259 d_O_measure_192 rfl ?_
          exact fr_vret d_O_measure_259 rfl (Nat.zero_le _) (Nat.zero_le _) (fr_tIJ (by unfold f_O_measure; rw [if_neg h3, if_neg h4, if_pos h5, if_neg h11]))
    · skip
      refine fr_lconst d_O_measure_107 fr_l1 ?_
      refine fr_goto 137 d_O_measure_108 rfl ?_
      refine fr_ladd d_O_measure_137 ?_
      refine fr_last (r) d_O_measure_138 rfl rfl (Or.inr ⟨rfl, rfl⟩) rfl (fm_lt8 hw hr) (by decide) ?_
      refine fr_iload d_O_measure_139 rfl ?_
      refine fr_aload_n d_O_measure_141 rfl ?_
      refine fr_getr (k' := 56) (r' := 0) d_O_measure_142 fl_O_54 rfl rfl rfl (Or.inr ⟨rfl, rfl⟩) ?_
      refine fr_iload_n d_O_measure_145 rfl ?_
      refine fr_zald (r) d_O_measure_146 rfl rfl (Or.inr ⟨rfl, rfl⟩) rfl (fm_lt8 hw hr) (by decide) ?_
      refine fr_icmp_eq 195 d_O_measure_147 rfl (fun h16 => ?_) (fun h16 => ?_)
      · skip
        refine fr_aload_n d_O_measure_195 rfl ?_
        refine fr_getr (k' := 58) (r' := 0) d_O_measure_196 fl_O_60 rfl rfl rfl (Or.inr ⟨rfl, rfl⟩) ?_
        refine fr_iload_n d_O_measure_199 rfl ?_
        refine fr_iald (r) d_O_measure_200 rfl rfl (Or.inr ⟨rfl, rfl⟩) rfl (fm_lt8 hw hr) (by decide) ?_
        refine fr_aload_n d_O_measure_201 rfl ?_
        refine fr_geti d_O_measure_202 fl_O_115 rfl rfl (Or.inr ⟨rfl, rfl⟩) ?_
        refine fr_icmp_ne 259 d_O_measure_205 rfl (fun h17 => ?_) (fun h17 => ?_)
        · skip
          exact fr_vret d_O_measure_259 rfl (Nat.zero_le _) (Nat.zero_le _) (fr_tIJ (by unfold f_O_measure; rw [if_neg h3, if_pos h4, if_pos h16, if_neg h17]))
        · skip
          refine fr_aload_n d_O_measure_208 rfl ?_
          refine fr_iload_n d_O_measure_209 rfl ?_
          refine fr_callVv fr_q6 d_O_measure_210 (ct_O_send X n r hr _ _ (fm_ui (k := 54) rfl (fm_ui (k := 54) rfl (fm_ui (k := 54) rfl (fm_ui (k := 54) rfl hw))))) mv_O_142 rfl rfl rfl (Or.inr ⟨rfl, rfl⟩) rfl rfl ⟨Nat.le_of_ble_eq_true rfl, Nat.le_of_ble_eq_true rfl⟩ ⟨rfl, rfl⟩ ⟨Nat.zero_le _, Nat.zero_le _⟩ (Nat.le_of_ble_eq_true rfl) (fun I' J' hp18 => ?_)
          obtain ⟨rfl, rfl⟩ := hp18
          refine fr_aload_n d_O_measure_213 rfl ?_
          refine fr_getr (k' := 59) (r' := 0) d_O_measure_214 fl_O_63 rfl rfl rfl (Or.inr ⟨rfl, rfl⟩) ?_
          refine fr_iload_n d_O_measure_217 rfl ?_
          refine fr_aload_n d_O_measure_218 rfl ?_
          refine fr_getr (k' := 59) (r' := 0) d_O_measure_219 fl_O_63 rfl rfl rfl (Or.inr ⟨rfl, rfl⟩) ?_
          refine fr_iload_n d_O_measure_222 rfl ?_
          refine fr_iald (r) d_O_measure_223 rfl rfl (Or.inr ⟨rfl, rfl⟩) rfl (fm_lt8 hw hr) (by decide) ?_
          refine fr_iconst d_O_measure_224 fr_i4 ?_
          refine fr_icmp_lt 233 d_O_measure_225 rfl (fun h19 => ?_) (fun h19 => ?_)
          · skip
            refine fr_iconst d_O_measure_233 fr_i2 ?_
            refine fr_aload_n d_O_measure_234 rfl ?_
            refine fr_getr (k' := 59) (r' := 0) d_O_measure_235 fl_O_63 rfl rfl rfl (Or.inr ⟨rfl, rfl⟩) ?_
            refine fr_iload_n d_O_measure_238 rfl ?_
            refine fr_iald (r) d_O_measure_239 rfl rfl (Or.inr ⟨rfl, rfl⟩) rfl (fm_lt8 hw hr) (by decide) ?_
            refine fr_imul d_O_measure_240 ?_
            refine fr_iast (r) d_O_measure_241 rfl rfl (Or.inr ⟨rfl, rfl⟩) rfl (fm_lt8 hw hr) (by decide) ?_
            refine fr_aload_n d_O_measure_242 rfl ?_
            refine fr_getr (k' := 58) (r' := 0) d_O_measure_243 fl_O_60 rfl rfl rfl (Or.inr ⟨rfl, rfl⟩) ?_
            refine fr_iload_n d_O_measure_246 rfl ?_
            refine fr_aload_n d_O_measure_247 rfl ?_
            refine fr_geti d_O_measure_248 fl_O_115 rfl rfl (Or.inr ⟨rfl, rfl⟩) ?_
            refine fr_aload_n d_O_measure_251 rfl ?_
            refine fr_getr (k' := 59) (r' := 0) d_O_measure_252 fl_O_63 rfl rfl rfl (Or.inr ⟨rfl, rfl⟩) ?_
            refine fr_iload_n d_O_measure_255 rfl ?_
            refine fr_iald (r) d_O_measure_256 rfl rfl (Or.inr ⟨rfl, rfl⟩) rfl (fm_lt8 hw hr) (by decide) ?_
            refine fr_iadd d_O_measure_257 ?_
            refine fr_iast (r) d_O_measure_258 rfl rfl (Or.inr ⟨rfl, rfl⟩) rfl (fm_lt8 hw hr) (by decide) ?_
            exact fr_vret d_O_measure_259 rfl (Nat.zero_le _) (Nat.zero_le _) (fr_tIJ (by unfold f_O_measure; rw [if_neg h3, if_pos h4, if_pos h16, if_pos h17, if_pos h19]))
          · skip
            refine fr_bipush d_O_measure_228 fr_b8 ?_
            refine fr_goto 241 d_O_measure_230 rfl ?_
            refine fr_iast (r) d_O_measure_241 rfl rfl (Or.inr ⟨rfl, rfl⟩) rfl (fm_lt8 hw hr) (by decide) ?_
            refine fr_aload_n d_O_measure_242 rfl ?_
            refine fr_getr (k' := 58) (r' := 0) d_O_measure_243 fl_O_60 rfl rfl rfl (Or.inr ⟨rfl, rfl⟩) ?_
            refine fr_iload_n d_O_measure_246 rfl ?_
            refine fr_aload_n d_O_measure_247 rfl ?_
            refine fr_geti d_O_measure_248 fl_O_115 rfl rfl (Or.inr ⟨rfl, rfl⟩) ?_
            refine fr_aload_n d_O_measure_251 rfl ?_
            refine fr_getr (k' := 59) (r' := 0) d_O_measure_252 fl_O_63 rfl rfl rfl (Or.inr ⟨rfl, rfl⟩) ?_
            refine fr_iload_n d_O_measure_255 rfl ?_
            refine fr_iald (r) d_O_measure_256 rfl rfl (Or.inr ⟨rfl, rfl⟩) rfl (fm_lt8 hw hr) (by decide) ?_
            refine fr_iadd d_O_measure_257 ?_
            refine fr_iast (r) d_O_measure_258 rfl rfl (Or.inr ⟨rfl, rfl⟩) rfl (fm_lt8 hw hr) (by decide) ?_
            exact fr_vret d_O_measure_259 rfl (Nat.zero_le _) (Nat.zero_le _) (fr_tIJ (by unfold f_O_measure; rw [if_neg h3, if_pos h4, if_pos h16, if_pos h17, if_neg h19]))
      · skip
        refine fr_aload_n d_O_measure_150 rfl ?_
        refine fr_getr (k' := 56) (r' := 0) d_O_measure_151 fl_O_54 rfl rfl rfl (Or.inr ⟨rfl, rfl⟩) ?_
        refine fr_iload_n d_O_measure_154 rfl ?_
        refine fr_iload d_O_measure_155 rfl ?_
        refine fr_zast (r) d_O_measure_157 rfl rfl fr_if01 (Or.inr ⟨rfl, rfl⟩) rfl (fm_lt8 hw hr) (by decide) ?_
        refine fr_aload_n d_O_measure_158 rfl ?_
        refine fr_getr (k' := 57) (r' := 0) d_O_measure_159 fl_O_57 rfl rfl rfl (Or.inr ⟨rfl, rfl⟩) ?_
        refine fr_iload_n d_O_measure_162 rfl ?_
        refine fr_dup2 d_O_measure_163 rfl rfl ?_
        refine fr_iald (r) d_O_measure_164 rfl rfl (Or.inr ⟨rfl, rfl⟩) rfl (fm_lt8 hw hr) (by decide) ?_
        refine fr_iconst d_O_measure_165 fr_i1 ?_
        refine fr_iadd d_O_measure_166 ?_
        refine fr_iast (r) d_O_measure_167 rfl rfl (Or.inr ⟨rfl, rfl⟩) rfl (fm_lt8 hw hr) (by decide) ?_
        refine fr_aload_n d_O_measure_168 rfl ?_
        refine fr_iload_n d_O_measure_169 rfl ?_
        refine fr_callVv fr_q6 d_O_measure_170 (ct_O_send X n r hr _ _ (fm_ui (k := 57) rfl (fm_ui (k := 56) rfl (fm_ui (k := 54) rfl (fm_ui (k := 54) rfl (fm_ui (k := 54) rfl (fm_ui (k := 54) rfl hw))))))) mv_O_142 rfl rfl rfl (Or.inr ⟨rfl, rfl⟩) rfl rfl ⟨Nat.le_of_ble_eq_true rfl, Nat.le_of_ble_eq_true rfl⟩ ⟨rfl, rfl⟩ ⟨Nat.zero_le _, Nat.zero_le _⟩ (Nat.le_of_ble_eq_true rfl) (fun I' J' hp20 => ?_)
        obtain ⟨rfl, rfl⟩ := hp20
        refine fr_aload_n d_O_measure_173 rfl ?_
        refine fr_getr (k' := 59) (r' := 0) d_O_measure_174 fl_O_63 rfl rfl rfl (Or.inr ⟨rfl, rfl⟩) ?_
        refine fr_iload_n d_O_measure_177 rfl ?_
        refine fr_iconst d_O_measure_178 fr_i1 ?_
        refine fr_iast (r) d_O_measure_179 rfl rfl (Or.inr ⟨rfl, rfl⟩) rfl (fm_lt8 hw hr) (by decide) ?_
        refine fr_aload_n d_O_measure_180 rfl ?_
        refine fr_getr (k' := 58) (r' := 0) d_O_measure_181 fl_O_60 rfl rfl rfl (Or.inr ⟨rfl, rfl⟩) ?_
        refine fr_iload_n d_O_measure_184 rfl ?_
        refine fr_aload_n d_O_measure_185 rfl ?_
        refine fr_geti d_O_measure_186 fl_O_115 rfl rfl (Or.inr ⟨rfl, rfl⟩) ?_
        refine fr_iconst d_O_measure_189 fr_i1 ?_
        refine fr_iadd d_O_measure_190 ?_
        refine fr_iast (r) d_O_measure_191 rfl rfl (Or.inr ⟨rfl, rfl⟩) rfl (fm_lt8 hw hr) (by decide) ?_
        refine fr_goto 259 d_O_measure_192 rfl ?_
        exact fr_vret d_O_measure_259 rfl (Nat.zero_le _) (Nat.zero_le _) (fr_tIJ (by unfold f_O_measure; rw [if_neg h3, if_pos h4, if_neg h16]))
  · skip
    refine fr_lconst d_O_measure_88 fr_l0 ?_
    refine fr_goto 138 d_O_measure_89 rfl ?_
    refine fr_last (r) d_O_measure_138 rfl rfl (Or.inr ⟨rfl, rfl⟩) rfl (fm_lt8 hw hr) (by decide) ?_
    refine fr_iload d_O_measure_139 rfl ?_
    refine fr_aload_n d_O_measure_141 rfl ?_
    refine fr_getr (k' := 56) (r' := 0) d_O_measure_142 fl_O_54 rfl rfl rfl (Or.inr ⟨rfl, rfl⟩) ?_
    refine fr_iload_n d_O_measure_145 rfl ?_
    refine fr_zald (r) d_O_measure_146 rfl rfl (Or.inr ⟨rfl, rfl⟩) rfl (fm_lt8 hw hr) (by decide) ?_
    refine fr_icmp_eq 195 d_O_measure_147 rfl (fun h21 => ?_) (fun h21 => ?_)
    · skip
      refine fr_aload_n d_O_measure_195 rfl ?_
      refine fr_getr (k' := 58) (r' := 0) d_O_measure_196 fl_O_60 rfl rfl rfl (Or.inr ⟨rfl, rfl⟩) ?_
      refine fr_iload_n d_O_measure_199 rfl ?_
      refine fr_iald (r) d_O_measure_200 rfl rfl (Or.inr ⟨rfl, rfl⟩) rfl (fm_lt8 hw hr) (by decide) ?_
      refine fr_aload_n d_O_measure_201 rfl ?_
      refine fr_geti d_O_measure_202 fl_O_115 rfl rfl (Or.inr ⟨rfl, rfl⟩) ?_
      refine fr_icmp_ne 259 d_O_measure_205 rfl (fun h22 => ?_) (fun h22 => ?_)
      · skip
        exact fr_vret d_O_measure_259 rfl (Nat.zero_le _) (Nat.zero_le _) (fr_tIJ (by unfold f_O_measure; rw [if_pos h3, if_pos h21, if_neg h22]))
      · skip
        refine fr_aload_n d_O_measure_208 rfl ?_
        refine fr_iload_n d_O_measure_209 rfl ?_
        refine fr_callVv fr_q6 d_O_measure_210 (ct_O_send X n r hr _ _ (fm_ui (k := 54) rfl (fm_ui (k := 54) rfl (fm_ui (k := 54) rfl (fm_ui (k := 54) rfl hw))))) mv_O_142 rfl rfl rfl (Or.inr ⟨rfl, rfl⟩) rfl rfl ⟨Nat.le_of_ble_eq_true rfl, Nat.le_of_ble_eq_true rfl⟩ ⟨rfl, rfl⟩ ⟨Nat.zero_le _, Nat.zero_le _⟩ (Nat.le_of_ble_eq_true rfl) (fun I' J' hp23 => ?_)
        obtain ⟨rfl, rfl⟩ := hp23
        refine fr_aload_n d_O_measure_213 rfl ?_
        refine fr_getr (k' := 59) (r' := 0) d_O_measure_214 fl_O_63 rfl rfl rfl (Or.inr ⟨rfl, rfl⟩) ?_
        refine fr_iload_n d_O_measure_217 rfl ?_
        refine fr_aload_n d_O_measure_218 rfl ?_
        refine fr_getr (k' := 59) (r' := 0) d_O_measure_219 fl_O_63 rfl rfl rfl (Or.inr ⟨rfl, rfl⟩) ?_
        refine fr_iload_n d_O_measure_222 rfl ?_
        refine fr_iald (r) d_O_measure_223 rfl rfl (Or.inr ⟨rfl, rfl⟩) rfl (fm_lt8 hw hr) (by decide) ?_
        refine fr_iconst d_O_measure_224 fr_i4 ?_
        refine fr_icmp_lt 233 d_O_measure_225 rfl (fun h24 => ?_) (fun h24 => ?_)
        · skip
          refine fr_iconst d_O_measure_233 fr_i2 ?_
          refine fr_aload_n d_O_measure_234 rfl ?_
          refine fr_getr (k' := 59) (r' := 0) d_O_measure_235 fl_O_63 rfl rfl rfl (Or.inr ⟨rfl, rfl⟩) ?_
          refine fr_iload_n d_O_measure_238 rfl ?_
          refine fr_iald (r) d_O_measure_239 rfl rfl (Or.inr ⟨rfl, rfl⟩) rfl (fm_lt8 hw hr) (by decide) ?_
          refine fr_imul d_O_measure_240 ?_
          refine fr_iast (r) d_O_measure_241 rfl rfl (Or.inr ⟨rfl, rfl⟩) rfl (fm_lt8 hw hr) (by decide) ?_
          refine fr_aload_n d_O_measure_242 rfl ?_
          refine fr_getr (k' := 58) (r' := 0) d_O_measure_243 fl_O_60 rfl rfl rfl (Or.inr ⟨rfl, rfl⟩) ?_
          refine fr_iload_n d_O_measure_246 rfl ?_
          refine fr_aload_n d_O_measure_247 rfl ?_
          refine fr_geti d_O_measure_248 fl_O_115 rfl rfl (Or.inr ⟨rfl, rfl⟩) ?_
          refine fr_aload_n d_O_measure_251 rfl ?_
          refine fr_getr (k' := 59) (r' := 0) d_O_measure_252 fl_O_63 rfl rfl rfl (Or.inr ⟨rfl, rfl⟩) ?_
          refine fr_iload_n d_O_measure_255 rfl ?_
          refine fr_iald (r) d_O_measure_256 rfl rfl (Or.inr ⟨rfl, rfl⟩) rfl (fm_lt8 hw hr) (by decide) ?_
          refine fr_iadd d_O_measure_257 ?_
          refine fr_iast (r) d_O_measure_258 rfl rfl (Or.inr ⟨rfl, rfl⟩) rfl (fm_lt8 hw hr) (by decide) ?_
          exact fr_vret d_O_measure_259 rfl (Nat.zero_le _) (Nat.zero_le _) (fr_tIJ (by unfold f_O_measure; rw [if_pos h3, if_pos h21, if_pos h22, if_pos h24]))
        · skip
          refine fr_bipush d_O_measure_228 fr_b8 ?_
          refine fr_goto 241 d_O_measure_230 rfl ?_
          refine fr_iast (r) d_O_measure_241 rfl rfl (Or.inr ⟨rfl, rfl⟩) rfl (fm_lt8 hw hr) (by decide) ?_
          refine fr_aload_n d_O_measure_242 rfl ?_
          refine fr_getr (k' := 58) (r' := 0) d_O_measure_243 fl_O_60 rfl rfl rfl (Or.inr ⟨rfl, rfl⟩) ?_
          refine fr_iload_n d_O_measure_246 rfl ?_
          refine fr_aload_n d_O_measure_247 rfl ?_
          refine fr_geti d_O_measure_248 fl_O_115 rfl rfl (Or.inr ⟨rfl, rfl⟩) ?_
          refine fr_aload_n d_O_measure_251 rfl ?_
          refine fr_getr (k' := 59) (r' := 0) d_O_measure_252 fl_O_63 rfl rfl rfl (Or.inr ⟨rfl, rfl⟩) ?_
          refine fr_iload_n d_O_measure_255 rfl ?_
          refine fr_iald (r) d_O_measure_256 rfl rfl (Or.inr ⟨rfl, rfl⟩) rfl (fm_lt8 hw hr) (by decide) ?_
          refine fr_iadd d_O_measure_257 ?_
          refine fr_iast (r) d_O_measure_258 rfl rfl (Or.inr ⟨rfl, rfl⟩) rfl (fm_lt8 hw hr) (by decide) ?_
          exact fr_vret d_O_measure_259 rfl (Nat.zero_le _) (Nat.zero_le _) (fr_tIJ (by unfold f_O_measure; rw [if_pos h3, if_pos h21, if_pos h22, if_neg h24]))
    · skip
      refine fr_aload_n d_O_measure_150 rfl ?_
      refine fr_getr (k' := 56) (r' := 0) d_O_measure_151 fl_O_54 rfl rfl rfl (Or.inr ⟨rfl, rfl⟩) ?_
      refine fr_iload_n d_O_measure_154 rfl ?_
      refine fr_iload d_O_measure_155 rfl ?_
      refine fr_zast (r) d_O_measure_157 rfl rfl fr_if01 (Or.inr ⟨rfl, rfl⟩) rfl (fm_lt8 hw hr) (by decide) ?_
      refine fr_aload_n d_O_measure_158 rfl ?_
      refine fr_getr (k' := 57) (r' := 0) d_O_measure_159 fl_O_57 rfl rfl rfl (Or.inr ⟨rfl, rfl⟩) ?_
      refine fr_iload_n d_O_measure_162 rfl ?_
      refine fr_dup2 d_O_measure_163 rfl rfl ?_
      refine fr_iald (r) d_O_measure_164 rfl rfl (Or.inr ⟨rfl, rfl⟩) rfl (fm_lt8 hw hr) (by decide) ?_
      refine fr_iconst d_O_measure_165 fr_i1 ?_
      refine fr_iadd d_O_measure_166 ?_
      refine fr_iast (r) d_O_measure_167 rfl rfl (Or.inr ⟨rfl, rfl⟩) rfl (fm_lt8 hw hr) (by decide) ?_
      refine fr_aload_n d_O_measure_168 rfl ?_
      refine fr_iload_n d_O_measure_169 rfl ?_
      refine fr_callVv fr_q6 d_O_measure_170 (ct_O_send X n r hr _ _ (fm_ui (k := 57) rfl (fm_ui (k := 56) rfl (fm_ui (k := 54) rfl (fm_ui (k := 54) rfl (fm_ui (k := 54) rfl (fm_ui (k := 54) rfl hw))))))) mv_O_142 rfl rfl rfl (Or.inr ⟨rfl, rfl⟩) rfl rfl ⟨Nat.le_of_ble_eq_true rfl, Nat.le_of_ble_eq_true rfl⟩ ⟨rfl, rfl⟩ ⟨Nat.zero_le _, Nat.zero_le _⟩ (Nat.le_of_ble_eq_true rfl) (fun I' J' hp25 => ?_)
      obtain ⟨rfl, rfl⟩ := hp25
      refine fr_aload_n d_O_measure_173 rfl ?_
      refine fr_getr (k' := 59) (r' := 0) d_O_measure_174 fl_O_63 rfl rfl rfl (Or.inr ⟨rfl, rfl⟩) ?_
      refine fr_iload_n d_O_measure_177 rfl ?_
      refine fr_iconst d_O_measure_178 fr_i1 ?_
      refine fr_iast (r) d_O_measure_179 rfl rfl (Or.inr ⟨rfl, rfl⟩) rfl (fm_lt8 hw hr) (by decide) ?_
      refine fr_aload_n d_O_measure_180 rfl ?_
      refine fr_getr (k' := 58) (r' := 0) d_O_measure_181 fl_O_60 rfl rfl rfl (Or.inr ⟨rfl, rfl⟩) ?_
      refine fr_iload_n d_O_measure_184 rfl ?_
      refine fr_aload_n d_O_measure_185 rfl ?_
      refine fr_geti d_O_measure_186 fl_O_115 rfl rfl (Or.inr ⟨rfl, rfl⟩) ?_
      refine fr_iconst d_O_measure_189 fr_i1 ?_
      refine fr_iadd d_O_measure_190 ?_
      refine fr_iast (r) d_O_measure_191 rfl rfl (Or.inr ⟨rfl, rfl⟩) rfl (fm_lt8 hw hr) (by decide) ?_
      refine fr_goto 259 d_O_measure_192 rfl ?_
      exact fr_vret d_O_measure_259 rfl (Nat.zero_le _) (Nat.zero_le _) (fr_tIJ (by unfold f_O_measure; rw [if_pos h3, if_neg h21]))
theorem fw_O_measure {n : Nat} {I : fr_I} {J : fr_J} {r : Nat} (hu : fr_nn (I 68 0 r) 15) (hw : fr_mw n I) : fr_mw n (f_O_measure I J n r).1 := by
  unfold f_O_measure
  refine fw_ite_1 (fun h => ?_) (fun h => ?_)
  · skip
    refine fw_ite_1 (fun h => ?_) (fun h => ?_)
    · skip
      refine fw_ite_1 (fun h => ?_) (fun h => ?_)
      · skip
        refine fw_ite_1 (fun h => ?_) (fun h => ?_)
        · skip
          exact (fm_ui (k := 58) rfl (fm_ui (k := 59) rfl (fw_O_send hu (fm_ui (k := 54) rfl (fm_ui (k := 54) rfl (fm_ui (k := 54) rfl (fm_ui (k := 54) rfl hw)))))))
        · skip
          exact (fm_ui (k := 58) rfl (fm_ui (k := 59) rfl (fw_O_send hu (fm_ui (k := 54) rfl (fm_ui (k := 54) rfl (fm_ui (k := 54) rfl (fm_ui (k := 54) rfl hw)))))))
      · skip
        exact (fm_ui (k := 54) rfl (fm_ui (k := 54) rfl (fm_ui (k := 54) rfl (fm_ui (k := 54) rfl hw))))
    · skip
      exact (fm_ui (k := 58) rfl (fm_ui (k := 59) rfl (fw_O_send hu (fm_ui (k := 57) rfl (fm_ui (k := 56) rfl (fm_ui (k := 54) rfl (fm_ui (k := 54) rfl (fm_ui (k := 54) rfl (fm_ui (k := 54) rfl hw)))))))))
  · skip
    refine fw_ite_1 (fun h => ?_) (fun h => ?_)
    · skip
      refine fw_ite_1 (fun h => ?_) (fun h => ?_)
      · skip
        refine fw_ite_1 (fun h => ?_) (fun h => ?_)
        · skip
          refine fw_ite_1 (fun h => ?_) (fun h => ?_)
          · skip
            exact (fm_ui (k := 58) rfl (fm_ui (k := 59) rfl (fw_O_send hu (fm_ui (k := 54) rfl (fm_ui (k := 54) rfl (fm_ui (k := 54) rfl (fm_ui (k := 54) rfl hw)))))))
          · skip
            exact (fm_ui (k := 58) rfl (fm_ui (k := 59) rfl (fw_O_send hu (fm_ui (k := 54) rfl (fm_ui (k := 54) rfl (fm_ui (k := 54) rfl (fm_ui (k := 54) rfl hw)))))))
        · skip
          exact (fm_ui (k := 54) rfl (fm_ui (k := 54) rfl (fm_ui (k := 54) rfl (fm_ui (k := 54) rfl hw))))
      · skip
        exact (fm_ui (k := 58) rfl (fm_ui (k := 59) rfl (fw_O_send hu (fm_ui (k := 57) rfl (fm_ui (k := 56) rfl (fm_ui (k := 54) rfl (fm_ui (k := 54) rfl (fm_ui (k := 54) rfl (fm_ui (k := 54) rfl hw)))))))))
    · skip
      refine fw_ite_1 (fun h => ?_) (fun h => ?_)
      · skip
        refine fw_ite_1 (fun h => ?_) (fun h => ?_)
        · skip
          refine fw_ite_1 (fun h => ?_) (fun h => ?_)
          · skip
            refine fw_ite_1 (fun h => ?_) (fun h => ?_)
            · skip
              exact (fm_ui (k := 58) rfl (fm_ui (k := 59) rfl (fw_O_send hu (fm_ui (k := 54) rfl (fm_ui (k := 54) rfl (fm_ui (k := 54) rfl (fm_ui (k := 54) rfl hw)))))))
            · skip
              exact (fm_ui (k := 58) rfl (fm_ui (k := 59) rfl (fw_O_send hu (fm_ui (k := 54) rfl (fm_ui (k := 54) rfl (fm_ui (k := 54) rfl (fm_ui (k := 54) rfl hw)))))))
          · skip
            exact (fm_ui (k := 54) rfl (fm_ui (k := 54) rfl (fm_ui (k := 54) rfl (fm_ui (k := 54) rfl hw))))
        · skip
          exact (fm_ui (k := 58) rfl (fm_ui (k := 59) rfl (fw_O_send hu (fm_ui (k := 57) rfl (fm_ui (k := 56) rfl (fm_ui (k := 54) rfl (fm_ui (k := 54) rfl (fm_ui (k := 54) rfl (fm_ui (k := 54) rfl hw)))))))))
      · skip
        refine fw_ite_1 (fun h => ?_) (fun h => ?_)
        · skip
          refine fw_ite_1 (fun h => ?_) (fun h => ?_)
          · skip
            refine fw_ite_1 (fun h => ?_) (fun h => ?_)
            · skip
              exact (fm_ui (k := 58) rfl (fm_ui (k := 59) rfl (fw_O_send hu (fm_ui (k := 54) rfl (fm_ui (k := 54) rfl (fm_ui (k := 54) rfl (fm_ui (k := 54) rfl hw)))))))
            · skip
              exact (fm_ui (k := 58) rfl (fm_ui (k := 59) rfl (fw_O_send hu (fm_ui (k := 54) rfl (fm_ui (k := 54) rfl (fm_ui (k := 54) rfl (fm_ui (k := 54) rfl hw)))))))
          · skip
            exact (fm_ui (k := 54) rfl (fm_ui (k := 54) rfl (fm_ui (k := 54) rfl (fm_ui (k := 54) rfl hw))))
        · skip
          exact (fm_ui (k := 58) rfl (fm_ui (k := 59) rfl (fw_O_send hu (fm_ui (k := 57) rfl (fm_ui (k := 56) rfl (fm_ui (k := 54) rfl (fm_ui (k := 54) rfl (fm_ui (k := 54) rfl (fm_ui (k := 54) rfl hw)))))))))
theorem fc_O_measure {P : fr_I → Prop} (hP : fr_ost P) {n : Nat} {I : fr_I} {J : fr_J} {r : Nat} (h : P I) : P (f_O_measure I J n r).1 := by
  unfold f_O_measure
  refine fw_ite_1 (fun _ => ?_) (fun _ => ?_)
  · skip
    refine fw_ite_1 (fun _ => ?_) (fun _ => ?_)
    · skip
      refine fw_ite_1 (fun _ => ?_) (fun _ => ?_)
      · skip
        refine fw_ite_1 (fun _ => ?_) (fun _ => ?_)
        · skip
          refine fw_pr (P := P) ?_
          exact (hP (k := 58) (by decide) (hP (k := 59) (by decide) (fc_O_send hP (hP (k := 54) (by decide) (hP (k := 54) (by decide) (hP (k := 54) (by decide) (hP (k := 54) (by decide) h)))))))
        · skip
          refine fw_pr (P := P) ?_
          exact (hP (k := 58) (by decide) (hP (k := 59) (by decide) (fc_O_send hP (hP (k := 54) (by decide) (hP (k := 54) (by decide) (hP (k := 54) (by decide) (hP (k := 54) (by decide) h)))))))
      · skip
        refine fw_pr (P := P) ?_
        exact (hP (k := 54) (by decide) (hP (k := 54) (by decide) (hP (k := 54) (by decide) (hP (k := 54) (by decide) h))))
    · skip
      refine fw_pr (P := P) ?_
      exact (hP (k := 58) (by decide) (hP (k := 59) (by decide) (fc_O_send hP (hP (k := 57) (by decide) (hP (k := 56) (by decide) (hP (k := 54) (by decide) (hP (k := 54) (by decide) (hP (k := 54) (by decide) (hP (k := 54) (by decide) h)))))))))
  · skip
    refine fw_ite_1 (fun _ => ?_) (fun _ => ?_)
    · skip
      refine fw_ite_1 (fun _ => ?_) (fun _ => ?_)
      · skip
        refine fw_ite_1 (fun _ => ?_) (fun _ => ?_)
        · skip
          refine fw_ite_1 (fun _ => ?_) (fun _ => ?_)
          · skip
            refine fw_pr (P := P) ?_
            exact (hP (k := 58) (by decide) (hP (k := 59) (by decide) (fc_O_send hP (hP (k := 54) (by decide) (hP (k := 54) (by decide) (hP (k := 54) (by decide) (hP (k := 54) (by decide) h)))))))
          · skip
            refine fw_pr (P := P) ?_
            exact (hP (k := 58) (by decide) (hP (k := 59) (by decide) (fc_O_send hP (hP (k := 54) (by decide) (hP (k := 54) (by decide) (hP (k := 54) (by decide) (hP (k := 54) (by decide) h)))))))
        · skip
          refine fw_pr (P := P) ?_
          exact (hP (k := 54) (by decide) (hP (k := 54) (by decide) (hP (k := 54) (by decide) (hP (k := 54) (by decide) h))))
      · skip
        refine fw_pr (P := P) ?_
        exact (hP (k := 58) (by decide) (hP (k := 59) (by decide) (fc_O_send hP (hP (k := 57) (by decide) (hP (k := 56) (by decide) (hP (k := 54) (by decide) (hP (k := 54) (by decide) (hP (k := 54) (by decide) (hP (k := 54) (by decide) h)))))))))
    · skip
      refine fw_ite_1 (fun _ => ?_) (fun _ => ?_)
      · skip
        refine fw_ite_1 (fun _ => ?_) (fun _ => ?_)
        · skip
          refine fw_ite_1 (fun _ => ?_) (fun _ => ?_)
          · skip
            refine fw_ite_1 (fun _ => ?_) (fun _ => ?_)
            · skip
              refine fw_pr (P := P) ?_
              exact (hP (k := 58) (by decide) (hP (k := 59) (by decide) (fc_O_send hP (hP (k := 54) (by decide) (hP (k := 54) (by decide) (hP (k := 54) (by decide) (hP (k := 54) (by decide) h)))))))
            · skip
              refine fw_pr (P := P) ?_
              exact (hP (k := 58) (by decide) (hP (k := 59) (by decide) (fc_O_send hP (hP (k := 54) (by decide) (hP (k := 54) (by decide) (hP (k := 54) (by decide) (hP (k := 54) (by decide) h)))))))
          · skip
            refine fw_pr (P := P) ?_
            exact (hP (k := 54) (by decide) (hP (k := 54) (by decide) (hP (k := 54) (by decide) (hP (k := 54) (by decide) h))))
        · skip
          refine fw_pr (P := P) ?_
          exact (hP (k := 58) (by decide) (hP (k := 59) (by decide) (fc_O_send hP (hP (k := 57) (by decide) (hP (k := 56) (by decide) (hP (k := 54) (by decide) (hP (k := 54) (by decide) (hP (k := 54) (by decide) (hP (k := 54) (by decide) h)))))))))
      · skip
        refine fw_ite_1 (fun _ => ?_) (fun _ => ?_)
        · skip
          refine fw_ite_1 (fun _ => ?_) (fun _ => ?_)
          · skip
            refine fw_ite_1 (fun _ => ?_) (fun _ => ?_)
            · skip
              refine fw_pr (P := P) ?_
              exact (hP (k := 58) (by decide) (hP (k := 59) (by decide) (fc_O_send hP (hP (k := 54) (by decide) (hP (k := 54) (by decide) (hP (k := 54) (by decide) (hP (k := 54) (by decide) h)))))))
            · skip
              refine fw_pr (P := P) ?_
              exact (hP (k := 58) (by decide) (hP (k := 59) (by decide) (fc_O_send hP (hP (k := 54) (by decide) (hP (k := 54) (by decide) (hP (k := 54) (by decide) (hP (k := 54) (by decide) h)))))))
          · skip
            refine fw_pr (P := P) ?_
            exact (hP (k := 54) (by decide) (hP (k := 54) (by decide) (hP (k := 54) (by decide) (hP (k := 54) (by decide) h))))
        · skip
          refine fw_pr (P := P) ?_
          exact (hP (k := 58) (by decide) (hP (k := 59) (by decide) (fc_O_send hP (hP (k := 57) (by decide) (hP (k := 56) (by decide) (hP (k := 54) (by decide) (hP (k := 54) (by decide) (hP (k := 54) (by decide) (hP (k := 54) (by decide) h)))))))))
theorem fcj_O_measure {P : fr_J → Prop} (hP : fr_ostJ P) {n : Nat} {I : fr_I} {J : fr_J} {r : Nat} (h : P J) : P (f_O_measure I J n r).2 := by
  unfold f_O_measure
  refine fw_iteJ_2 (fun _ => ?_) (fun _ => ?_)
  · skip
    refine fw_iteJ_2 (fun _ => ?_) (fun _ => ?_)
    · skip
      refine fw_iteJ_2 (fun _ => ?_) (fun _ => ?_)
      · skip
        refine fw_iteJ_2 (fun _ => ?_) (fun _ => ?_)
        · skip
          refine fw_pr2 (P := P) ?_
          exact (hP (k := 55) (by decide) h)
        · skip
          refine fw_pr2 (P := P) ?_
          exact (hP (k := 55) (by decide) h)
      · skip
        refine fw_pr2 (P := P) ?_
        exact (hP (k := 55) (by decide) h)
    · skip
      refine fw_pr2 (P := P) ?_
      exact (hP (k := 55) (by decide) h)
  · skip
    refine fw_iteJ_2 (fun _ => ?_) (fun _ => ?_)
    · skip
      refine fw_iteJ_2 (fun _ => ?_) (fun _ => ?_)
      · skip
        refine fw_iteJ_2 (fun _ => ?_) (fun _ => ?_)
        · skip
          refine fw_iteJ_2 (fun _ => ?_) (fun _ => ?_)
          · skip
            refine fw_pr2 (P := P) ?_
            exact (hP (k := 55) (by decide) h)
          · skip
            refine fw_pr2 (P := P) ?_
            exact (hP (k := 55) (by decide) h)
        · skip
          refine fw_pr2 (P := P) ?_
          exact (hP (k := 55) (by decide) h)
      · skip
        refine fw_pr2 (P := P) ?_
        exact (hP (k := 55) (by decide) h)
    · skip
      refine fw_iteJ_2 (fun _ => ?_) (fun _ => ?_)
      · skip
        refine fw_iteJ_2 (fun _ => ?_) (fun _ => ?_)
        · skip
          refine fw_iteJ_2 (fun _ => ?_) (fun _ => ?_)
          · skip
            refine fw_iteJ_2 (fun _ => ?_) (fun _ => ?_)
            · skip
              refine fw_pr2 (P := P) ?_
              exact (hP (k := 55) (by decide) h)
            · skip
              refine fw_pr2 (P := P) ?_
              exact (hP (k := 55) (by decide) h)
          · skip
            refine fw_pr2 (P := P) ?_
            exact (hP (k := 55) (by decide) h)
        · skip
          refine fw_pr2 (P := P) ?_
          exact (hP (k := 55) (by decide) h)
      · skip
        refine fw_iteJ_2 (fun _ => ?_) (fun _ => ?_)
        · skip
          refine fw_iteJ_2 (fun _ => ?_) (fun _ => ?_)
          · skip
            refine fw_iteJ_2 (fun _ => ?_) (fun _ => ?_)
            · skip
              refine fw_pr2 (P := P) ?_
              exact (hP (k := 55) (by decide) h)
            · skip
              refine fw_pr2 (P := P) ?_
              exact (hP (k := 55) (by decide) h)
          · skip
            refine fw_pr2 (P := P) ?_
            exact (hP (k := 55) (by decide) h)
        · skip
          refine fw_pr2 (P := P) ?_
          exact (hP (k := 55) (by decide) h)

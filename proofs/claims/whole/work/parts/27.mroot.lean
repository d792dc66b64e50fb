def fs_O_blocked (r : Nat) (I : fr_I) (i : Nat) (v : Int32) : Int32 :=
  if v = 0 then
    if (I 42 0 i) = (nI r) then
      if ((I 71 0 i) - (I 71 0 i) / 2 * 2) = 1 then
        if 12 < ((I 20 0 1) - (I 72 0 i)) then
          0
        else
          1
      else
        0
    else
      0
  else
    1
theorem fs_O_blocked_eq (r : Nat) (I : fr_I) (i : Nat) (v : Int32) : fs_O_blocked r I i v =
  if v = 0 then
    if (I 42 0 i) = (nI r) then
      if ((I 71 0 i) - (I 71 0 i) / 2 * 2) = 1 then
        if 12 < ((I 20 0 1) - (I 72 0 i)) then
          0
        else
          1
      else
        0
    else
      0
  else
    1 := rfl
def f_O_blocked (I : fr_I) (n : Nat) (r : Nat) : Int32 :=
  if (I 50 0 r) = 0 then
    0
  else
    if (fr_vt (fs_O_blocked r I) 0 n) = 0 then
      0
    else
      1
set_option maxRecDepth 10000 in
theorem ct_O_blocked (X : fr_X) (n : Nat) (r : Nat) (hr : r < n) (I : fr_I) (J : fr_J)  (hw : fr_mw n I) : fr_Ct X y_O_blocked c_O_blocked 4 (some .boolean) (fr_rm 0) [.ref (fr_ad X 20 0), .int (nI r)] (fr_Z0 X n) (fr_Z0 X n) I J (fr_pi (fun x I' J' => (f_O_blocked I n r) = x ∧ I = I' ∧ J = J')) := by
  refine fr_ct (by decide) rfl rfl (Nat.le_of_ble_eq_true rfl) rfl (fun E => ?_)
  refine fr_iconst d_O_blocked_0 fr_i0 ?_
  refine fr_istore_n (L' := [(2, .int _), (0, .ref _), (1, .int _)]) d_O_blocked_1 (by decide) rfl ?_
  refine fr_iconst d_O_blocked_2 fr_i0 ?_
  refine fr_istore_n (L' := [(3, .int _), (2, .int _), (0, .ref _), (1, .int _)]) d_O_blocked_3 (by decide) rfl ?_
  refine fr_pick (L' := [(3, .int _), (2, .int _), (0, .ref _), (1, .int _)]) [0, 1, 2, 3] rfl ?_
  refine fr_loop (fun _ => I) (fun _ => J) (fun i => [(3, .int (nI i)), (2, .int (fr_vt (fs_O_blocked r I) 0 i)), (0, .ref (fr_ad X 20 0)), (1, .int (nI r))]) n rfl rfl rfl ?_ (fun i hi ih => ?_)
  · skip
    refine fr_iload_n d_O_blocked_4 rfl ?_
    refine fr_aload_n d_O_blocked_5 rfl ?_
    refine fr_geti d_O_blocked_6 fl_O_111 rfl rfl (Or.inr ⟨rfl, rfl⟩) ?_
    refine fr_icmp_ge 66 d_O_blocked_9 rfl (fun _ => ?_) (fun h => absurd (by rw [fm_cnt hw]; exact nI_le (Nat.le_refl _) (by have := fm_n8 hw; omega)) h)
    refine fr_aload_n d_O_blocked_66 rfl ?_
    refine fr_getr (k' := 50) (r' := 0) d_O_blocked_67 fl_O_35 rfl rfl rfl (Or.inr ⟨rfl, rfl⟩) ?_
    refine fr_iload_n d_O_blocked_70 rfl ?_
    refine fr_zald (r) d_O_blocked_71 rfl rfl (Or.inr ⟨rfl, rfl⟩) rfl (fm_lt8 hw hr) (by decide) ?_
    refine fr_if_eq 83 d_O_blocked_72 rfl (fun h1 => ?_) (fun h1 => ?_)
    · skip
      refine fr_iconst d_O_blocked_83 fr_i0 ?_
      exact fr_iret d_O_blocked_84 rfl (fr_nar_b (Or.inl rfl)) (Nat.zero_le _) (Nat.zero_le _) ⟨(by unfold f_O_blocked; rw [if_pos h1]), rfl, rfl⟩
    · skip
      refine fr_iload_n d_O_blocked_75 rfl ?_
      refine fr_if_eq 83 d_O_blocked_76 rfl (fun h2 => ?_) (fun h2 => ?_)
      · skip
        refine fr_iconst d_O_blocked_83 fr_i0 ?_
        exact fr_iret d_O_blocked_84 rfl (fr_nar_b (Or.inl rfl)) (Nat.zero_le _) (Nat.zero_le _) ⟨(by unfold f_O_blocked; rw [if_neg h1, if_pos h2]), rfl, rfl⟩
      · skip
        refine fr_iconst d_O_blocked_79 fr_i1 ?_
        refine fr_goto 84 d_O_blocked_80 rfl ?_
        exact fr_iret d_O_blocked_84 rfl (fr_nar_b (Or.inr rfl)) (Nat.zero_le _) (Nat.zero_le _) ⟨(by unfold f_O_blocked; rw [if_neg h1, if_neg h2]), rfl, rfl⟩
  · skip
    refine fr_iload_n d_O_blocked_4 rfl ?_
    refine fr_aload_n d_O_blocked_5 rfl ?_
    refine fr_geti d_O_blocked_6 fl_O_111 rfl rfl (Or.inr ⟨rfl, rfl⟩) ?_
    refine fr_icmp_ge 66 d_O_blocked_9 rfl (fun h => absurd h (by rw [fm_cnt hw]; exact nI_ge hi (by have := fm_n8 hw; omega))) (fun _ => ?_)
    refine fr_iload_n d_O_blocked_12 rfl ?_
    refine fr_if_ne 54 d_O_blocked_13 rfl (fun h3 => ?_) (fun h3 => ?_)
    · skip
      refine fr_iconst d_O_blocked_54 fr_i1 ?_
      refine fr_goto 59 d_O_blocked_55 rfl ?_
      refine fr_istore_n (L' := [(2, .int _), (3, .int _), (0, .ref _), (1, .int _)]) d_O_blocked_59 (by decide) rfl ?_
      refine fr_iinc (v := (nI (i + 1))) (L' := [(3, .int _), (2, .int _), (0, .ref _), (1, .int _)]) d_O_blocked_60 rfl (fr_inc _) (by decide) rfl ?_
      refine fr_goto 4 d_O_blocked_63 rfl ?_
      refine fr_pick (L' := [(3, .int _), (2, .int _), (0, .ref _), (1, .int _)]) [0, 1, 2, 3] rfl ?_
      refine fr_Leq (L' := [(3, .int (nI (i + 1))), (2, .int (fr_vt (fs_O_blocked r I) 0 (i + 1))), (0, .ref (fr_ad X 20 0)), (1, .int (nI r))]) (by rw [fr_vt_s, fs_O_blocked_eq, if_neg h3]) ?_
      exact ih
    · skip
      refine fr_aload_n d_O_blocked_16 rfl ?_
      refine fr_getr (k' := 42) (r' := 0) d_O_blocked_17 fl_O_7 rfl rfl rfl (Or.inr ⟨rfl, rfl⟩) ?_
      refine fr_iload_n d_O_blocked_20 rfl ?_
      refine fr_iald (i) d_O_blocked_21 rfl rfl (Or.inr ⟨rfl, rfl⟩) rfl (fm_lt8 hw hi) (by decide) ?_
      refine fr_iload_n d_O_blocked_22 rfl ?_
      refine fr_icmp_ne 58 d_O_blocked_23 rfl (fun h4 => ?_) (fun h4 => ?_)
      · skip
        refine fr_iconst d_O_blocked_58 fr_i0 ?_
        refine fr_istore_n (L' := [(2, .int _), (3, .int _), (0, .ref _), (1, .int _)]) d_O_blocked_59 (by decide) rfl ?_
        refine fr_iinc (v := (nI (i + 1))) (L' := [(3, .int _), (2, .int _), (0, .ref _), (1, .int _)]) d_O_blocked_60 rfl (fr_inc _) (by decide) rfl ?_
        refine fr_goto 4 d_O_blocked_63 rfl ?_
        refine fr_pick (L' := [(3, .int _), (2, .int _), (0, .ref _), (1, .int _)]) [0, 1, 2, 3] rfl ?_
        refine fr_Leq (L' := [(3, .int (nI (i + 1))), (2, .int (fr_vt (fs_O_blocked r I) 0 (i + 1))), (0, .ref (fr_ad X 20 0)), (1, .int (nI r))]) (by rw [fr_vt_s, fs_O_blocked_eq, if_pos h3, if_neg h4]) ?_
        exact ih
      · skip
        refine fr_aload_n d_O_blocked_26 rfl ?_
        refine fr_getr (k' := 71) (r' := 0) d_O_blocked_27 fl_O_99 rfl rfl rfl (Or.inr ⟨rfl, rfl⟩) ?_
        refine fr_iload_n d_O_blocked_30 rfl ?_
        refine fr_iald (i) d_O_blocked_31 rfl rfl (Or.inr ⟨rfl, rfl⟩) rfl (fm_lt8 hw hi) (by decide) ?_
        refine fr_iconst d_O_blocked_32 fr_i2 ?_
        refine fr_irem d_O_blocked_33 (by decide) ?_
        refine fr_iconst d_O_blocked_34 fr_i1 ?_
        refine fr_icmp_ne 58 d_O_blocked_35 rfl (fun h5 => ?_) (fun h5 => ?_)
        · skip
          refine fr_iconst d_O_blocked_58 fr_i0 ?_
          refine fr_istore_n (L' := [(2, .int _), (3, .int _), (0, .ref _), (1, .int _)]) d_O_blocked_59 (by decide) rfl ?_
          refine fr_iinc (v := (nI (i + 1))) (L' := [(3, .int _), (2, .int _), (0, .ref _), (1, .int _)]) d_O_blocked_60 rfl (fr_inc _) (by decide) rfl ?_
          refine fr_goto 4 d_O_blocked_63 rfl ?_
          refine fr_pick (L' := [(3, .int _), (2, .int _), (0, .ref _), (1, .int _)]) [0, 1, 2, 3] rfl ?_
          refine fr_Leq (L' := [(3, .int (nI (i + 1))), (2, .int (fr_vt (fs_O_blocked r I) 0 (i + 1))), (0, .ref (fr_ad X 20 0)), (1, .int (nI r))]) (by rw [fr_vt_s, fs_O_blocked_eq, if_pos h3, if_pos h4, if_neg h5]) ?_
          exact ih
        · skip
          refine fr_aload_n d_O_blocked_38 rfl ?_
          refine fr_geti d_O_blocked_39 fl_O_115 rfl rfl (Or.inr ⟨rfl, rfl⟩) ?_
          refine fr_aload_n d_O_blocked_42 rfl ?_
          refine fr_getr (k' := 72) (r' := 0) d_O_blocked_43 fl_O_102 rfl rfl rfl (Or.inr ⟨rfl, rfl⟩) ?_
          refine fr_iload_n d_O_blocked_46 rfl ?_
          refine fr_iald (i) d_O_blocked_47 rfl rfl (Or.inr ⟨rfl, rfl⟩) rfl (fm_lt8 hw hi) (by decide) ?_
          refine fr_isub d_O_blocked_48 ?_
          refine fr_bipush d_O_blocked_49 fr_b12 ?_
          refine fr_icmp_gt 58 d_O_blocked_51 rfl (fun h6 => ?_) (fun h6 => ?_)
          · skip
            refine fr_iconst d_O_blocked_58 fr_i0 ?_
            refine fr_istore_n (L' := [(2, .int _), (3, .int _), (0, .ref _), (1, .int _)]) d_O_blocked_59 (by decide) rfl ?_
            refine fr_iinc (v := (nI (i + 1))) (L' := [(3, .int _), (2, .int _), (0, .ref _), (1, .int _)]) d_O_blocked_60 rfl (fr_inc _) (by decide) rfl ?_
            refine fr_goto 4 d_O_blocked_63 rfl ?_
            refine fr_pick (L' := [(3, .int _), (2, .int _), (0, .ref _), (1, .int _)]) [0, 1, 2, 3] rfl ?_
            refine fr_Leq (L' := [(3, .int (nI (i + 1))), (2, .int (fr_vt (fs_O_blocked r I) 0 (i + 1))), (0, .ref (fr_ad X 20 0)), (1, .int (nI r))]) (by rw [fr_vt_s, fs_O_blocked_eq, if_pos h3, if_pos h4, if_pos h5, if_pos h6]) ?_
            exact ih
          · skip
            refine fr_iconst d_O_blocked_54 fr_i1 ?_
            refine fr_goto 59 d_O_blocked_55 rfl ?_
            refine fr_istore_n (L' := [(2, .int _), (3, .int _), (0, .ref _), (1, .int _)]) d_O_blocked_59 (by decide) rfl ?_
            refine fr_iinc (v := (nI (i + 1))) (L' := [(3, .int _), (2, .int _), (0, .ref _), (1, .int _)]) d_O_blocked_60 rfl (fr_inc _) (by decide) rfl ?_
            refine fr_goto 4 d_O_blocked_63 rfl ?_
            refine fr_pick (L' := [(3, .int _), (2, .int _), (0, .ref _), (1, .int _)]) [0, 1, 2, 3] rfl ?_
            refine fr_Leq (L' := [(3, .int (nI (i + 1))), (2, .int (fr_vt (fs_O_blocked r I) 0 (i + 1))), (0, .ref (fr_ad X 20 0)), (1, .int (nI r))]) (by rw [fr_vt_s, fs_O_blocked_eq, if_pos h3, if_pos h4, if_pos h5, if_neg h6]) ?_
            exact ih
def f_O_trip (I : fr_I) (J : fr_J) (n : Nat) (r : Nat) : fr_I :=
  if (I 47 0 r) < 1 then
    if (I 47 0 r) = 2 then
      if (I 56 0 r) = 0 then
        I
      else
        if (lg_cmp (J 55 0 r) (((I 49 0 r)).toInt64 * ((I 48 0 r)).toInt64)) < 0 then
          I
        else
          if (I 43 0 r) = 0 then
            I
          else
            if (I 60 0 r) = 0 then
              if (f_O_blocked I n r) = 0 then
                (f_O_note ((f_O_give I r 1)) 1 (nI r))
              else
                I
            else
              I
    else
      if (I 56 0 r) = 0 then
        I
      else
        if (lg_cmp (J 55 0 r) ((I 49 0 r)).toInt64) < 0 then
          I
        else
          if (I 43 0 r) = 0 then
            I
          else
            if (I 60 0 r) = 0 then
              if (f_O_blocked I n r) = 0 then
                (f_O_note ((f_O_give I r 1)) 1 (nI r))
              else
                I
            else
              I
  else
    if (I 47 0 r) = 2 then
      if (I 56 0 r) = 0 then
        I
      else
        if (lg_cmp (J 55 0 r) ((((I 49 0 r)).toInt64 * ((I 48 0 r)).toInt64) * ((I 48 0 r)).toInt64)) < 0 then
          I
        else
          if (I 43 0 r) = 0 then
            I
          else
            if (I 60 0 r) = 0 then
              if (f_O_blocked I n r) = 0 then
                (f_O_note ((f_O_give I r 1)) 1 (nI r))
              else
                I
            else
              I
    else
      if (I 56 0 r) = 0 then
        I
      else
        if (lg_cmp (J 55 0 r) (((I 49 0 r)).toInt64 * ((I 48 0 r)).toInt64)) < 0 then
          I
        else
          if (I 43 0 r) = 0 then
            I
          else
            if (I 60 0 r) = 0 then
              if (f_O_blocked I n r) = 0 then
                (f_O_note ((f_O_give I r 1)) 1 (nI r))
              else
                I
            else
              I
set_option maxRecDepth 10000 in
theorem ct_O_trip (X : fr_X) (n : Nat) (r : Nat) (hr : r < n) (I : fr_I) (J : fr_J)  (hw : fr_mw n I) : fr_Ct X y_O_trip c_O_trip 4 none (fr_rm 1) [.ref (fr_ad X 20 0), .int (nI r)] (fr_Z0 X n) (fr_Z0 X n) I J (fr_pv (fun I' J' => (f_O_trip I J n r) = I' ∧ J = J')) := by
  refine fr_ct (by decide) rfl rfl (Nat.le_of_ble_eq_true rfl) rfl (fun E => ?_)
  refine fr_aload_n d_O_trip_0 rfl ?_
  refine fr_getr (k' := 49) (r' := 0) d_O_trip_1 fl_O_32 rfl rfl rfl (Or.inr ⟨rfl, rfl⟩) ?_
  refine fr_iload_n d_O_trip_4 rfl ?_
  refine fr_iald (r) d_O_trip_5 rfl rfl (Or.inr ⟨rfl, rfl⟩) rfl (fm_lt8 hw hr) (by decide) ?_
  refine fr_i2l d_O_trip_6 rfl ?_
  refine fr_lstore_n (L' := [(2, .long _), (0, .ref _), (1, .int _)]) d_O_trip_7 (by decide) rfl ?_
  refine fr_aload_n d_O_trip_8 rfl ?_
  refine fr_getr (k' := 47) (r' := 0) d_O_trip_9 fl_O_26 rfl rfl rfl (Or.inr ⟨rfl, rfl⟩) ?_
  refine fr_iload_n d_O_trip_12 rfl ?_
  refine fr_iald (r) d_O_trip_13 rfl rfl (Or.inr ⟨rfl, rfl⟩) rfl (fm_lt8 hw hr) (by decide) ?_
  refine fr_iconst d_O_trip_14 fr_i1 ?_
  refine fr_icmp_lt 30 d_O_trip_15 rfl (fun h1 => ?_) (fun h1 => ?_)
  · skip
    refine fr_lload_n d_O_trip_30 rfl ?_
    refine fr_lstore_n (L' := [(2, .long _), (0, .ref _), (1, .int _)]) d_O_trip_31 (by decide) rfl ?_
    refine fr_aload_n d_O_trip_32 rfl ?_
    refine fr_getr (k' := 47) (r' := 0) d_O_trip_33 fl_O_26 rfl rfl rfl (Or.inr ⟨rfl, rfl⟩) ?_
    refine fr_iload_n d_O_trip_36 rfl ?_
    refine fr_iald (r) d_O_trip_37 rfl rfl (Or.inr ⟨rfl, rfl⟩) rfl (fm_lt8 hw hr) (by decide) ?_
    refine fr_iconst d_O_trip_38 fr_i2 ?_
    refine fr_icmp_ne 54 d_O_trip_39 rfl (fun h2 => ?_) (fun h2 => ?_)
    · skip
      refine fr_lload_n d_O_trip_54 rfl ?_
      refine fr_lstore_n (L' := [(2, .long _), (0, .ref _), (1, .int _)]) d_O_trip_55 (by decide) rfl ?_
      refine fr_aload_n d_O_trip_56 rfl ?_
      refine fr_getr (k' := 56) (r' := 0) d_O_trip_57 fl_O_54 rfl rfl rfl (Or.inr ⟨rfl, rfl⟩) ?_
      refine fr_iload_n d_O_trip_60 rfl ?_
      refine fr_zald (r) d_O_trip_61 rfl rfl (Or.inr ⟨rfl, rfl⟩) rfl (fm_lt8 hw hr) (by decide) ?_
      refine fr_if_eq 114 d_O_trip_62 rfl (fun h3 => ?_) (fun h3 => ?_)
      · skip
        exact fr_vret d_O_trip_114 rfl (Nat.zero_le _) (Nat.zero_le _) ⟨(by unfold f_O_trip; rw [if_pos h1, if_neg h2, if_pos h3]), rfl⟩
      · skip
        refine fr_aload_n d_O_trip_65 rfl ?_
        refine fr_getr (k' := 55) (r' := 0) d_O_trip_66 fl_O_50 rfl rfl rfl (Or.inr ⟨rfl, rfl⟩) ?_
        refine fr_iload_n d_O_trip_69 rfl ?_
        refine fr_lald (r) d_O_trip_70 rfl rfl (Or.inr ⟨rfl, rfl⟩) rfl (fm_lt8 hw hr) (by decide) ?_
        refine fr_lload_n d_O_trip_71 rfl ?_
        refine fr_lcmp d_O_trip_72 ?_
        refine fr_if_lt 114 d_O_trip_73 rfl (fun h4 => ?_) (fun h4 => ?_)
        · skip
          exact fr_vret d_O_trip_114 rfl (Nat.zero_le _) (Nat.zero_le _) ⟨(by unfold f_O_trip; rw [if_pos h1, if_neg h2, if_neg h3, if_pos h4]), rfl⟩
        · skip
          refine fr_aload_n d_O_trip_76 rfl ?_
          refine fr_getr (k' := 43) (r' := 0) d_O_trip_77 fl_O_13 rfl rfl rfl (Or.inr ⟨rfl, rfl⟩) ?_
          refine fr_iload_n d_O_trip_80 rfl ?_
          refine fr_zald (r) d_O_trip_81 rfl rfl (Or.inr ⟨rfl, rfl⟩) rfl (fm_lt8 hw hr) (by decide) ?_
          refine fr_if_eq 114 d_O_trip_82 rfl (fun h5 => ?_) (fun h5 => ?_)
          · skip
            exact fr_vret d_O_trip_114 rfl (Nat.zero_le _) (Nat.zero_le _) ⟨(by unfold f_O_trip; rw [if_pos h1, if_neg h2, if_neg h3, if_neg h4, if_pos h5]), rfl⟩
          · skip
            refine fr_aload_n d_O_trip_85 rfl ?_
            refine fr_getr (k' := 60) (r' := 0) d_O_trip_86 fl_O_66 rfl rfl rfl (Or.inr ⟨rfl, rfl⟩) ?_
            refine fr_iload_n d_O_trip_89 rfl ?_
            refine fr_iald (r) d_O_trip_90 rfl rfl (Or.inr ⟨rfl, rfl⟩) rfl (fm_lt8 hw hr) (by decide) ?_
            refine fr_if_ne 114 d_O_trip_91 rfl (fun h6 => ?_) (fun h6 => ?_)
            · skip
              exact fr_vret d_O_trip_114 rfl (Nat.zero_le _) (Nat.zero_le _) ⟨(by unfold f_O_trip; rw [if_pos h1, if_neg h2, if_neg h3, if_neg h4, if_neg h5, if_neg h6]), rfl⟩
            · skip
              refine fr_aload_n d_O_trip_94 rfl ?_
              refine fr_iload_n d_O_trip_95 rfl ?_
              refine fr_callVi fr_q6 d_O_trip_96 (ct_O_blocked X n r hr _ _ hw) mv_O_146 rfl rfl rfl (Or.inr ⟨rfl, rfl⟩) rfl rfl ⟨Nat.le_of_ble_eq_true rfl, Nat.le_of_ble_eq_true rfl⟩ ⟨rfl, rfl⟩ ⟨Nat.zero_le _, Nat.zero_le _⟩ (Nat.le_of_ble_eq_true rfl) (fun x I' J' hp7 => ?_)
              obtain ⟨rfl, rfl, rfl⟩ := hp7
              refine fr_if_ne 114 d_O_trip_99 rfl (fun h8 => ?_) (fun h8 => ?_)
              · skip
                exact fr_vret d_O_trip_114 rfl (Nat.zero_le _) (Nat.zero_le _) ⟨(by unfold f_O_trip; rw [if_pos h1, if_neg h2, if_neg h3, if_neg h4, if_neg h5, if_pos h6, if_neg h8]), rfl⟩
              · skip
                refine fr_aload_n d_O_trip_102 rfl ?_
                refine fr_iload_n d_O_trip_103 rfl ?_
                refine fr_iconst d_O_trip_104 fr_i1 ?_
                refine fr_callVv fr_q6 d_O_trip_105 (ct_O_give X n r hr _ _ _ hw) mv_O_149 rfl rfl rfl (Or.inr ⟨rfl, rfl⟩) rfl rfl ⟨Nat.le_of_ble_eq_true rfl, Nat.le_of_ble_eq_true rfl⟩ ⟨rfl, rfl⟩ ⟨Nat.zero_le _, Nat.zero_le _⟩ (Nat.le_of_ble_eq_true rfl) (fun I' J' hp9 => ?_)
                obtain ⟨rfl, rfl⟩ := hp9
                refine fr_aload_n d_O_trip_108 rfl ?_
                refine fr_iconst d_O_trip_109 fr_i1 ?_
                refine fr_iload_n d_O_trip_110 rfl ?_
                refine fr_callVv fr_q6 d_O_trip_111 (ct_O_note X n _ _ _ _ (fw_O_give hw)) mv_O_131 rfl rfl rfl (Or.inr ⟨rfl, rfl⟩) rfl rfl ⟨Nat.le_of_ble_eq_true rfl, Nat.le_of_ble_eq_true rfl⟩ ⟨rfl, rfl⟩ ⟨Nat.zero_le _, Nat.zero_le _⟩ (Nat.le_of_ble_eq_true rfl) (fun I' J' hp10 => ?_)
                obtain ⟨rfl, rfl⟩ := hp10
                exact fr_vret d_O_trip_114 rfl (Nat.zero_le _) (Nat.zero_le _) ⟨(by unfold f_O_trip; rw [if_pos h1, if_neg h2, if_neg h3, if_neg h4, if_neg h5, if_pos h6, if_pos h8]), rfl⟩
    · skip
      refine fr_lload_n d_O_trip_42 rfl ?_
      refine fr_aload_n d_O_trip_43 rfl ?_
      refine fr_getr (k' := 48) (r' := 0) d_O_trip_44 fl_O_29 rfl rfl rfl (Or.inr ⟨rfl, rfl⟩) ?_
      refine fr_iload_n d_O_trip_47 rfl ?_
      refine fr_iald (r) d_O_trip_48 rfl rfl (Or.inr ⟨rfl, rfl⟩) rfl (fm_lt8 hw hr) (by decide) ?_
      refine fr_i2l d_O_trip_49 rfl ?_
      refine fr_lmul d_O_trip_50 ?_
      refine fr_goto 55 d_O_trip_51 rfl ?_
      refine fr_lstore_n (L' := [(2, .long _), (0, .ref _), (1, .int _)]) d_O_trip_55 (by decide) rfl ?_
      refine fr_aload_n d_O_trip_56 rfl ?_
      refine fr_getr (k' := 56) (r' := 0) d_O_trip_57 fl_O_54 rfl rfl rfl (Or.inr ⟨rfl, rfl⟩) ?_
      refine fr_iload_n d_O_trip_60 rfl ?_
      refine fr_zald (r) d_O_trip_61 rfl rfl (Or.inr ⟨rfl, rfl⟩) rfl (fm_lt8 hw hr) (by decide) ?_
      refine fr_if_eq 114 d_O_trip_62 rfl (fun h11 => ?_) (fun h11 => ?_)
      · skip
        exact fr_vret d_O_trip_114 rfl (Nat.zero_le _) (Nat.zero_le _) ⟨(by unfold f_O_trip; rw [if_pos h1, if_pos h2, if_pos h11]), rfl⟩
      · skip
        refine fr_aload_n d_O_trip_65 rfl ?_
        refine fr_getr (k' := 55) (r' := 0) d_O_trip_66 fl_O_50 rfl rfl rfl (Or.inr ⟨rfl, rfl⟩) ?_
        refine fr_iload_n d_O_trip_69 rfl ?_
        refine fr_lald (r) d_O_trip_70 rfl rfl (Or.inr ⟨rfl, rfl⟩) rfl (fm_lt8 hw hr) (by decide) ?_
        refine fr_lload_n d_O_trip_71 rfl ?_
        refine fr_lcmp d_O_trip_72 ?_
        refine fr_if_lt 114 d_O_trip_73 rfl (fun h12 => ?_) (fun h12 => ?_)
        · skip
          exact fr_vret d_O_trip_114 rfl (Nat.zero_le _) (Nat.zero_le _) ⟨(by unfold f_O_trip; rw [if_pos h1, if_pos h2, if_neg h11, if_pos h12]), rfl⟩
        · skip
          refine fr_aload_n d_O_trip_76 rfl ?_
          refine fr_getr (k' := 43) (r' := 0) d_O_trip_77 fl_O_13 rfl rfl rfl (Or.inr ⟨rfl, rfl⟩) ?_
          refine fr_iload_n d_O_trip_80 rfl ?_
          refine fr_zald (r) d_O_trip_81 rfl rfl (Or.inr ⟨rfl, rfl⟩) rfl (fm_lt8 hw hr) (by decide) ?_
          refine fr_if_eq 114 d_O_trip_82 rfl (fun h13 => ?_) (fun h13 => ?_)
          · skip
            exact fr_vret d_O_trip_114 rfl (Nat.zero_le _) (Nat.zero_le _) ⟨(by unfold f_O_trip; rw [if_pos h1, if_pos h2, if_neg h11, if_neg h12, if_pos h13]), rfl⟩
          · skip
            refine fr_aload_n d_O_trip_85 rfl ?_
            refine fr_getr (k' := 60) (r' := 0) d_O_trip_86 fl_O_66 rfl rfl rfl (Or.inr ⟨rfl, rfl⟩) ?_
            refine fr_iload_n d_O_trip_89 rfl ?_
            refine fr_iald (r) d_O_trip_90 rfl rfl (Or.inr ⟨rfl, rfl⟩) rfl (fm_lt8 hw hr) (by decide) ?_
            refine fr_if_ne 114 d_O_trip_91 rfl (fun h14 => ?_) (fun h14 => ?_)
            · skip
              exact fr_vret d_O_trip_114 rfl (Nat.zero_le _) (Nat.zero_le _) ⟨(by unfold f_O_trip; rw [if_pos h1, if_pos h2, if_neg h11, if_neg h12, if_neg h13, if_neg h14]), rfl⟩
            · skip
              refine fr_aload_n d_O_trip_94 rfl ?_
              refine fr_iload_n d_O_trip_95 rfl ?_
              refine fr_callVi fr_q6 d_O_trip_96 (ct_O_blocked X n r hr _ _ hw) mv_O_146 rfl rfl rfl (Or.inr ⟨rfl, rfl⟩) rfl rfl ⟨Nat.le_of_ble_eq_true rfl, Nat.le_of_ble_eq_true rfl⟩ ⟨rfl, rfl⟩ ⟨Nat.zero_le _, Nat.zero_le _⟩ (Nat.le_of_ble_eq_true rfl) (fun x I' J' hp15 => ?_)
              obtain ⟨rfl, rfl, rfl⟩ := hp15
              refine fr_if_ne 114 d_O_trip_99 rfl (fun h16 => ?_) (fun h16 => ?_)
              · skip
                exact fr_vret d_O_trip_114 rfl (Nat.zero_le _) (Nat.zero_le _) ⟨(by unfold f_O_trip; rw [if_pos h1, if_pos h2, if_neg h11, if_neg h12, if_neg h13, if_pos h14, if_neg h16]), rfl⟩
              · skip
                refine fr_aload_n d_O_trip_102 rfl ?_
                refine fr_iload_n d_O_trip_103 rfl ?_
                refine fr_iconst d_O_trip_104 fr_i1 ?_
                refine fr_callVv fr_q6 d_O_trip_105 (ct_O_give X n r hr _ _ _ hw) mv_O_149 rfl rfl rfl (Or.inr ⟨rfl, rfl⟩) rfl rfl ⟨Nat.le_of_ble_eq_true rfl, Nat.le_of_ble_eq_true rfl⟩ ⟨rfl, rfl⟩ ⟨Nat.zero_le _, Nat.zero_le _⟩ (Nat.le_of_ble_eq_true rfl) (fun I' J' hp17 => ?_)
                obtain ⟨rfl, rfl⟩ := hp17
                refine fr_aload_n d_O_trip_108 rfl ?_
                refine fr_iconst d_O_trip_109 fr_i1 ?_
                refine fr_iload_n d_O_trip_110 rfl ?_
                refine fr_callVv fr_q6 d_O_trip_111 (ct_O_note X n _ _ _ _ (fw_O_give hw)) mv_O_131 rfl rfl rfl (Or.inr ⟨rfl, rfl⟩) rfl rfl ⟨Nat.le_of_ble_eq_true rfl, Nat.le_of_ble_eq_true rfl⟩ ⟨rfl, rfl⟩ ⟨Nat.zero_le _, Nat.zero_le _⟩ (Nat.le_of_ble_eq_true rfl) (fun I' J' hp18 => ?_)
                obtain ⟨rfl, rfl⟩ := hp18
                exact fr_vret d_O_trip_114 rfl (Nat.zero_le _) (Nat.zero_le _) ⟨(by unfold f_O_trip; rw [if_pos h1, if_pos h2, if_neg h11, if_neg h12, if_neg h13, if_pos h14, if_pos h16]), rfl⟩
  · skip
    refine fr_lload_n d_O_trip_18 rfl ?_
    refine fr_aload_n d_O_trip_19 rfl ?_
    refine fr_getr (k' := 48) (r' := 0) d_O_trip_20 fl_O_29 rfl rfl rfl (Or.inr ⟨rfl, rfl⟩) ?_
    refine fr_iload_n d_O_trip_23 rfl ?_
    refine fr_iald (r) d_O_trip_24 rfl rfl (Or.inr ⟨rfl, rfl⟩) rfl (fm_lt8 hw hr) (by decide) ?_
    refine fr_i2l d_O_trip_25 rfl ?_
    refine fr_lmul d_O_trip_26 ?_
    refine fr_goto 31 d_O_trip_27 rfl ?_
    refine fr_lstore_n (L' := [(2, .long _), (0, .ref _), (1, .int _)]) d_O_trip_31 (by decide) rfl ?_
    refine fr_aload_n d_O_trip_32 rfl ?_
    refine fr_getr (k' := 47) (r' := 0) d_O_trip_33 fl_O_26 rfl rfl rfl (Or.inr ⟨rfl, rfl⟩) ?_
    refine fr_iload_n d_O_trip_36 rfl ?_
    refine fr_iald (r) d_O_trip_37 rfl rfl (Or.inr ⟨rfl, rfl⟩) rfl (fm_lt8 hw hr) (by decide) ?_
    refine fr_iconst d_O_trip_38 fr_i2 ?_
    refine fr_icmp_ne 54 d_O_trip_39 rfl (fun h19 => ?_) (fun h19 => ?_)
    · skip
      refine fr_lload_n d_O_trip_54 rfl ?_
      refine fr_lstore_n (L' := [(2, .long _), (0, .ref _), (1, .int _)]) d_O_trip_55 (by decide) rfl ?_
      refine fr_aload_n d_O_trip_56 rfl ?_
      refine fr_getr (k' := 56) (r' := 0) d_O_trip_57 fl_O_54 rfl rfl rfl (Or.inr ⟨rfl, rfl⟩) ?_
      refine fr_iload_n d_O_trip_60 rfl ?_
      refine fr_zald (r) d_O_trip_61 rfl rfl (Or.inr ⟨rfl, rfl⟩) rfl (fm_lt8 hw hr) (by decide) ?_
      refine fr_if_eq 114 d_O_trip_62 rfl (fun h20 => ?_) (fun h20 => ?_)
      · skip
        exact fr_vret d_O_trip_114 rfl (Nat.zero_le _) (Nat.zero_le _) ⟨(by unfold f_O_trip; rw [if_neg h1, if_neg h19, if_pos h20]), rfl⟩
      · skip
        refine fr_aload_n d_O_trip_65 rfl ?_
        refine fr_getr (k' := 55) (r' := 0) d_O_trip_66 fl_O_50 rfl rfl rfl (Or.inr ⟨rfl, rfl⟩) ?_
        refine fr_iload_n d_O_trip_69 rfl ?_
        refine fr_lald (r) d_O_trip_70 rfl rfl (Or.inr ⟨rfl, rfl⟩) rfl (fm_lt8 hw hr) (by decide) ?_
        refine fr_lload_n d_O_trip_71 rfl ?_
        refine fr_lcmp d_O_trip_72 ?_
        refine fr_if_lt 114 d_O_trip_73 rfl (fun h21 => ?_) (fun h21 => ?_)
        · skip
          exact fr_vret d_O_trip_114 rfl (Nat.zero_le _) (Nat.zero_le _) ⟨(by unfold f_O_trip; rw [if_neg h1, if_neg h19, if_neg h20, if_pos h21]), rfl⟩
        · skip
          refine fr_aload_n d_O_trip_76 rfl ?_
          refine fr_getr (k' := 43) (r' := 0) d_O_trip_77 fl_O_13 rfl rfl rfl (Or.inr ⟨rfl, rfl⟩) ?_
          refine fr_iload_n d_O_trip_80 rfl ?_
          refine fr_zald (r) d_O_trip_81 rfl rfl (Or.inr ⟨rfl, rfl⟩) rfl (fm_lt8 hw hr) (by decide) ?_
          refine fr_if_eq 114 d_O_trip_82 rfl (fun h22 => ?_) (fun h22 => ?_)
          · skip
            exact fr_vret d_O_trip_114 rfl (Nat.zero_le _) (Nat.zero_le _) ⟨(by unfold f_O_trip; rw [if_neg h1, if_neg h19, if_neg h20, if_neg h21, if_pos h22]), rfl⟩
          · skip
            refine fr_aload_n d_O_trip_85 rfl ?_
            refine fr_getr (k' := 60) (r' := 0) d_O_trip_86 fl_O_66 rfl rfl rfl (Or.inr ⟨rfl, rfl⟩) ?_
            refine fr_iload_n d_O_trip_89 rfl ?_
            refine fr_iald (r) d_O_trip_90 rfl rfl (Or.inr ⟨rfl, rfl⟩) rfl (fm_lt8 hw hr) (by decide) ?_
            refine fr_if_ne 114 d_O_trip_91 rfl (fun h23 => ?_) (fun h23 => ?_)
            · skip
              exact fr_vret d_O_trip_114 rfl (Nat.zero_le _) (Nat.zero_le _) ⟨(by unfold f_O_trip; rw [if_neg h1, if_neg h19, if_neg h20, if_neg h21, if_neg h22, if_neg h23]), rfl⟩
            · skip
              refine fr_aload_n d_O_trip_94 rfl ?_
              refine fr_iload_n d_O_trip_95 rfl ?_
              refine fr_callVi fr_q6 d_O_trip_96 (ct_O_blocked X n r hr _ _ hw) mv_O_146 rfl rfl rfl (Or.inr ⟨rfl, rfl⟩) rfl rfl ⟨Nat.le_of_ble_eq_true rfl, Nat.le_of_ble_eq_true rfl⟩ ⟨rfl, rfl⟩ ⟨Nat.zero_le _, Nat.zero_le _⟩ (Nat.le_of_ble_eq_true rfl) (fun x I' J' hp24 => ?_)
              obtain ⟨rfl, rfl, rfl⟩ := hp24
              refine fr_if_ne 114 d_O_trip_99 rfl (fun h25 => ?_) (fun h25 => ?_)
              · skip
                exact fr_vret d_O_trip_114 rfl (Nat.zero_le _) (Nat.zero_le _) ⟨(by unfold f_O_trip; rw [if_neg h1, if_neg h19, if_neg h20, if_neg h21, if_neg h22, if_pos h23, if_neg h25]), rfl⟩
              · skip
                refine fr_aload_n d_O_trip_102 rfl ?_
                refine fr_iload_n d_O_trip_103 rfl ?_
                refine fr_iconst d_O_trip_104 fr_i1 ?_
                refine fr_callVv fr_q6 d_O_trip_105 (ct_O_give X n r hr _ _ _ hw) mv_O_149 rfl rfl rfl (Or.inr ⟨rfl, rfl⟩) rfl rfl ⟨Nat.le_of_ble_eq_true rfl, Nat.le_of_ble_eq_true rfl⟩ ⟨rfl, rfl⟩ ⟨Nat.zero_le _, Nat.zero_le _⟩ (Nat.le_of_ble_eq_true rfl) (fun I' J' hp26 => ?_)
                obtain ⟨rfl, rfl⟩ := hp26
                refine fr_aload_n d_O_trip_108 rfl ?_
                refine fr_iconst d_O_trip_109 fr_i1 ?_
                refine fr_iload_n d_O_trip_110 rfl ?_
                refine fr_callVv fr_q6 d_O_trip_111 (ct_O_note X n _ _ _ _ (fw_O_give hw)) mv_O_131 rfl rfl rfl (Or.inr ⟨rfl, rfl⟩) rfl rfl ⟨Nat.le_of_ble_eq_true rfl, Nat.le_of_ble_eq_true rfl⟩ ⟨rfl, rfl⟩ ⟨Nat.zero_le _, Nat.zero_le _⟩ (Nat.le_of_ble_eq_true rfl) (fun I' J' hp27 => ?_)
                obtain ⟨rfl, rfl⟩ := hp27
                exact fr_vret d_O_trip_114 rfl (Nat.zero_le _) (Nat.zero_le _) ⟨(by unfold f_O_trip; rw [if_neg h1, if_neg h19, if_neg h20, if_neg h21, if_neg h22, if_pos h23, if_pos h25]), rfl⟩
    · skip
      refine fr_lload_n d_O_trip_42 rfl ?_
      refine fr_aload_n d_O_trip_43 rfl ?_
      refine fr_getr (k' := 48) (r' := 0) d_O_trip_44 fl_O_29 rfl rfl rfl (Or.inr ⟨rfl, rfl⟩) ?_
      refine fr_iload_n d_O_trip_47 rfl ?_
      refine fr_iald (r) d_O_trip_48 rfl rfl (Or.inr ⟨rfl, rfl⟩) rfl (fm_lt8 hw hr) (by decide) ?_
      refine fr_i2l d_O_trip_49 rfl ?_
      refine fr_lmul d_O_trip_50 ?_
      refine fr_goto 55 d_O_trip_51 rfl ?_
      refine fr_lstore_n (L' := [(2, .long _), (0, .ref _), (1, .int _)]) d_O_trip_55 (by decide) rfl ?_
      refine fr_aload_n d_O_trip_56 rfl ?_
      refine fr_getr (k' := 56) (r' := 0) d_O_trip_57 fl_O_54 rfl rfl rfl (Or.inr ⟨rfl, rfl⟩) ?_
      refine fr_iload_n d_O_trip_60 rfl ?_
      refine fr_zald (r) d_O_trip_61 rfl rfl (Or.inr ⟨rfl, rfl⟩) rfl (fm_lt8 hw hr) (by decide) ?_
      refine fr_if_eq 114 d_O_trip_62 rfl (fun h28 => ?_) (fun h28 => ?_)
      · skip
        exact fr_vret d_O_trip_114 rfl (Nat.zero_le _) (Nat.zero_le _) ⟨(by unfold f_O_trip; rw [if_neg h1, if_pos h19, if_pos h28]), rfl⟩
      · skip
        refine fr_aload_n d_O_trip_65 rfl ?_
        refine fr_getr (k' := 55) (r' := 0) d_O_trip_66 fl_O_50 rfl rfl rfl (Or.inr ⟨rfl, rfl⟩) ?_
        refine fr_iload_n d_O_trip_69 rfl ?_
        refine fr_lald (r) d_O_trip_70 rfl rfl (Or.inr ⟨rfl, rfl⟩) rfl (fm_lt8 hw hr) (by decide) ?_
        refine fr_lload_n d_O_trip_71 rfl ?_
        refine fr_lcmp d_O_trip_72 ?_
        refine fr_if_lt 114 d_O_trip_73 rfl (fun h29 => ?_) (fun h29 => ?_)
        · skip
          exact fr_vret d_O_trip_114 rfl (Nat.zero_le _) (Nat.zero_le _) ⟨(by unfold f_O_trip; rw [if_neg h1, if_pos h19, if_neg h28, if_pos h29]), rfl⟩
        · skip
          refine fr_aload_n d_O_trip_76 rfl ?_
          refine fr_getr (k' := 43) (r' := 0) d_O_trip_77 fl_O_13 rfl rfl rfl (Or.inr ⟨rfl, rfl⟩) ?_
          refine fr_iload_n d_O_trip_80 rfl ?_
          refine fr_zald (r) d_O_trip_81 rfl rfl (Or.inr ⟨rfl, rfl⟩) rfl (fm_lt8 hw hr) (by decide) ?_
          refine fr_if_eq 114 d_O_trip_82 rfl (fun h30 => ?_) (fun h30 => ?_)
          · skip
            exact fr_vret d_O_trip_114 rfl (Nat.zero_le _) (Nat.zero_le _) ⟨(by unfold f_O_trip; rw [if_neg h1, if_pos h19, if_neg h28, if_neg h29, if_pos h30]), rfl⟩
          · skip
            refine fr_aload_n d_O_trip_85 rfl ?_
            refine fr_getr (k' := 60) (r' := 0) d_O_trip_86 fl_O_66 rfl rfl rfl (Or.inr ⟨rfl, rfl⟩) ?_
            refine fr_iload_n d_O_trip_89 rfl ?_
            refine fr_iald (r) d_O_trip_90 rfl rfl (Or.inr ⟨rfl, rfl⟩) rfl (fm_lt8 hw hr) (by decide) ?_
            refine fr_if_ne 114 d_O_trip_91 rfl (fun h31 => ?_) (fun h31 => ?_)
            · skip
              exact fr_vret d_O_trip_114 rfl (Nat.zero_le _) (Nat.zero_le _) ⟨(by unfold f_O_trip; rw [if_neg h1, if_pos h19, if_neg h28, if_neg h29, if_neg h30, if_neg h31]), rfl⟩
            · skip
              refine fr_aload_n d_O_trip_94 rfl ?_
              refine fr_iload_n d_O_trip_95 rfl ?_
              refine fr_callVi fr_q6 d_O_trip_96 (ct_O_blocked X n r hr _ _ hw) mv_O_146 rfl rfl rfl (Or.inr ⟨rfl, rfl⟩) rfl rfl ⟨Nat.le_of_ble_eq_true rfl, Nat.le_of_ble_eq_true rfl⟩ ⟨rfl, rfl⟩ ⟨Nat.zero_le _, Nat.zero_le _⟩ (Nat.le_of_ble_eq_true rfl) (fun x I' J' hp32 => ?_)
              obtain ⟨rfl, rfl, rfl⟩ := hp32
              refine fr_if_ne 114 d_O_trip_99 rfl (fun h33 => ?_) (fun h33 => ?_)
              · skip
                exact fr_vret d_O_trip_114 rfl (Nat.zero_le _) (Nat.zero_le _) ⟨(by unfold f_O_trip; rw [if_neg h1, if_pos h19, if_neg h28, if_neg h29, if_neg h30, if_pos h31, if_neg h33]), rfl⟩
              · skip
                refine fr_aload_n d_O_trip_102 rfl ?_
                refine fr_iload_n d_O_trip_103 rfl ?_
                refine fr_iconst d_O_trip_104 fr_i1 ?_
                refine fr_callVv fr_q6 d_O_trip_105 (ct_O_give X n r hr _ _ _ hw) mv_O_149 rfl rfl rfl (Or.inr ⟨rfl, rfl⟩) rfl rfl ⟨Nat.le_of_ble_eq_true rfl, Nat.le_of_ble_eq_true rfl⟩ ⟨rfl, rfl⟩ ⟨Nat.zero_le _, Nat.zero_le _⟩ (Nat.le_of_ble_eq_true rfl) (fun I' J' hp34 => ?_)
                obtain ⟨rfl, rfl⟩ := hp34
                refine fr_aload_n d_O_trip_108 rfl ?_
                refine fr_iconst d_O_trip_109 fr_i1 ?_
                refine fr_iload_n d_O_trip_110 rfl ?_
                refine fr_callVv fr_q6 d_O_trip_111 (ct_O_note X n _ _ _ _ (fw_O_give hw)) mv_O_131 rfl rfl rfl (Or.inr ⟨rfl, rfl⟩) rfl rfl ⟨Nat.le_of_ble_eq_true rfl, Nat.le_of_ble_eq_true rfl⟩ ⟨rfl, rfl⟩ ⟨Nat.zero_le _, Nat.zero_le _⟩ (Nat.le_of_ble_eq_true rfl) (fun I' J' hp35 => ?_)
                obtain ⟨rfl, rfl⟩ := hp35
                exact fr_vret d_O_trip_114 rfl (Nat.zero_le _) (Nat.zero_le _) ⟨(by unfold f_O_trip; rw [if_neg h1, if_pos h19, if_neg h28, if_neg h29, if_neg h30, if_pos h31, if_pos h33]), rfl⟩
theorem fw_O_trip {n : Nat} {I : fr_I} {J : fr_J} {r : Nat} (hw : fr_mw n I) : fr_mw n (f_O_trip I J n r) := by
  unfold f_O_trip
  refine fw_ite (fun h => ?_) (fun h => ?_)
  · skip
    refine fw_ite (fun h => ?_) (fun h => ?_)
    · skip
      refine fw_ite (fun h => ?_) (fun h => ?_)
      · skip
        exact hw
      · skip
        refine fw_ite (fun h => ?_) (fun h => ?_)
        · skip
          exact hw
        · skip
          refine fw_ite (fun h => ?_) (fun h => ?_)
          · skip
            exact hw
          · skip
            refine fw_ite (fun h => ?_) (fun h => ?_)
            · skip
              refine fw_ite (fun h => ?_) (fun h => ?_)
              · skip
                exact (fw_O_note (fw_O_give hw))
              · skip
                exact hw
            · skip
              exact hw
    · skip
      refine fw_ite (fun h => ?_) (fun h => ?_)
      · skip
        exact hw
      · skip
        refine fw_ite (fun h => ?_) (fun h => ?_)
        · skip
          exact hw
        · skip
          refine fw_ite (fun h => ?_) (fun h => ?_)
          · skip
            exact hw
          · skip
            refine fw_ite (fun h => ?_) (fun h => ?_)
            · skip
              refine fw_ite (fun h => ?_) (fun h => ?_)
              · skip
                exact (fw_O_note (fw_O_give hw))
              · skip
                exact hw
            · skip
              exact hw
  · skip
    refine fw_ite (fun h => ?_) (fun h => ?_)
    · skip
      refine fw_ite (fun h => ?_) (fun h => ?_)
      · skip
        exact hw
      · skip
        refine fw_ite (fun h => ?_) (fun h => ?_)
        · skip
          exact hw
        · skip
          refine fw_ite (fun h => ?_) (fun h => ?_)
          · skip
            exact hw
          · skip
            refine fw_ite (fun h => ?_) (fun h => ?_)
            · skip
              refine fw_ite (fun h => ?_) (fun h => ?_)
              · skip
                exact (fw_O_note (fw_O_give hw))
              · skip
                exact hw
            · skip
              exact hw
    · skip
      refine fw_ite (fun h => ?_) (fun h => ?_)
      · skip
        exact hw
      · skip
        refine fw_ite (fun h => ?_) (fun h => ?_)
        · skip
          exact hw
        · skip
          refine fw_ite (fun h => ?_) (fun h => ?_)
          · skip
            exact hw
          · skip
            refine fw_ite (fun h => ?_) (fun h => ?_)
            · skip
              refine fw_ite (fun h => ?_) (fun h => ?_)
              · skip
                exact (fw_O_note (fw_O_give hw))
              · skip
                exact hw
            · skip
              exact hw
theorem fc_O_trip {P : fr_I → Prop} (hP : fr_ost P) {n : Nat} {I : fr_I} {J : fr_J} {r : Nat} (h : P I) : P (f_O_trip I J n r) := by
  unfold f_O_trip
  refine fw_ite (fun _ => ?_) (fun _ => ?_)
  · skip
    refine fw_ite (fun _ => ?_) (fun _ => ?_)
    · skip
      refine fw_ite (fun _ => ?_) (fun _ => ?_)
      · skip
        exact h
      · skip
        refine fw_ite (fun _ => ?_) (fun _ => ?_)
        · skip
          exact h
        · skip
          refine fw_ite (fun _ => ?_) (fun _ => ?_)
          · skip
            exact h
          · skip
            refine fw_ite (fun _ => ?_) (fun _ => ?_)
            · skip
              refine fw_ite (fun _ => ?_) (fun _ => ?_)
              · skip
                exact (fc_O_note hP (fc_O_give hP h))
              · skip
                exact h
            · skip
              exact h
    · skip
      refine fw_ite (fun _ => ?_) (fun _ => ?_)
      · skip
        exact h
      · skip
        refine fw_ite (fun _ => ?_) (fun _ => ?_)
        · skip
          exact h
        · skip
          refine fw_ite (fun _ => ?_) (fun _ => ?_)
          · skip
            exact h
          · skip
            refine fw_ite (fun _ => ?_) (fun _ => ?_)
            · skip
              refine fw_ite (fun _ => ?_) (fun _ => ?_)
              · skip
                exact (fc_O_note hP (fc_O_give hP h))
              · skip
                exact h
            · skip
              exact h
  · skip
    refine fw_ite (fun _ => ?_) (fun _ => ?_)
    · skip
      refine fw_ite (fun _ => ?_) (fun _ => ?_)
      · skip
        exact h
      · skip
        refine fw_ite (fun _ => ?_) (fun _ => ?_)
        · skip
          exact h
        · skip
          refine fw_ite (fun _ => ?_) (fun _ => ?_)
          · skip
            exact h
          · skip
            refine fw_ite (fun _ => ?_) (fun _ => ?_)
            · skip
              refine fw_ite (fun _ => ?_) (fun _ => ?_)
              · skip
                exact (fc_O_note hP (fc_O_give hP h))
              · skip
                exact h
            · skip
              exact h
    · skip
      refine fw_ite (fun _ => ?_) (fun _ => ?_)
      · skip
        exact h
      · skip
        refine fw_ite (fun _ => ?_) (fun _ => ?_)
        · skip
          exact h
        · skip
          refine fw_ite (fun _ => ?_) (fun _ => ?_)
          · skip
            exact h
          · skip
            refine fw_ite (fun _ => ?_) (fun _ => ?_)
            · skip
              refine fw_ite (fun _ => ?_) (fun _ => ?_)
              · skip
                exact (fc_O_note hP (fc_O_give hP h))
              · skip
                exact h
            · skip
              exact h
def f_O_state (I : fr_I) (n : Nat) (r : Nat) : Int32 :=
  (((((((if (I 43 0 r) = 0 then (0 : Int32) else 1) + (if (I 56 0 r) = 0 then (0 : Int32) else 2)) + (if (I 60 0 r) ≤ 0 then (0 : Int32) else 4)) + (if (I 63 0 r) = 0 then (0 : Int32) else 8)) + (if (I 65 0 r) = 0 then (0 : Int32) else 16)) + (if (I 44 0 r) = 0 then (0 : Int32) else 32)) + (if (f_O_blocked I n r) = 0 then (0 : Int32) else 64))
set_option maxRecDepth 10000 in
theorem ct_O_state (X : fr_X) (n : Nat) (r : Nat) (hr : r < n) (I : fr_I) (J : fr_J)  (hw : fr_mw n I) : fr_Ct X y_O_state c_O_state 4 (some .int) (fr_rm 1) [.ref (fr_ad X 20 0), .int (nI r)] (fr_Z0 X n) (fr_Z0 X n) I J (fr_pi (fun x I' J' => (f_O_state I n r) = x ∧ I = I' ∧ J = J')) := by
  refine fr_ct (by decide) rfl rfl (Nat.le_of_ble_eq_true rfl) rfl (fun E => ?_)
  refine fr_aload_n d_O_state_0 rfl ?_
  refine fr_iload_n d_O_state_1 rfl ?_
  refine fr_callVi fr_q6 d_O_state_2 (ct_O_none X n _ _ _) mv_O_118 rfl rfl rfl (Or.inr ⟨rfl, rfl⟩) rfl rfl ⟨Nat.le_of_ble_eq_true rfl, Nat.le_of_ble_eq_true rfl⟩ ⟨rfl, rfl⟩ ⟨Nat.zero_le _, Nat.zero_le _⟩ (Nat.le_of_ble_eq_true rfl) (fun x I' J' hp1 => ?_)
  obtain ⟨rfl, rfl, rfl⟩ := hp1
  rw [fm_none hw hr]
  refine fr_if_eq 10 d_O_state_5 rfl (fun _ => ?_) (fun h => absurd h (by decide))
  refine fr_aload_n d_O_state_10 rfl ?_
  refine fr_getr (k' := 43) (r' := 0) d_O_state_11 fl_O_13 rfl rfl rfl (Or.inr ⟨rfl, rfl⟩) ?_
  refine fr_iload_n d_O_state_14 rfl ?_
  refine fr_zald (r) d_O_state_15 rfl rfl (Or.inr ⟨rfl, rfl⟩) rfl (fm_lt8 hw hr) (by decide) ?_
  refine fr_tif_eq (t := 23) (j := 24) d_O_state_16 rfl (fun k => fr_iconst d_O_state_19 fr_i1 (fr_goto 24 d_O_state_20 rfl k)) (fun k => fr_iconst d_O_state_23 fr_i0 k) ?_
  refine fr_aload_n d_O_state_24 rfl ?_
  refine fr_getr (k' := 56) (r' := 0) d_O_state_25 fl_O_54 rfl rfl rfl (Or.inr ⟨rfl, rfl⟩) ?_
  refine fr_iload_n d_O_state_28 rfl ?_
  refine fr_zald (r) d_O_state_29 rfl rfl (Or.inr ⟨rfl, rfl⟩) rfl (fm_lt8 hw hr) (by decide) ?_
  refine fr_tif_eq (t := 37) (j := 38) d_O_state_30 rfl (fun k => fr_iconst d_O_state_33 fr_i2 (fr_goto 38 d_O_state_34 rfl k)) (fun k => fr_iconst d_O_state_37 fr_i0 k) ?_
  refine fr_iadd d_O_state_38 ?_
  refine fr_aload_n d_O_state_39 rfl ?_
  refine fr_getr (k' := 60) (r' := 0) d_O_state_40 fl_O_66 rfl rfl rfl (Or.inr ⟨rfl, rfl⟩) ?_
  refine fr_iload_n d_O_state_43 rfl ?_
  refine fr_iald (r) d_O_state_44 rfl rfl (Or.inr ⟨rfl, rfl⟩) rfl (fm_lt8 hw hr) (by decide) ?_
  refine fr_tif_le (t := 52) (j := 53) d_O_state_45 rfl (fun k => fr_iconst d_O_state_48 fr_i4 (fr_goto 53 d_O_state_49 rfl k)) (fun k => fr_iconst d_O_state_52 fr_i0 k) ?_
  refine fr_iadd d_O_state_53 ?_
  refine fr_aload_n d_O_state_54 rfl ?_
  refine fr_getr (k' := 63) (r' := 0) d_O_state_55 fl_O_75 rfl rfl rfl (Or.inr ⟨rfl, rfl⟩) ?_
  refine fr_iload_n d_O_state_58 rfl ?_
  refine fr_zald (r) d_O_state_59 rfl rfl (Or.inr ⟨rfl, rfl⟩) rfl (fm_lt8 hw hr) (by decide) ?_
  refine fr_tif_eq (t := 68) (j := 69) d_O_state_60 rfl (fun k => fr_bipush d_O_state_63 fr_b8 (fr_goto 69 d_O_state_65 rfl k)) (fun k => fr_iconst d_O_state_68 fr_i0 k) ?_
  refine fr_iadd d_O_state_69 ?_
  refine fr_aload_n d_O_state_70 rfl ?_
  refine fr_getr (k' := 65) (r' := 0) d_O_state_71 fl_O_81 rfl rfl rfl (Or.inr ⟨rfl, rfl⟩) ?_
  refine fr_iload_n d_O_state_74 rfl ?_
  refine fr_zald (r) d_O_state_75 rfl rfl (Or.inr ⟨rfl, rfl⟩) rfl (fm_lt8 hw hr) (by decide) ?_
  refine fr_tif_eq (t := 84) (j := 85) d_O_state_76 rfl (fun k => fr_bipush d_O_state_79 fr_b16 (fr_goto 85 d_O_state_81 rfl k)) (fun k => fr_iconst d_O_state_84 fr_i0 k) ?_
  refine fr_iadd d_O_state_85 ?_
  refine fr_istore_n (L' := [(2, .int _), (0, .ref _), (1, .int _)]) d_O_state_86 (by decide) rfl ?_
  refine fr_aload_n d_O_state_87 rfl ?_
  refine fr_iload_n d_O_state_88 rfl ?_
  refine fr_callVi fr_q6 d_O_state_89 (ct_O_blocked X n r hr _ _ hw) mv_O_146 rfl rfl rfl (Or.inr ⟨rfl, rfl⟩) rfl rfl ⟨Nat.le_of_ble_eq_true rfl, Nat.le_of_ble_eq_true rfl⟩ ⟨rfl, rfl⟩ ⟨Nat.zero_le _, Nat.zero_le _⟩ (Nat.le_of_ble_eq_true rfl) (fun x I' J' hp2 => ?_)
  obtain ⟨rfl, rfl, rfl⟩ := hp2
  refine fr_istore_n (L' := [(3, .int _), (2, .int _), (0, .ref _), (1, .int _)]) d_O_state_92 (by decide) rfl ?_
  refine fr_iload_n d_O_state_93 rfl ?_
  refine fr_aload_n d_O_state_94 rfl ?_
  refine fr_getr (k' := 44) (r' := 0) d_O_state_95 fl_O_17 rfl rfl rfl (Or.inr ⟨rfl, rfl⟩) ?_
  refine fr_iload_n d_O_state_98 rfl ?_
  refine fr_zald (r) d_O_state_99 rfl rfl (Or.inr ⟨rfl, rfl⟩) rfl (fm_lt8 hw hr) (by decide) ?_
  refine fr_tif_eq (t := 108) (j := 109) d_O_state_100 rfl (fun k => fr_bipush d_O_state_103 fr_b32 (fr_goto 109 d_O_state_105 rfl k)) (fun k => fr_iconst d_O_state_108 fr_i0 k) ?_
  refine fr_iadd d_O_state_109 ?_
  refine fr_iload_n d_O_state_110 rfl ?_
  refine fr_tif_eq (t := 119) (j := 120) d_O_state_111 rfl (fun k => fr_bipush d_O_state_114 fr_b64 (fr_goto 120 d_O_state_116 rfl k)) (fun k => fr_iconst d_O_state_119 fr_i0 k) ?_
  refine fr_iadd d_O_state_120 ?_
  exact fr_iret d_O_state_121 rfl (fr_nar_i _) (Nat.zero_le _) (Nat.zero_le _) ⟨rfl, rfl, rfl⟩
def f_O_state_no (I : fr_I) (p1 : Int32) : Int32 :=
  (-1)
set_option maxRecDepth 10000 in
theorem ct_O_state_no (X : fr_X) (n : Nat) (I : fr_I) (J : fr_J) (p1 : Int32) (hx : f_O_none I p1 = 1) : fr_Ct X y_O_state c_O_state 4 (some .int) (fr_rm 1) [.ref (fr_ad X 20 0), .int p1] (fr_Z0 X n) (fr_Z0 X n) I J (fr_pi (fun x I' J' => (f_O_state_no I p1) = x ∧ I = I' ∧ J = J')) := by
  refine fr_ct (by decide) rfl rfl (Nat.le_of_ble_eq_true rfl) rfl (fun E => ?_)
  refine fr_aload_n d_O_state_0 rfl ?_
  refine fr_iload_n d_O_state_1 rfl ?_
  refine fr_callVi fr_q6 d_O_state_2 (ct_O_none X n _ _ _) mv_O_118 rfl rfl rfl (Or.inr ⟨rfl, rfl⟩) rfl rfl ⟨Nat.le_of_ble_eq_true rfl, Nat.le_of_ble_eq_true rfl⟩ ⟨rfl, rfl⟩ ⟨Nat.zero_le _, Nat.zero_le _⟩ (Nat.le_of_ble_eq_true rfl) (fun x I' J' hp1 => ?_)
  obtain ⟨rfl, rfl, rfl⟩ := hp1
  rw [hx]
  refine fr_if_eq 10 d_O_state_5 rfl (fun h => absurd h (by decide)) (fun _ => ?_)
  refine fr_iconst d_O_state_8 fr_im1 ?_
  exact fr_iret d_O_state_9 rfl (fr_nar_i _) (Nat.zero_le _) (Nat.zero_le _) ⟨rfl, rfl, rfl⟩
def f_O_root (I : fr_I) (r : Nat) : Int32 :=
  (fr_rl ((((0 + (((I 54 0 (4 * r))).toInt64 * ((I 54 0 (4 * r))).toInt64)) + (((I 54 0 (4 * r + 1))).toInt64 * ((I 54 0 (4 * r + 1))).toInt64)) + (((I 54 0 (4 * r + 2))).toInt64 * ((I 54 0 (4 * r + 2))).toInt64)) + (((I 54 0 (4 * r + 3))).toInt64 * ((I 54 0 (4 * r + 3))).toInt64)) 21 0).toInt32
set_option maxRecDepth 10000 in
theorem ct_O_root (X : fr_X) (n : Nat) (r : Nat) (hr : r < n) (I : fr_I) (J : fr_J)  (hw : fr_mw n I) : fr_Ct X y_O_root c_O_root 10 (some .int) (fr_rm 0) [.ref (fr_ad X 20 0), .int (nI r)] (fr_Z0 X n) (fr_Z0 X n) I J (fr_pi (fun x I' J' => (f_O_root I r) = x ∧ I = I' ∧ J = J')) := by
  refine fr_ct (by decide) rfl rfl (Nat.le_of_ble_eq_true rfl) rfl (fun E => ?_)
  refine fr_lconst d_O_root_0 fr_l0 ?_
  refine fr_lstore_n (L' := [(2, .long _), (0, .ref _), (1, .int _)]) d_O_root_1 (by decide) rfl ?_
  refine fr_iconst d_O_root_2 fr_i4 ?_
  refine fr_iload_n d_O_root_3 rfl ?_
  refine fr_imul d_O_root_4 ?_
  refine fr_teq (x' := nI (4 * r)) (pk_mul (4) (r)) ?_
  refine fr_istore (L' := [(4, .int _), (2, .long _), (0, .ref _), (1, .int _)]) d_O_root_5 (by decide) rfl ?_
  refine fr_iload d_O_root_7 rfl ?_
  refine fr_iconst d_O_root_9 fr_i4 ?_
  refine fr_iload_n d_O_root_10 rfl ?_
  refine fr_imul d_O_root_11 ?_
  refine fr_teq (x' := nI (4 * r)) (pk_mul (4) (r)) ?_
  refine fr_iconst d_O_root_12 fr_i4 ?_
  refine fr_iadd d_O_root_13 ?_
  refine fr_teq (x' := nI (4 * r + 4)) (nI_add (4 * r) (4)) ?_
  refine fr_icmp_ge 43 d_O_root_14 rfl (fun h => absurd h (nI_ge (by omega) (by have := fm_lt8 hw hr; omega))) (fun _ => ?_)
  refine fr_lload_n d_O_root_17 rfl ?_
  refine fr_aload_n d_O_root_18 rfl ?_
  refine fr_getr (k' := 54) (r' := 0) d_O_root_19 fl_O_47 rfl rfl rfl (Or.inr ⟨rfl, rfl⟩) ?_
  refine fr_iload d_O_root_22 rfl ?_
  refine fr_iald (4 * r) d_O_root_24 rfl rfl (Or.inr ⟨rfl, rfl⟩) rfl (by have := fm_lt8 hw hr; omega) (by decide) ?_
  refine fr_i2l d_O_root_25 rfl ?_
  refine fr_aload_n d_O_root_26 rfl ?_
  refine fr_getr (k' := 54) (r' := 0) d_O_root_27 fl_O_47 rfl rfl rfl (Or.inr ⟨rfl, rfl⟩) ?_
  refine fr_iload d_O_root_30 rfl ?_
  refine fr_iald (4 * r) d_O_root_32 rfl rfl (Or.inr ⟨rfl, rfl⟩) rfl (by have := fm_lt8 hw hr; omega) (by decide) ?_
  refine fr_i2l d_O_root_33 rfl ?_
  refine fr_lmul d_O_root_34 ?_
  refine fr_ladd d_O_root_35 ?_
  refine fr_lstore_n (L' := [(2, .long _), (4, .int _), (0, .ref _), (1, .int _)]) d_O_root_36 (by decide) rfl ?_
  refine fr_iinc (v := (nI (4 * r + 1))) (L' := [(4, .int _), (2, .long _), (0, .ref _), (1, .int _)]) d_O_root_37 rfl (fr_inc _) (by decide) rfl ?_
  refine fr_goto 7 d_O_root_40 rfl ?_
  refine fr_iload d_O_root_7 rfl ?_
  refine fr_iconst d_O_root_9 fr_i4 ?_
  refine fr_iload_n d_O_root_10 rfl ?_
  refine fr_imul d_O_root_11 ?_
  refine fr_teq (x' := nI (4 * r)) (pk_mul (4) (r)) ?_
  refine fr_iconst d_O_root_12 fr_i4 ?_
  refine fr_iadd d_O_root_13 ?_
  refine fr_teq (x' := nI (4 * r + 4)) (nI_add (4 * r) (4)) ?_
  refine fr_icmp_ge 43 d_O_root_14 rfl (fun h => absurd h (nI_ge (by omega) (by have := fm_lt8 hw hr; omega))) (fun _ => ?_)
  refine fr_lload_n d_O_root_17 rfl ?_
  refine fr_aload_n d_O_root_18 rfl ?_
  refine fr_getr (k' := 54) (r' := 0) d_O_root_19 fl_O_47 rfl rfl rfl (Or.inr ⟨rfl, rfl⟩) ?_
  refine fr_iload d_O_root_22 rfl ?_
  refine fr_iald (4 * r + 1) d_O_root_24 rfl rfl (Or.inr ⟨rfl, rfl⟩) rfl (by have := fm_lt8 hw hr; omega) (by decide) ?_
  refine fr_i2l d_O_root_25 rfl ?_
  refine fr_aload_n d_O_root_26 rfl ?_
  refine fr_getr (k' := 54) (r' := 0) d_O_root_27 fl_O_47 rfl rfl rfl (Or.inr ⟨rfl, rfl⟩) ?_
  refine fr_iload d_O_root_30 rfl ?_
  refine fr_iald (4 * r + 1) d_O_root_32 rfl rfl (Or.inr ⟨rfl, rfl⟩) rfl (by have := fm_lt8 hw hr; omega) (by decide) ?_
  refine fr_i2l d_O_root_33 rfl ?_
  refine fr_lmul d_O_root_34 ?_
  refine fr_ladd d_O_root_35 ?_
  refine fr_lstore_n (L' := [(2, .long _), (4, .int _), (0, .ref _), (1, .int _)]) d_O_root_36 (by decide) rfl ?_
  refine fr_iinc (v := (nI (4 * r + 2))) (L' := [(4, .int _), (2, .long _), (0, .ref _), (1, .int _)]) d_O_root_37 rfl (fr_inc _) (by decide) rfl ?_
  refine fr_goto 7 d_O_root_40 rfl ?_
  refine fr_iload d_O_root_7 rfl ?_
  refine fr_iconst d_O_root_9 fr_i4 ?_
  refine fr_iload_n d_O_root_10 rfl ?_
  refine fr_imul d_O_root_11 ?_
  refine fr_teq (x' := nI (4 * r)) (pk_mul (4) (r)) ?_
  refine fr_iconst d_O_root_12 fr_i4 ?_
  refine fr_iadd d_O_root_13 ?_
  refine fr_teq (x' := nI (4 * r + 4)) (nI_add (4 * r) (4)) ?_
  refine fr_icmp_ge 43 d_O_root_14 rfl (fun h => absurd h (nI_ge (by omega) (by have := fm_lt8 hw hr; omega))) (fun _ => ?_)
  refine fr_lload_n d_O_root_17 rfl ?_
  refine fr_aload_n d_O_root_18 rfl ?_
  refine fr_getr (k' := 54) (r' := 0) d_O_root_19 fl_O_47 rfl rfl rfl (Or.inr ⟨rfl, rfl⟩) ?_
  refine fr_iload d_O_root_22 rfl ?_
  refine fr_iald (4 * r + 2) d_O_root_24 rfl rfl (Or.inr ⟨rfl, rfl⟩) rfl (by have := fm_lt8 hw hr; omega) (by decide) ?_
  refine fr_i2l d_O_root_25 rfl ?_
  refine fr_aload_n d_O_root_26 rfl ?_
  refine fr_getr (k' := 54) (r' := 0) d_O_root_27 fl_O_47 rfl rfl rfl (Or.inr ⟨rfl, rfl⟩) ?_
  refine fr_iload d_O_root_30 rfl ?_
  refine fr_iald (4 * r + 2) d_O_root_32 rfl rfl (Or.inr ⟨rfl, rfl⟩) rfl (by have := fm_lt8 hw hr; omega) (by decide) ?_
  refine fr_i2l d_O_root_33 rfl ?_
  refine fr_lmul d_O_root_34 ?_
  refine fr_ladd d_O_root_35 ?_
  refine fr_lstore_n (L' := [(2, .long _), (4, .int _), (0, .ref _), (1, .int _)]) d_O_root_36 (by decide) rfl ?_
  refine fr_iinc (v := (nI (4 * r + 3))) (L' := [(4, .int _), (2, .long _), (0, .ref _), (1, .int _)]) d_O_root_37 rfl (fr_inc _) (by decide) rfl ?_
  refine fr_goto 7 d_O_root_40 rfl ?_
  refine fr_iload d_O_root_7 rfl ?_
  refine fr_iconst d_O_root_9 fr_i4 ?_
  refine fr_iload_n d_O_root_10 rfl ?_
  refine fr_imul d_O_root_11 ?_
  refine fr_teq (x' := nI (4 * r)) (pk_mul (4) (r)) ?_
  refine fr_iconst d_O_root_12 fr_i4 ?_
  refine fr_iadd d_O_root_13 ?_
  refine fr_teq (x' := nI (4 * r + 4)) (nI_add (4 * r) (4)) ?_
  refine fr_icmp_ge 43 d_O_root_14 rfl (fun h => absurd h (nI_ge (by omega) (by have := fm_lt8 hw hr; omega))) (fun _ => ?_)
  refine fr_lload_n d_O_root_17 rfl ?_
  refine fr_aload_n d_O_root_18 rfl ?_
  refine fr_getr (k' := 54) (r' := 0) d_O_root_19 fl_O_47 rfl rfl rfl (Or.inr ⟨rfl, rfl⟩) ?_
  refine fr_iload d_O_root_22 rfl ?_
  refine fr_iald (4 * r + 3) d_O_root_24 rfl rfl (Or.inr ⟨rfl, rfl⟩) rfl (by have := fm_lt8 hw hr; omega) (by decide) ?_
  refine fr_i2l d_O_root_25 rfl ?_
  refine fr_aload_n d_O_root_26 rfl ?_
  refine fr_getr (k' := 54) (r' := 0) d_O_root_27 fl_O_47 rfl rfl rfl (Or.inr ⟨rfl, rfl⟩) ?_
  refine fr_iload d_O_root_30 rfl ?_
  refine fr_iald (4 * r + 3) d_O_root_32 rfl rfl (Or.inr ⟨rfl, rfl⟩) rfl (by have := fm_lt8 hw hr; omega) (by decide) ?_
  refine fr_i2l d_O_root_33 rfl ?_
  refine fr_lmul d_O_root_34 ?_
  refine fr_ladd d_O_root_35 ?_
  refine fr_lstore_n (L' := [(2, .long _), (4, .int _), (0, .ref _), (1, .int _)]) d_O_root_36 (by decide) rfl ?_
  refine fr_iinc (v := (nI (4 * r + 4))) (L' := [(4, .int _), (2, .long _), (0, .ref _), (1, .int _)]) d_O_root_37 rfl (fr_inc _) (by decide) rfl ?_
  refine fr_goto 7 d_O_root_40 rfl ?_
  refine fr_iload d_O_root_7 rfl ?_
  refine fr_iconst d_O_root_9 fr_i4 ?_
  refine fr_iload_n d_O_root_10 rfl ?_
  refine fr_imul d_O_root_11 ?_
  refine fr_teq (x' := nI (4 * r)) (pk_mul (4) (r)) ?_
  refine fr_iconst d_O_root_12 fr_i4 ?_
  refine fr_iadd d_O_root_13 ?_
  refine fr_teq (x' := nI (4 * r + 4)) (nI_add (4 * r) (4)) ?_
  refine fr_icmp_ge 43 d_O_root_14 rfl (fun _ => ?_) (fun h => absurd (nI_le (by omega) (by have := fm_lt8 hw hr; omega)) h)
  refine fr_lconst d_O_root_43 fr_l0 ?_
  refine fr_lstore (L' := [(4, .long _), (2, .long _), (0, .ref _), (1, .int _)]) d_O_root_44 (by decide) rfl ?_
  refine fr_ldc2 lc_O_122 d_O_root_46 ?_
  refine fr_lstore (L' := [(6, .long _), (4, .long _), (2, .long _), (0, .ref _), (1, .int _)]) d_O_root_49 (by decide) rfl ?_
  refine fr_pick (L' := [(6, .long _), (4, .long _), (2, .long _)]) [0, 1, 2] rfl ?_
  refine fr_ind (fun K (a : Int64) => [(6, .long (fr_bl2 K)), (4, .long a), (2, .long ((((0 + (((I 54 0 (4 * r))).toInt64 * ((I 54 0 (4 * r))).toInt64)) + (((I 54 0 (4 * r + 1))).toInt64 * ((I 54 0 (4 * r + 1))).toInt64)) + (((I 54 0 (4 * r + 2))).toInt64 * ((I 54 0 (4 * r + 2))).toInt64)) + (((I 54 0 (4 * r + 3))).toInt64 * ((I 54 0 (4 * r + 3))).toInt64)))]) (fun K a => fr_rl ((((0 + (((I 54 0 (4 * r))).toInt64 * ((I 54 0 (4 * r))).toInt64)) + (((I 54 0 (4 * r + 1))).toInt64 * ((I 54 0 (4 * r + 1))).toInt64)) + (((I 54 0 (4 * r + 2))).toInt64 * ((I 54 0 (4 * r + 2))).toInt64)) + (((I 54 0 (4 * r + 3))).toInt64 * ((I 54 0 (4 * r + 3))).toInt64)) K a = fr_rl ((((0 + (((I 54 0 (4 * r))).toInt64 * ((I 54 0 (4 * r))).toInt64)) + (((I 54 0 (4 * r + 1))).toInt64 * ((I 54 0 (4 * r + 1))).toInt64)) + (((I 54 0 (4 * r + 2))).toInt64 * ((I 54 0 (4 * r + 2))).toInt64)) + (((I 54 0 (4 * r + 3))).toInt64 * ((I 54 0 (4 * r + 3))).toInt64)) 21 0) 21 0 rfl rfl (fun a ha => ?_) (fun K a hK ha ih => ?_)
  · skip
    refine fr_lload d_O_root_51 rfl ?_
    refine fr_lconst d_O_root_53 fr_l0 ?_
    refine fr_lcmp d_O_root_54 ?_
    refine fr_if_le 99 d_O_root_55 rfl (fun _ => ?_) (fun h => absurd (by decide) h)
    refine fr_lload d_O_root_99 rfl ?_
    refine fr_l2i d_O_root_101 rfl ?_
    exact fr_iret d_O_root_102 rfl (fr_nar_i _) (Nat.zero_le _) (Nat.zero_le _) ⟨by show (fr_rl ((((0 + (((I 54 0 (4 * r))).toInt64 * ((I 54 0 (4 * r))).toInt64)) + (((I 54 0 (4 * r + 1))).toInt64 * ((I 54 0 (4 * r + 1))).toInt64)) + (((I 54 0 (4 * r + 2))).toInt64 * ((I 54 0 (4 * r + 2))).toInt64)) + (((I 54 0 (4 * r + 3))).toInt64 * ((I 54 0 (4 * r + 3))).toInt64)) 21 0).toInt32 = _; rw [← ha]; rfl, rfl, rfl⟩
  · skip
    refine fr_lload d_O_root_51 rfl ?_
    refine fr_lconst d_O_root_53 fr_l0 ?_
    refine fr_lcmp d_O_root_54 ?_
    refine fr_if_le 99 d_O_root_55 rfl (fun h => absurd h (fr_bl2_pos hK)) (fun _ => ?_)
    refine fr_lload d_O_root_58 rfl ?_
    refine fr_lload d_O_root_60 rfl ?_
    refine fr_ladd d_O_root_62 ?_
    refine fr_lstore (L' := [(8, .long _), (6, .long _), (4, .long _), (2, .long _)]) d_O_root_63 (by decide) rfl ?_
    refine fr_ldc2 lc_O_124 d_O_root_65 ?_
    refine fr_lload d_O_root_68 rfl ?_
    refine fr_lmul d_O_root_70 ?_
    refine fr_lload d_O_root_71 rfl ?_
    refine fr_lmul d_O_root_73 ?_
    refine fr_lload_n d_O_root_74 rfl ?_
    refine fr_lcmp d_O_root_75 ?_
    refine fr_if_gt 84 d_O_root_76 rfl (fun h1 => ?_) (fun h1 => ?_)
    · skip
      refine fr_lload d_O_root_84 rfl ?_
      refine fr_lstore (L' := [(4, .long _), (8, .long _), (6, .long _), (2, .long _)]) d_O_root_86 (by decide) rfl ?_
      refine fr_lload d_O_root_88 rfl ?_
      refine fr_ldc2 lc_O_126 d_O_root_90 ?_
      refine fr_ldiv d_O_root_93 (by decide) ?_
      refine fr_lstore (L' := [(6, .long _), (4, .long _), (8, .long _), (2, .long _)]) d_O_root_94 (by decide) rfl ?_
      refine fr_goto 51 d_O_root_96 rfl ?_
      refine fr_pick (L' := [(6, .long _), (4, .long _), (2, .long _)]) [0, 1, 3] rfl ?_
      rw [fr_bl2_half hK]
      exact ih _ ((fr_rl_gt h1).symm.trans ha)
    · skip
      refine fr_lload d_O_root_79 rfl ?_
      refine fr_goto 86 d_O_root_81 rfl ?_
      refine fr_lstore (L' := [(4, .long _), (8, .long _), (6, .long _), (2, .long _)]) d_O_root_86 (by decide) rfl ?_
      refine fr_lload d_O_root_88 rfl ?_
      refine fr_ldc2 lc_O_126 d_O_root_90 ?_
      refine fr_ldiv d_O_root_93 (by decide) ?_
      refine fr_lstore (L' := [(6, .long _), (4, .long _), (8, .long _), (2, .long _)]) d_O_root_94 (by decide) rfl ?_
      refine fr_goto 51 d_O_root_96 rfl ?_
      refine fr_pick (L' := [(6, .long _), (4, .long _), (2, .long _)]) [0, 1, 3] rfl ?_
      rw [fr_bl2_half hK]
      exact ih _ ((fr_rl_le h1).symm.trans ha)
def f_O_effective (I : fr_I) (r : Nat) : Int32 :=
  (f_O_root I r)
set_option maxRecDepth 10000 in
theorem ct_O_effective (X : fr_X) (n : Nat) (r : Nat) (hr : r < n) (I : fr_I) (J : fr_J)  (hw : fr_mw n I) : fr_Ct X y_O_effective c_O_effective 2 (some .int) (fr_rm 1) [.ref (fr_ad X 20 0), .int (nI r)] (fr_Z0 X n) (fr_Z0 X n) I J (fr_pi (fun x I' J' => (f_O_effective I r) = x ∧ I = I' ∧ J = J')) := by
  refine fr_ct (by decide) rfl rfl (Nat.le_of_ble_eq_true rfl) rfl (fun E => ?_)
  refine fr_aload_n d_O_effective_0 rfl ?_
  refine fr_iload_n d_O_effective_1 rfl ?_
  refine fr_callVi fr_q6 d_O_effective_2 (ct_O_none X n _ _ _) mv_O_118 rfl rfl rfl (Or.inr ⟨rfl, rfl⟩) rfl rfl ⟨Nat.le_of_ble_eq_true rfl, Nat.le_of_ble_eq_true rfl⟩ ⟨rfl, rfl⟩ ⟨Nat.zero_le _, Nat.zero_le _⟩ (Nat.le_of_ble_eq_true rfl) (fun x I' J' hp1 => ?_)
  obtain ⟨rfl, rfl, rfl⟩ := hp1
  rw [fm_none hw hr]
  refine fr_if_eq 12 d_O_effective_5 rfl (fun _ => ?_) (fun h => absurd h (by decide))
  refine fr_aload_n d_O_effective_12 rfl ?_
  refine fr_iload_n d_O_effective_13 rfl ?_
  refine fr_callVi fr_q6 d_O_effective_14 (ct_O_root X n r hr _ _ hw) mv_O_139 rfl rfl rfl (Or.inr ⟨rfl, rfl⟩) rfl rfl ⟨Nat.le_of_ble_eq_true rfl, Nat.le_of_ble_eq_true rfl⟩ ⟨rfl, rfl⟩ ⟨Nat.zero_le _, Nat.zero_le _⟩ (Nat.le_of_ble_eq_true rfl) (fun x I' J' hp2 => ?_)
  obtain ⟨rfl, rfl, rfl⟩ := hp2
  exact fr_iret d_O_effective_17 rfl (fr_nar_i _) (Nat.zero_le _) (Nat.zero_le _) ⟨rfl, rfl, rfl⟩
def f_O_effective_no (I : fr_I) (p1 : Int32) : Int32 :=
  (-1)
set_option maxRecDepth 10000 in
theorem ct_O_effective_no (X : fr_X) (n : Nat) (I : fr_I) (J : fr_J) (p1 : Int32) (hx : f_O_none I p1 = 1) : fr_Ct X y_O_effective c_O_effective 2 (some .int) (fr_rm 1) [.ref (fr_ad X 20 0), .int p1] (fr_Z0 X n) (fr_Z0 X n) I J (fr_pi (fun x I' J' => (f_O_effective_no I p1) = x ∧ I = I' ∧ J = J')) := by
  refine fr_ct (by decide) rfl rfl (Nat.le_of_ble_eq_true rfl) rfl (fun E => ?_)
  refine fr_aload_n d_O_effective_0 rfl ?_
  refine fr_iload_n d_O_effective_1 rfl ?_
  refine fr_callVi fr_q6 d_O_effective_2 (ct_O_none X n _ _ _) mv_O_118 rfl rfl rfl (Or.inr ⟨rfl, rfl⟩) rfl rfl ⟨Nat.le_of_ble_eq_true rfl, Nat.le_of_ble_eq_true rfl⟩ ⟨rfl, rfl⟩ ⟨Nat.zero_le _, Nat.zero_le _⟩ (Nat.le_of_ble_eq_true rfl) (fun x I' J' hp1 => ?_)
  obtain ⟨rfl, rfl, rfl⟩ := hp1
  rw [hx]
  refine fr_if_eq 12 d_O_effective_5 rfl (fun h => absurd h (by decide)) (fun _ => ?_)
  refine fr_iconst d_O_effective_8 fr_im1 ?_
  refine fr_goto 17 d_O_effective_9 rfl ?_
  exact fr_iret d_O_effective_17 rfl (fr_nar_i _) (Nat.zero_le _) (Nat.zero_le _) ⟨rfl, rfl, rfl⟩

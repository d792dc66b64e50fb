def fs_O_flow (r : Nat) (I : fr_I) (i : Nat) (v : Int32) : Int32 :=
  if (fr_wy I r 8 0 1 (nI i)).1 = 0 then
    (v + 0)
  else
    if (fr_wy I r 8 0 1 (nI i)).2 = 0 then
      (v + 0)
    else
      (v + ((I 45 0 i) + (I 46 0 i)))
theorem fs_O_flow_eq (r : Nat) (I : fr_I) (i : Nat) (v : Int32) : fs_O_flow r I i v =
  if (fr_wy I r 8 0 1 (nI i)).1 = 0 then
    (v + 0)
  else
    if (fr_wy I r 8 0 1 (nI i)).2 = 0 then
      (v + 0)
    else
      (v + ((I 45 0 i) + (I 46 0 i))) := rfl
def f_O_flow (I : fr_I) (n : Nat) (r : Nat) : Int32 :=
  (fr_vt (fs_O_flow r I) 0 n)
set_option maxRecDepth 10000 in
theorem ct_O_flow (X : fr_X) (n : Nat) (r : Nat) (hr : r < n) (I : fr_I) (J : fr_J)  (hw : fr_mw n I) : fr_Ct X y_O_flow c_O_flow 8 (some .int) (fr_rm 0) [.ref (fr_ad X 20 0), .int (nI r)] (fr_Z0 X n) (fr_Z0 X n) I J (fr_pi (fun x I' J' => (f_O_flow I n r) = x ∧ I = I' ∧ J = J')) := by
  refine fr_ct (by decide) rfl rfl (Nat.le_of_ble_eq_true rfl) rfl (fun E => ?_)
  refine fr_iconst d_O_flow_0 fr_i0 ?_
  refine fr_istore_n (L' := [(2, .int _), (0, .ref _), (1, .int _)]) d_O_flow_1 (by decide) rfl ?_
  refine fr_iconst d_O_flow_2 fr_i0 ?_
  refine fr_istore_n (L' := [(3, .int _), (2, .int _), (0, .ref _), (1, .int _)]) d_O_flow_3 (by decide) rfl ?_
  refine fr_pick (L' := [(3, .int _), (2, .int _), (0, .ref _), (1, .int _)]) [0, 1, 2, 3] rfl ?_
  refine fr_loop (fun _ => I) (fun _ => J) (fun i => [(3, .int (nI i)), (2, .int (fr_vt (fs_O_flow r I) 0 i)), (0, .ref (fr_ad X 20 0)), (1, .int (nI r))]) n rfl rfl rfl ?_ (fun i hi ih => ?_)
  · skip
    refine fr_iload_n d_O_flow_4 rfl ?_
    refine fr_aload_n d_O_flow_5 rfl ?_
    refine fr_geti d_O_flow_6 fl_O_111 rfl rfl (Or.inr ⟨rfl, rfl⟩) ?_
    refine fr_icmp_ge 127 d_O_flow_9 rfl (fun _ => ?_) (fun h => absurd (by rw [fm_cnt hw]; exact nI_le (Nat.le_refl _) (by have := fm_n8 hw; omega)) h)
    refine fr_iload_n d_O_flow_127 rfl ?_
    exact fr_iret d_O_flow_128 rfl (fr_nar_i _) (Nat.zero_le _) (Nat.zero_le _) ⟨rfl, rfl, rfl⟩
  · skip
    refine fr_iload_n d_O_flow_4 rfl ?_
    refine fr_aload_n d_O_flow_5 rfl ?_
    refine fr_geti d_O_flow_6 fl_O_111 rfl rfl (Or.inr ⟨rfl, rfl⟩) ?_
    refine fr_icmp_ge 127 d_O_flow_9 rfl (fun h => absurd h (by rw [fm_cnt hw]; exact nI_ge hi (by have := fm_n8 hw; omega))) (fun _ => ?_)
    refine fr_iconst d_O_flow_12 fr_i0 ?_
    refine fr_istore (L' := [(4, .int _), (3, .int _), (2, .int _), (0, .ref _), (1, .int _)]) d_O_flow_13 (by decide) rfl ?_
    refine fr_iconst d_O_flow_15 fr_i1 ?_
    refine fr_istore (L' := [(5, .int _), (4, .int _), (3, .int _), (2, .int _), (0, .ref _), (1, .int _)]) d_O_flow_16 (by decide) rfl ?_
    refine fr_iload_n d_O_flow_18 rfl ?_
    refine fr_istore (L' := [(6, .int _), (5, .int _), (4, .int _), (3, .int _), (2, .int _), (0, .ref _), (1, .int _)]) d_O_flow_19 (by decide) rfl ?_
    refine fr_iconst d_O_flow_21 fr_i0 ?_
    refine fr_istore (L' := [(7, .int _), (6, .int _), (5, .int _), (4, .int _), (3, .int _), (2, .int _), (0, .ref _), (1, .int _)]) d_O_flow_22 (by decide) rfl ?_
    refine fr_cut 91 [(4, .int (fr_wy I r 8 0 1 (nI i)).1), (5, .int (fr_wy I r 8 0 1 (nI i)).2), (3, .int (nI i)), (2, .int (fr_vt (fs_O_flow r I) 0 i)), (1, .int (nI r)), (0, .ref (fr_ad X 20 0))] [] I J ?_ (fun H91 => ?_)
    · skip
      refine fr_iload_n d_O_flow_91 rfl ?_
      refine fr_iload d_O_flow_92 rfl ?_
      refine fr_if_eq 118 d_O_flow_94 rfl (fun h1 => ?_) (fun h1 => ?_)
      · skip
        refine fr_iconst d_O_flow_118 fr_i0 ?_
        refine fr_iadd d_O_flow_119 ?_
        refine fr_istore_n (L' := [(2, .int _), (4, .int _), (5, .int _), (3, .int _), (1, .int _), (0, .ref _)]) d_O_flow_120 (by decide) rfl ?_
        refine fr_iinc (v := (nI (i + 1))) (L' := [(3, .int _), (2, .int _), (4, .int _), (5, .int _), (1, .int _), (0, .ref _)]) d_O_flow_121 rfl (fr_inc _) (by decide) rfl ?_
        refine fr_goto 4 d_O_flow_124 rfl ?_
        refine fr_pick (L' := [(3, .int _), (2, .int _), (0, .ref _), (1, .int _)]) [0, 1, 5, 4] rfl ?_
        refine fr_Leq (L' := [(3, .int (nI (i + 1))), (2, .int (fr_vt (fs_O_flow r I) 0 (i + 1))), (0, .ref (fr_ad X 20 0)), (1, .int (nI r))]) (by rw [fr_vt_s, fs_O_flow_eq, if_pos h1]) ?_
        exact ih
      · skip
        refine fr_iload d_O_flow_97 rfl ?_
        refine fr_if_eq 118 d_O_flow_99 rfl (fun h2 => ?_) (fun h2 => ?_)
        · skip
          refine fr_iconst d_O_flow_118 fr_i0 ?_
          refine fr_iadd d_O_flow_119 ?_
          refine fr_istore_n (L' := [(2, .int _), (4, .int _), (5, .int _), (3, .int _), (1, .int _), (0, .ref _)]) d_O_flow_120 (by decide) rfl ?_
          refine fr_iinc (v := (nI (i + 1))) (L' := [(3, .int _), (2, .int _), (4, .int _), (5, .int _), (1, .int _), (0, .ref _)]) d_O_flow_121 rfl (fr_inc _) (by decide) rfl ?_
          refine fr_goto 4 d_O_flow_124 rfl ?_
          refine fr_pick (L' := [(3, .int _), (2, .int _), (0, .ref _), (1, .int _)]) [0, 1, 5, 4] rfl ?_
          refine fr_Leq (L' := [(3, .int (nI (i + 1))), (2, .int (fr_vt (fs_O_flow r I) 0 (i + 1))), (0, .ref (fr_ad X 20 0)), (1, .int (nI r))]) (by rw [fr_vt_s, fs_O_flow_eq, if_neg h1, if_pos h2]) ?_
          exact ih
        · skip
          refine fr_aload_n d_O_flow_102 rfl ?_
          refine fr_getr (k' := 45) (r' := 0) d_O_flow_103 fl_O_20 rfl rfl rfl (Or.inr ⟨rfl, rfl⟩) ?_
          refine fr_iload_n d_O_flow_106 rfl ?_
          refine fr_iald (i) d_O_flow_107 rfl rfl (Or.inr ⟨rfl, rfl⟩) rfl (fm_lt8 hw hi) (by decide) ?_
          refine fr_aload_n d_O_flow_108 rfl ?_
          refine fr_getr (k' := 46) (r' := 0) d_O_flow_109 fl_O_23 rfl rfl rfl (Or.inr ⟨rfl, rfl⟩) ?_
          refine fr_iload_n d_O_flow_112 rfl ?_
          refine fr_iald (i) d_O_flow_113 rfl rfl (Or.inr ⟨rfl, rfl⟩) rfl (fm_lt8 hw hi) (by decide) ?_
          refine fr_iadd d_O_flow_114 ?_
          refine fr_goto 119 d_O_flow_115 rfl ?_
          refine fr_iadd d_O_flow_119 ?_
          refine fr_istore_n (L' := [(2, .int _), (4, .int _), (5, .int _), (3, .int _), (1, .int _), (0, .ref _)]) d_O_flow_120 (by decide) rfl ?_
          refine fr_iinc (v := (nI (i + 1))) (L' := [(3, .int _), (2, .int _), (4, .int _), (5, .int _), (1, .int _), (0, .ref _)]) d_O_flow_121 rfl (fr_inc _) (by decide) rfl ?_
          refine fr_goto 4 d_O_flow_124 rfl ?_
          refine fr_pick (L' := [(3, .int _), (2, .int _), (0, .ref _), (1, .int _)]) [0, 1, 5, 4] rfl ?_
          refine fr_Leq (L' := [(3, .int (nI (i + 1))), (2, .int (fr_vt (fs_O_flow r I) 0 (i + 1))), (0, .ref (fr_ad X 20 0)), (1, .int (nI r))]) (by rw [fr_vt_s, fs_O_flow_eq, if_neg h1, if_neg h2]) ?_
          exact ih
    · skip
      refine fr_pick (L' := [(7, .int _), (6, .int _), (5, .int _), (4, .int _), (3, .int _), (2, .int _), (1, .int _), (0, .ref _)]) [0, 1, 2, 3, 4, 5, 7, 6] rfl ?_
      refine fr_ind (fun K (a : Int32 × Int32 × Int32) => [(7, .int (nI (8 - K))), (6, .int a.2.2), (5, .int a.2.1), (4, .int a.1), (3, .int (nI i)), (2, .int (fr_vt (fs_O_flow r I) 0 i)), (1, .int (nI r)), (0, .ref (fr_ad X 20 0))]) (fun K a => K ≤ 8 ∧ (a.2.2 < 0 ∨ ∃ q, q < n ∧ a.2.2 = nI q) ∧ fr_wy I r K a.1 a.2.1 a.2.2 = fr_wy I r 8 0 1 (nI i)) 8 (0, 1, nI i) rfl ⟨Nat.le_refl _, Or.inr ⟨i, hi, rfl⟩, rfl⟩ (fun a ha => ?_) (fun K a hK ha ih => ?_)
      · obtain ⟨u, f, x⟩ := a
        have hF : (u, f) = fr_wy I r 8 0 1 (nI i) := ha.2.2
        refine fr_iload d_O_flow_24 rfl ?_
        refine fr_bipush d_O_flow_26 fr_b8 ?_
        refine fr_icmp_ge 91 d_O_flow_28 rfl (fun _ => ?_) (fun h => absurd (by decide) h)
        refine fr_pick (L' := [(4, .int _), (5, .int _), (3, .int _), (2, .int _), (1, .int _), (0, .ref _)]) [3, 2, 4, 5, 6, 7] rfl ?_
        refine fr_Leq (L' := [(4, .int (fr_wy I r 8 0 1 (nI i)).1), (5, .int (fr_wy I r 8 0 1 (nI i)).2), (3, .int (nI i)), (2, .int (fr_vt (fs_O_flow r I) 0 i)), (1, .int (nI r)), (0, .ref (fr_ad X 20 0))]) (by rw [← hF]) ?_
        exact H91
      · obtain ⟨u, f, x⟩ := a
        have hk8 : 8 - (K + 1) < 8 := by omega
        refine fr_iload d_O_flow_24 rfl ?_
        refine fr_bipush d_O_flow_26 fr_b8 ?_
        refine fr_icmp_ge 91 d_O_flow_28 rfl (fun h => absurd h (nI_ge hk8 (by decide))) (fun _ => ?_)
        refine fr_iload d_O_flow_31 rfl ?_
        refine fr_if_lt 91 d_O_flow_33 rfl (fun h3 => ?_) (fun h3 => ?_)
        · skip
          have hF : (u, f) = fr_wy I r 8 0 1 (nI i) := (fr_wy_x h3).symm.trans ha.2.2
          refine fr_pick (L' := [(4, .int _), (5, .int _), (3, .int _), (2, .int _), (1, .int _), (0, .ref _)]) [3, 2, 4, 5, 6, 7] rfl ?_
          refine fr_Leq (L' := [(4, .int (fr_wy I r 8 0 1 (nI i)).1), (5, .int (fr_wy I r 8 0 1 (nI i)).2), (3, .int (nI i)), (2, .int (fr_vt (fs_O_flow r I) 0 i)), (1, .int (nI r)), (0, .ref (fr_ad X 20 0))]) (by rw [← hF]) ?_
          exact H91
        · skip
          obtain ⟨q, hq, rfl⟩ : ∃ q, q < n ∧ x = nI q := ha.2.1.resolve_left h3
          have hs := ha.2.2
          rw [fr_wy_s h3, nI_clamp (by have := fm_lt8 hw hq; omega)] at hs
          refine fr_iload d_O_flow_36 rfl ?_
          refine fr_if_ne 47 d_O_flow_38 rfl (fun h4 => ?_) (fun h4 => ?_)
          · skip
            refine fr_iconst d_O_flow_47 fr_i1 ?_
            refine fr_goto 52 d_O_flow_48 rfl ?_
            refine fr_istore (L' := [(4, .int _), (7, .int _), (6, .int _), (5, .int _), (3, .int _), (2, .int _), (1, .int _), (0, .ref _)]) d_O_flow_52 (by decide) rfl ?_
            refine fr_iload d_O_flow_54 rfl ?_
            refine fr_if_eq 73 d_O_flow_56 rfl (fun h5 => ?_) (fun h5 => ?_)
            · skip
              refine fr_iconst d_O_flow_73 fr_i0 ?_
              refine fr_istore (L' := [(5, .int _), (4, .int _), (7, .int _), (6, .int _), (3, .int _), (2, .int _), (1, .int _), (0, .ref _)]) d_O_flow_74 (by decide) rfl ?_
              refine fr_aload_n d_O_flow_76 rfl ?_
              refine fr_getr (k' := 42) (r' := 0) d_O_flow_77 fl_O_7 rfl rfl rfl (Or.inr ⟨rfl, rfl⟩) ?_
              refine fr_iload d_O_flow_80 rfl ?_
              refine fr_iald (q) d_O_flow_82 rfl rfl (Or.inr ⟨rfl, rfl⟩) rfl (fm_lt8 hw hq) (by decide) ?_
              refine fr_istore (L' := [(6, .int _), (5, .int _), (4, .int _), (7, .int _), (3, .int _), (2, .int _), (1, .int _), (0, .ref _)]) d_O_flow_83 (by decide) rfl ?_
              refine fr_iinc (v := (nI (8 - K))) (L' := [(7, .int _), (6, .int _), (5, .int _), (4, .int _), (3, .int _), (2, .int _), (1, .int _), (0, .ref _)]) d_O_flow_85 rfl ((fr_inc _).trans (congrArg nI (by omega))) (by decide) rfl ?_
              refine fr_goto 24 d_O_flow_88 rfl ?_
              refine fr_pick (L' := [(7, .int _), (6, .int _), (5, .int _), (4, .int _), (3, .int _), (2, .int _), (1, .int _), (0, .ref _)]) [0, 1, 2, 3, 4, 5, 6, 7] rfl ?_
              rw [if_neg h4, if_pos h5] at hs
              exact ih (1, 0, I 42 0 q) ⟨by omega, fm_up hw hq, hs⟩
            · skip
              refine fr_aload_n d_O_flow_59 rfl ?_
              refine fr_getr (k' := 43) (r' := 0) d_O_flow_60 fl_O_13 rfl rfl rfl (Or.inr ⟨rfl, rfl⟩) ?_
              refine fr_iload d_O_flow_63 rfl ?_
              refine fr_zald (q) d_O_flow_65 rfl rfl (Or.inr ⟨rfl, rfl⟩) rfl (fm_lt8 hw hq) (by decide) ?_
              refine fr_if_eq 73 d_O_flow_66 rfl (fun h6 => ?_) (fun h6 => ?_)
              · skip
                refine fr_iconst d_O_flow_73 fr_i0 ?_
                refine fr_istore (L' := [(5, .int _), (4, .int _), (7, .int _), (6, .int _), (3, .int _), (2, .int _), (1, .int _), (0, .ref _)]) d_O_flow_74 (by decide) rfl ?_
                refine fr_aload_n d_O_flow_76 rfl ?_
                refine fr_getr (k' := 42) (r' := 0) d_O_flow_77 fl_O_7 rfl rfl rfl (Or.inr ⟨rfl, rfl⟩) ?_
                refine fr_iload d_O_flow_80 rfl ?_
                refine fr_iald (q) d_O_flow_82 rfl rfl (Or.inr ⟨rfl, rfl⟩) rfl (fm_lt8 hw hq) (by decide) ?_
                refine fr_istore (L' := [(6, .int _), (5, .int _), (4, .int _), (7, .int _), (3, .int _), (2, .int _), (1, .int _), (0, .ref _)]) d_O_flow_83 (by decide) rfl ?_
                refine fr_iinc (v := (nI (8 - K))) (L' := [(7, .int _), (6, .int _), (5, .int _), (4, .int _), (3, .int _), (2, .int _), (1, .int _), (0, .ref _)]) d_O_flow_85 rfl ((fr_inc _).trans (congrArg nI (by omega))) (by decide) rfl ?_
                refine fr_goto 24 d_O_flow_88 rfl ?_
                refine fr_pick (L' := [(7, .int _), (6, .int _), (5, .int _), (4, .int _), (3, .int _), (2, .int _), (1, .int _), (0, .ref _)]) [0, 1, 2, 3, 4, 5, 6, 7] rfl ?_
                rw [if_neg h4, if_neg h5, if_pos h6] at hs
                exact ih (1, 0, I 42 0 q) ⟨by omega, fm_up hw hq, hs⟩
              · skip
                refine fr_iconst d_O_flow_69 fr_i1 ?_
                refine fr_goto 74 d_O_flow_70 rfl ?_
                refine fr_istore (L' := [(5, .int _), (4, .int _), (7, .int _), (6, .int _), (3, .int _), (2, .int _), (1, .int _), (0, .ref _)]) d_O_flow_74 (by decide) rfl ?_
                refine fr_aload_n d_O_flow_76 rfl ?_
                refine fr_getr (k' := 42) (r' := 0) d_O_flow_77 fl_O_7 rfl rfl rfl (Or.inr ⟨rfl, rfl⟩) ?_
                refine fr_iload d_O_flow_80 rfl ?_
                refine fr_iald (q) d_O_flow_82 rfl rfl (Or.inr ⟨rfl, rfl⟩) rfl (fm_lt8 hw hq) (by decide) ?_
                refine fr_istore (L' := [(6, .int _), (5, .int _), (4, .int _), (7, .int _), (3, .int _), (2, .int _), (1, .int _), (0, .ref _)]) d_O_flow_83 (by decide) rfl ?_
                refine fr_iinc (v := (nI (8 - K))) (L' := [(7, .int _), (6, .int _), (5, .int _), (4, .int _), (3, .int _), (2, .int _), (1, .int _), (0, .ref _)]) d_O_flow_85 rfl ((fr_inc _).trans (congrArg nI (by omega))) (by decide) rfl ?_
                refine fr_goto 24 d_O_flow_88 rfl ?_
                refine fr_pick (L' := [(7, .int _), (6, .int _), (5, .int _), (4, .int _), (3, .int _), (2, .int _), (1, .int _), (0, .ref _)]) [0, 1, 2, 3, 4, 5, 6, 7] rfl ?_
                rw [if_neg h4, if_neg h5, if_neg h6] at hs
                exact ih (1, 1, I 42 0 q) ⟨by omega, fm_up hw hq, hs⟩
          · skip
            refine fr_iload d_O_flow_41 rfl ?_
            refine fr_iload_n d_O_flow_43 rfl ?_
            refine fr_icmp_ne 51 d_O_flow_44 rfl (fun h7 => ?_) (fun h7 => ?_)
            · skip
              refine fr_iconst d_O_flow_51 fr_i0 ?_
              refine fr_istore (L' := [(4, .int _), (7, .int _), (6, .int _), (5, .int _), (3, .int _), (2, .int _), (1, .int _), (0, .ref _)]) d_O_flow_52 (by decide) rfl ?_
              refine fr_iload d_O_flow_54 rfl ?_
              refine fr_if_eq 73 d_O_flow_56 rfl (fun h8 => ?_) (fun h8 => ?_)
              · skip
                refine fr_iconst d_O_flow_73 fr_i0 ?_
                refine fr_istore (L' := [(5, .int _), (4, .int _), (7, .int _), (6, .int _), (3, .int _), (2, .int _), (1, .int _), (0, .ref _)]) d_O_flow_74 (by decide) rfl ?_
                refine fr_aload_n d_O_flow_76 rfl ?_
                refine fr_getr (k' := 42) (r' := 0) d_O_flow_77 fl_O_7 rfl rfl rfl (Or.inr ⟨rfl, rfl⟩) ?_
                refine fr_iload d_O_flow_80 rfl ?_
                refine fr_iald (q) d_O_flow_82 rfl rfl (Or.inr ⟨rfl, rfl⟩) rfl (fm_lt8 hw hq) (by decide) ?_
                refine fr_istore (L' := [(6, .int _), (5, .int _), (4, .int _), (7, .int _), (3, .int _), (2, .int _), (1, .int _), (0, .ref _)]) d_O_flow_83 (by decide) rfl ?_
                refine fr_iinc (v := (nI (8 - K))) (L' := [(7, .int _), (6, .int _), (5, .int _), (4, .int _), (3, .int _), (2, .int _), (1, .int _), (0, .ref _)]) d_O_flow_85 rfl ((fr_inc _).trans (congrArg nI (by omega))) (by decide) rfl ?_
                refine fr_goto 24 d_O_flow_88 rfl ?_
                refine fr_pick (L' := [(7, .int _), (6, .int _), (5, .int _), (4, .int _), (3, .int _), (2, .int _), (1, .int _), (0, .ref _)]) [0, 1, 2, 3, 4, 5, 6, 7] rfl ?_
                rw [if_pos h4, if_neg h7, if_pos h8] at hs
                exact ih (0, 0, I 42 0 q) ⟨by omega, fm_up hw hq, hs⟩
              · skip
                refine fr_aload_n d_O_flow_59 rfl ?_
                refine fr_getr (k' := 43) (r' := 0) d_O_flow_60 fl_O_13 rfl rfl rfl (Or.inr ⟨rfl, rfl⟩) ?_
                refine fr_iload d_O_flow_63 rfl ?_
                refine fr_zald (q) d_O_flow_65 rfl rfl (Or.inr ⟨rfl, rfl⟩) rfl (fm_lt8 hw hq) (by decide) ?_
                refine fr_if_eq 73 d_O_flow_66 rfl (fun h9 => ?_) (fun h9 => ?_)
                · skip
                  refine fr_iconst d_O_flow_73 fr_i0 ?_
                  refine fr_istore (L' := [(5, .int _), (4, .int _), (7, .int _), (6, .int _), (3, .int _), (2, .int _), (1, .int _), (0, .ref _)]) d_O_flow_74 (by decide) rfl ?_
                  refine fr_aload_n d_O_flow_76 rfl ?_
                  refine fr_getr (k' := 42) (r' := 0) d_O_flow_77 fl_O_7 rfl rfl rfl (Or.inr ⟨rfl, rfl⟩) ?_
                  refine fr_iload d_O_flow_80 rfl ?_
                  refine fr_iald (q) d_O_flow_82 rfl rfl (Or.inr ⟨rfl, rfl⟩) rfl (fm_lt8 hw hq) (by decide) ?_
                  refine fr_istore (L' := [(6, .int _), (5, .int _), (4, .int _), (7, .int _), (3, .int _), (2, .int _), (1, .int _), (0, .ref _)]) d_O_flow_83 (by decide) rfl ?_
                  refine fr_iinc (v := (nI (8 - K))) (L' := [(7, .int _), (6, .int _), (5, .int _), (4, .int _), (3, .int _), (2, .int _), (1, .int _), (0, .ref _)]) d_O_flow_85 rfl ((fr_inc _).trans (congrArg nI (by omega))) (by decide) rfl ?_
                  refine fr_goto 24 d_O_flow_88 rfl ?_
                  refine fr_pick (L' := [(7, .int _), (6, .int _), (5, .int _), (4, .int _), (3, .int _), (2, .int _), (1, .int _), (0, .ref _)]) [0, 1, 2, 3, 4, 5, 6, 7] rfl ?_
                  rw [if_pos h4, if_neg h7, if_neg h8, if_pos h9] at hs
                  exact ih (0, 0, I 42 0 q) ⟨by omega, fm_up hw hq, hs⟩
                · skip
                  refine fr_iconst d_O_flow_69 fr_i1 ?_
                  refine fr_goto 74 d_O_flow_70 rfl ?_
                  refine fr_istore (L' := [(5, .int _), (4, .int _), (7, .int _), (6, .int _), (3, .int _), (2, .int _), (1, .int _), (0, .ref _)]) d_O_flow_74 (by decide) rfl ?_
                  refine fr_aload_n d_O_flow_76 rfl ?_
                  refine fr_getr (k' := 42) (r' := 0) d_O_flow_77 fl_O_7 rfl rfl rfl (Or.inr ⟨rfl, rfl⟩) ?_
                  refine fr_iload d_O_flow_80 rfl ?_
                  refine fr_iald (q) d_O_flow_82 rfl rfl (Or.inr ⟨rfl, rfl⟩) rfl (fm_lt8 hw hq) (by decide) ?_
                  refine fr_istore (L' := [(6, .int _), (5, .int _), (4, .int _), (7, .int _), (3, .int _), (2, .int _), (1, .int _), (0, .ref _)]) d_O_flow_83 (by decide) rfl ?_
                  refine fr_iinc (v := (nI (8 - K))) (L' := [(7, .int _), (6, .int _), (5, .int _), (4, .int _), (3, .int _), (2, .int _), (1, .int _), (0, .ref _)]) d_O_flow_85 rfl ((fr_inc _).trans (congrArg nI (by omega))) (by decide) rfl ?_
                  refine fr_goto 24 d_O_flow_88 rfl ?_
                  refine fr_pick (L' := [(7, .int _), (6, .int _), (5, .int _), (4, .int _), (3, .int _), (2, .int _), (1, .int _), (0, .ref _)]) [0, 1, 2, 3, 4, 5, 6, 7] rfl ?_
                  rw [if_pos h4, if_neg h7, if_neg h8, if_neg h9] at hs
                  exact ih (0, 1, I 42 0 q) ⟨by omega, fm_up hw hq, hs⟩
            · skip
              refine fr_iconst d_O_flow_47 fr_i1 ?_
              refine fr_goto 52 d_O_flow_48 rfl ?_
              refine fr_istore (L' := [(4, .int _), (7, .int _), (6, .int _), (5, .int _), (3, .int _), (2, .int _), (1, .int _), (0, .ref _)]) d_O_flow_52 (by decide) rfl ?_
              refine fr_iload d_O_flow_54 rfl ?_
              refine fr_if_eq 73 d_O_flow_56 rfl (fun h10 => ?_) (fun h10 => ?_)
              · skip
                refine fr_iconst d_O_flow_73 fr_i0 ?_
                refine fr_istore (L' := [(5, .int _), (4, .int _), (7, .int _), (6, .int _), (3, .int _), (2, .int _), (1, .int _), (0, .ref _)]) d_O_flow_74 (by decide) rfl ?_
                refine fr_aload_n d_O_flow_76 rfl ?_
                refine fr_getr (k' := 42) (r' := 0) d_O_flow_77 fl_O_7 rfl rfl rfl (Or.inr ⟨rfl, rfl⟩) ?_
                refine fr_iload d_O_flow_80 rfl ?_
                refine fr_iald (q) d_O_flow_82 rfl rfl (Or.inr ⟨rfl, rfl⟩) rfl (fm_lt8 hw hq) (by decide) ?_
                refine fr_istore (L' := [(6, .int _), (5, .int _), (4, .int _), (7, .int _), (3, .int _), (2, .int _), (1, .int _), (0, .ref _)]) d_O_flow_83 (by decide) rfl ?_
                refine fr_iinc (v := (nI (8 - K))) (L' := [(7, .int _), (6, .int _), (5, .int _), (4, .int _), (3, .int _), (2, .int _), (1, .int _), (0, .ref _)]) d_O_flow_85 rfl ((fr_inc _).trans (congrArg nI (by omega))) (by decide) rfl ?_
                refine fr_goto 24 d_O_flow_88 rfl ?_
                refine fr_pick (L' := [(7, .int _), (6, .int _), (5, .int _), (4, .int _), (3, .int _), (2, .int _), (1, .int _), (0, .ref _)]) [0, 1, 2, 3, 4, 5, 6, 7] rfl ?_
                rw [if_pos h4, if_pos h7, if_pos h10] at hs
                exact ih (1, 0, I 42 0 q) ⟨by omega, fm_up hw hq, hs⟩
              · skip
                refine fr_aload_n d_O_flow_59 rfl ?_
                refine fr_getr (k' := 43) (r' := 0) d_O_flow_60 fl_O_13 rfl rfl rfl (Or.inr ⟨rfl, rfl⟩) ?_
                refine fr_iload d_O_flow_63 rfl ?_
                refine fr_zald (q) d_O_flow_65 rfl rfl (Or.inr ⟨rfl, rfl⟩) rfl (fm_lt8 hw hq) (by decide) ?_
                refine fr_if_eq 73 d_O_flow_66 rfl (fun h11 => ?_) (fun h11 => ?_)
                · skip
                  refine fr_iconst d_O_flow_73 fr_i0 ?_
                  refine fr_istore (L' := [(5, .int _), (4, .int _), (7, .int _), (6, .int _), (3, .int _), (2, .int _), (1, .int _), (0, .ref _)]) d_O_flow_74 (by decide) rfl ?_
                  refine fr_aload_n d_O_flow_76 rfl ?_
                  refine fr_getr (k' := 42) (r' := 0) d_O_flow_77 fl_O_7 rfl rfl rfl (Or.inr ⟨rfl, rfl⟩) ?_
                  refine fr_iload d_O_flow_80 rfl ?_
                  refine fr_iald (q) d_O_flow_82 rfl rfl (Or.inr ⟨rfl, rfl⟩) rfl (fm_lt8 hw hq) (by decide) ?_
                  refine fr_istore (L' := [(6, .int _), (5, .int _), (4, .int _), (7, .int _), (3, .int _), (2, .int _), (1, .int _), (0, .ref _)]) d_O_flow_83 (by decide) rfl ?_
                  refine fr_iinc (v := (nI (8 - K))) (L' := [(7, .int _), (6, .int _), (5, .int _), (4, .int _), (3, .int _), (2, .int _), (1, .int _), (0, .ref _)]) d_O_flow_85 rfl ((fr_inc _).trans (congrArg nI (by omega))) (by decide) rfl ?_
                  refine fr_goto 24 d_O_flow_88 rfl ?_
                  refine fr_pick (L' := [(7, .int _), (6, .int _), (5, .int _), (4, .int _), (3, .int _), (2, .int _), (1, .int _), (0, .ref _)]) [0, 1, 2, 3, 4, 5, 6, 7] rfl ?_
                  rw [if_pos h4, if_pos h7, if_neg h10, if_pos h11] at hs
                  exact ih (1, 0, I 42 0 q) ⟨by omega, fm_up hw hq, hs⟩
                · skip
                  refine fr_iconst d_O_flow_69 fr_i1 ?_
                  refine fr_goto 74 d_O_flow_70 rfl ?_
                  refine fr_istore (L' := [(5, .int _), (4, .int _), (7, .int _), (6, .int _), (3, .int _), (2, .int _), (1, .int _), (0, .ref _)]) d_O_flow_74 (by decide) rfl ?_
                  refine fr_aload_n d_O_flow_76 rfl ?_
                  refine fr_getr (k' := 42) (r' := 0) d_O_flow_77 fl_O_7 rfl rfl rfl (Or.inr ⟨rfl, rfl⟩) ?_
                  refine fr_iload d_O_flow_80 rfl ?_
                  refine fr_iald (q) d_O_flow_82 rfl rfl (Or.inr ⟨rfl, rfl⟩) rfl (fm_lt8 hw hq) (by decide) ?_
                  refine fr_istore (L' := [(6, .int _), (5, .int _), (4, .int _), (7, .int _), (3, .int _), (2, .int _), (1, .int _), (0, .ref _)]) d_O_flow_83 (by decide) rfl ?_
                  refine fr_iinc (v := (nI (8 - K))) (L' := [(7, .int _), (6, .int _), (5, .int _), (4, .int _), (3, .int _), (2, .int _), (1, .int _), (0, .ref _)]) d_O_flow_85 rfl ((fr_inc _).trans (congrArg nI (by omega))) (by decide) rfl ?_
                  refine fr_goto 24 d_O_flow_88 rfl ?_
                  refine fr_pick (L' := [(7, .int _), (6, .int _), (5, .int _), (4, .int _), (3, .int _), (2, .int _), (1, .int _), (0, .ref _)]) [0, 1, 2, 3, 4, 5, 6, 7] rfl ?_
                  rw [if_pos h4, if_pos h7, if_neg h10, if_neg h11] at hs
                  exact ih (1, 1, I 42 0 q) ⟨by omega, fm_up hw hq, hs⟩
def f_O_current (I : fr_I) (n : Nat) (r : Nat) : Int32 :=
  (f_O_flow I n r)
set_option maxRecDepth 10000 in
theorem ct_O_current (X : fr_X) (n : Nat) (r : Nat) (hr : r < n) (I : fr_I) (J : fr_J)  (hw : fr_mw n I) : fr_Ct X y_O_current c_O_current 2 (some .int) (fr_rm 1) [.ref (fr_ad X 20 0), .int (nI r)] (fr_Z0 X n) (fr_Z0 X n) I J (fr_pi (fun x I' J' => (f_O_current I n r) = x ∧ I = I' ∧ J = J')) := by
  refine fr_ct (by decide) rfl rfl (Nat.le_of_ble_eq_true rfl) rfl (fun E => ?_)
  refine fr_aload_n d_O_current_0 rfl ?_
  refine fr_iload_n d_O_current_1 rfl ?_
  refine fr_callVi fr_q6 d_O_current_2 (ct_O_none X n _ _ _) mv_O_118 rfl rfl rfl (Or.inr ⟨rfl, rfl⟩) rfl rfl ⟨Nat.le_of_ble_eq_true rfl, Nat.le_of_ble_eq_true rfl⟩ ⟨rfl, rfl⟩ ⟨Nat.zero_le _, Nat.zero_le _⟩ (Nat.le_of_ble_eq_true rfl) (fun x I' J' hp1 => ?_)
  obtain ⟨rfl, rfl, rfl⟩ := hp1
  rw [fm_none hw hr]
  refine fr_if_eq 12 d_O_current_5 rfl (fun _ => ?_) (fun h => absurd h (by decide))
  refine fr_aload_n d_O_current_12 rfl ?_
  refine fr_iload_n d_O_current_13 rfl ?_
  refine fr_callVi fr_q6 d_O_current_14 (ct_O_flow X n r hr _ _ hw) mv_O_135 rfl rfl rfl (Or.inr ⟨rfl, rfl⟩) rfl rfl ⟨Nat.le_of_ble_eq_true rfl, Nat.le_of_ble_eq_true rfl⟩ ⟨rfl, rfl⟩ ⟨Nat.zero_le _, Nat.zero_le _⟩ (Nat.le_of_ble_eq_true rfl) (fun x I' J' hp2 => ?_)
  obtain ⟨rfl, rfl, rfl⟩ := hp2
  exact fr_iret d_O_current_17 rfl (fr_nar_i _) (Nat.zero_le _) (Nat.zero_le _) ⟨rfl, rfl, rfl⟩
def f_O_current_no (I : fr_I) (p1 : Int32) : Int32 :=
  (-1)
set_option maxRecDepth 10000 in
theorem ct_O_current_no (X : fr_X) (n : Nat) (I : fr_I) (J : fr_J) (p1 : Int32) (hx : f_O_none I p1 = 1) : fr_Ct X y_O_current c_O_current 2 (some .int) (fr_rm 1) [.ref (fr_ad X 20 0), .int p1] (fr_Z0 X n) (fr_Z0 X n) I J (fr_pi (fun x I' J' => (f_O_current_no I p1) = x ∧ I = I' ∧ J = J')) := by
  refine fr_ct (by decide) rfl rfl (Nat.le_of_ble_eq_true rfl) rfl (fun E => ?_)
  refine fr_aload_n d_O_current_0 rfl ?_
  refine fr_iload_n d_O_current_1 rfl ?_
  refine fr_callVi fr_q6 d_O_current_2 (ct_O_none X n _ _ _) mv_O_118 rfl rfl rfl (Or.inr ⟨rfl, rfl⟩) rfl rfl ⟨Nat.le_of_ble_eq_true rfl, Nat.le_of_ble_eq_true rfl⟩ ⟨rfl, rfl⟩ ⟨Nat.zero_le _, Nat.zero_le _⟩ (Nat.le_of_ble_eq_true rfl) (fun x I' J' hp1 => ?_)
  obtain ⟨rfl, rfl, rfl⟩ := hp1
  rw [hx]
  refine fr_if_eq 12 d_O_current_5 rfl (fun h => absurd h (by decide)) (fun _ => ?_)
  refine fr_iconst d_O_current_8 fr_im1 ?_
  refine fr_goto 17 d_O_current_9 rfl ?_
  exact fr_iret d_O_current_17 rfl (fr_nar_i _) (Nat.zero_le _) (Nat.zero_le _) ⟨rfl, rfl, rfl⟩

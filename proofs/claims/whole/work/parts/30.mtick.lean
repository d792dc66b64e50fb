def fb_O_tick1  (I : fr_I) (i : Nat) : fr_I :=
  (f_O_receive I i)
theorem fb_O_tick1_eq  (I : fr_I) (i : Nat) : fb_O_tick1  I i =
  (f_O_receive I i) := rfl
theorem fw_fb_O_tick1 {n : Nat} {I : fr_I} {i : Nat} (hi : i < n) (hw : fr_mw n I) : fr_mw n (fb_O_tick1  I i) := by
  unfold fb_O_tick1
  exact (fw_O_receive hi hw)
theorem fc_fb_O_tick1 {P : fr_I → Prop} (hP : fr_ost P) {I : fr_I} {i : Nat} (h : P I) : P (fb_O_tick1  I i) := by
  unfold fb_O_tick1
  exact (fc_O_receive hP h)
def fb_O_tick2  (I : fr_I) (i : Nat) : fr_I :=
  (f_O_breaker I i)
theorem fb_O_tick2_eq  (I : fr_I) (i : Nat) : fb_O_tick2  I i =
  (f_O_breaker I i) := rfl
theorem fw_fb_O_tick2 {n : Nat} {I : fr_I} {i : Nat} (hw : fr_mw n I) : fr_mw n (fb_O_tick2  I i) := by
  unfold fb_O_tick2
  exact (fw_O_breaker hw)
theorem fc_fb_O_tick2 {P : fr_I → Prop} (hP : fr_ost P) {I : fr_I} {i : Nat} (h : P I) : P (fb_O_tick2  I i) := by
  unfold fb_O_tick2
  exact (fc_O_breaker hP h)
def fb_O_tick3 (n : Nat) (s : fr_I × fr_J) (i : Nat) : fr_I × fr_J :=
  ((f_O_measure (s.1) (s.2) n i).1, (f_O_measure (s.1) (s.2) n i).2)
theorem fb_O_tick3_eq (n : Nat) (s : fr_I × fr_J) (i : Nat) : fb_O_tick3 n s i =
  ((f_O_measure (s.1) (s.2) n i).1, (f_O_measure (s.1) (s.2) n i).2) := rfl
theorem fw_fb_O_tick3 {n : Nat} {s : fr_I × fr_J} {i : Nat} (hi : i < n) (hu : fr_nn (s.1 68 0 i) 15) (hw : fr_mw n s.1) : fr_mw n (fb_O_tick3 n s i).1 := by
  unfold fb_O_tick3
  refine fw_pr (P := fr_mw n) ?_
  exact (fw_O_measure hu hw)
theorem fc_fb_O_tick3 {P : fr_I → Prop} (hP : fr_ost P) {n : Nat} {s : fr_I × fr_J} {i : Nat} (h : P s.1) : P (fb_O_tick3 n s i).1 := by
  unfold fb_O_tick3
  refine fw_pr (P := P) ?_
  exact (fc_O_measure hP h)
theorem fcj_fb_O_tick3 {P : fr_J → Prop} (hP : fr_ostJ P) {n : Nat} {s : fr_I × fr_J} {i : Nat} (h : P s.2) : P (fb_O_tick3 n s i).2 := by
  unfold fb_O_tick3
  refine fw_pr2 (P := P) ?_
  exact (fcj_O_measure hP h)
def fb_O_tick4 (n : Nat) (J : fr_J) (I : fr_I) (i : Nat) : fr_I :=
  (f_O_trip I J n i)
theorem fb_O_tick4_eq (n : Nat) (J : fr_J) (I : fr_I) (i : Nat) : fb_O_tick4 n J I i =
  (f_O_trip I J n i) := rfl
theorem fw_fb_O_tick4 {n : Nat} {J : fr_J} {I : fr_I} {i : Nat} (hw : fr_mw n I) : fr_mw n (fb_O_tick4 n J I i) := by
  unfold fb_O_tick4
  exact (fw_O_trip hw)
theorem fc_fb_O_tick4 {P : fr_I → Prop} (hP : fr_ost P) {n : Nat} {J : fr_J} {I : fr_I} {i : Nat} (h : P I) : P (fb_O_tick4 n J I i) := by
  unfold fb_O_tick4
  exact (fc_O_trip hP h)
def fb_O_tick5  (I : fr_I) (i : Nat) : fr_I :=
  (f_O_fail I i)
theorem fb_O_tick5_eq  (I : fr_I) (i : Nat) : fb_O_tick5  I i =
  (f_O_fail I i) := rfl
theorem fw_fb_O_tick5 {n : Nat} {I : fr_I} {i : Nat} (hw : fr_mw n I) : fr_mw n (fb_O_tick5  I i) := by
  unfold fb_O_tick5
  exact (fw_O_fail hw)
theorem fc_fb_O_tick5 {P : fr_I → Prop} (hP : fr_ost P) {I : fr_I} {i : Nat} (h : P I) : P (fb_O_tick5  I i) := by
  unfold fb_O_tick5
  exact (fc_O_fail hP h)
/-- the reference's state when it begins to measure -/
def g_O_tick (I : fr_I) (n : Nat) : fr_I := fr_it fb_O_tick2 (fr_it fb_O_tick1 (fr_ui I 20 0 1 ((I 20 0 1) + 1)) n) n
/-- there is place for a message more at each relay, when it measures -/
def fr_tp (n : Nat) (I : fr_I) (J : fr_J) : Prop := ∀ i, i < n → fr_nn ((fr_jt (fb_O_tick3 n) (g_O_tick I n, J) i).1 68 0 i) 15
def f_O_tick (I : fr_I) (J : fr_J) (n : Nat) : fr_I × fr_J :=
  if (((fr_it (fb_O_tick5 ) ((fr_it (fb_O_tick4 n ((fr_jt (fb_O_tick3 n) ((fr_it (fb_O_tick2 ) ((fr_it (fb_O_tick1 ) ((fr_ui I 20 0 1 ((I 20 0 1) + 1))) n)) n), J) n).2)) ((fr_jt (fb_O_tick3 n) ((fr_it (fb_O_tick2 ) ((fr_it (fb_O_tick1 ) ((fr_ui I 20 0 1 ((I 20 0 1) + 1))) n)) n), J) n).1) n)) n) 20 0 34) + 2) ≤ ((fr_it (fb_O_tick5 ) ((fr_it (fb_O_tick4 n ((fr_jt (fb_O_tick3 n) ((fr_it (fb_O_tick2 ) ((fr_it (fb_O_tick1 ) ((fr_ui I 20 0 1 ((I 20 0 1) + 1))) n)) n), J) n).2)) ((fr_jt (fb_O_tick3 n) ((fr_it (fb_O_tick2 ) ((fr_it (fb_O_tick1 ) ((fr_ui I 20 0 1 ((I 20 0 1) + 1))) n)) n), J) n).1) n)) n) 20 0 33) then
    ((fr_ui (fr_it (fb_O_tick5 ) ((fr_it (fb_O_tick4 n ((fr_jt (fb_O_tick3 n) ((fr_it (fb_O_tick2 ) ((fr_it (fb_O_tick1 ) ((fr_ui I 20 0 1 ((I 20 0 1) + 1))) n)) n), J) n).2)) ((fr_jt (fb_O_tick3 n) ((fr_it (fb_O_tick2 ) ((fr_it (fb_O_tick1 ) ((fr_ui I 20 0 1 ((I 20 0 1) + 1))) n)) n), J) n).1) n)) n) 20 0 34 (((fr_it (fb_O_tick5 ) ((fr_it (fb_O_tick4 n ((fr_jt (fb_O_tick3 n) ((fr_it (fb_O_tick2 ) ((fr_it (fb_O_tick1 ) ((fr_ui I 20 0 1 ((I 20 0 1) + 1))) n)) n), J) n).2)) ((fr_jt (fb_O_tick3 n) ((fr_it (fb_O_tick2 ) ((fr_it (fb_O_tick1 ) ((fr_ui I 20 0 1 ((I 20 0 1) + 1))) n)) n), J) n).1) n)) n) 20 0 34) + 2)), (fr_jt (fb_O_tick3 n) ((fr_it (fb_O_tick2 ) ((fr_it (fb_O_tick1 ) ((fr_ui I 20 0 1 ((I 20 0 1) + 1))) n)) n), J) n).2)
  else
    ((fr_ui (fr_it (fb_O_tick5 ) ((fr_it (fb_O_tick4 n ((fr_jt (fb_O_tick3 n) ((fr_it (fb_O_tick2 ) ((fr_it (fb_O_tick1 ) ((fr_ui I 20 0 1 ((I 20 0 1) + 1))) n)) n), J) n).2)) ((fr_jt (fb_O_tick3 n) ((fr_it (fb_O_tick2 ) ((fr_it (fb_O_tick1 ) ((fr_ui I 20 0 1 ((I 20 0 1) + 1))) n)) n), J) n).1) n)) n) 20 0 34 ((fr_it (fb_O_tick5 ) ((fr_it (fb_O_tick4 n ((fr_jt (fb_O_tick3 n) ((fr_it (fb_O_tick2 ) ((fr_it (fb_O_tick1 ) ((fr_ui I 20 0 1 ((I 20 0 1) + 1))) n)) n), J) n).2)) ((fr_jt (fb_O_tick3 n) ((fr_it (fb_O_tick2 ) ((fr_it (fb_O_tick1 ) ((fr_ui I 20 0 1 ((I 20 0 1) + 1))) n)) n), J) n).1) n)) n) 20 0 33)), (fr_jt (fb_O_tick3 n) ((fr_it (fb_O_tick2 ) ((fr_it (fb_O_tick1 ) ((fr_ui I 20 0 1 ((I 20 0 1) + 1))) n)) n), J) n).2)
set_option maxRecDepth 10000 in
theorem ct_O_tick (X : fr_X) (n : Nat) (I : fr_I) (J : fr_J)  (hw : fr_mw n I) (hu : fr_tp n I J) : fr_Ct X y_O_tick c_O_tick 2 none (fr_rm 2) [.ref (fr_ad X 20 0)] (fr_Z0 X n) (fr_Z0 X n) I J (fr_pv (fun I' J' => (f_O_tick I J n).1 = I' ∧ (f_O_tick I J n).2 = J')) := by
  refine fr_ct (by decide) rfl rfl (Nat.le_of_ble_eq_true rfl) rfl (fun E => ?_)
  refine fr_aload_n d_O_tick_0 rfl ?_
  refine fr_dup d_O_tick_1 rfl ?_
  refine fr_geti d_O_tick_2 fl_O_115 rfl rfl (Or.inr ⟨rfl, rfl⟩) ?_
  refine fr_iconst d_O_tick_5 fr_i1 ?_
  refine fr_iadd d_O_tick_6 ?_
  refine fr_puti d_O_tick_7 fl_O_115 rfl rfl (Or.inr ⟨rfl, rfl⟩) ?_
  refine fr_iconst d_O_tick_10 fr_i0 ?_
  refine fr_istore_n (L' := [(1, .int _), (0, .ref _)]) d_O_tick_11 (by decide) rfl ?_
  refine fr_pick (L' := [(1, .int _), (0, .ref _)]) [0, 1] rfl ?_
  refine fr_loop (fr_it (fb_O_tick1 ) ((fr_ui I 20 0 1 ((I 20 0 1) + 1)))) (fun _ => J) (fun i => [(1, .int (nI i)), (0, .ref (fr_ad X 20 0))]) n rfl fr_it_0 rfl ?_ (fun i hi ih => ?_)
  · skip
    have hwe1 : fr_mw n ((fr_it (fb_O_tick1 ) ((fr_ui I 20 0 1 ((I 20 0 1) + 1))) n)) := (fw_it n (fun I i hi hw => fw_fb_O_tick1 hi hw) (fm_ui (k := 20) (j := 1) rfl hw) n (Nat.le_refl _))
    refine fr_iload_n d_O_tick_12 rfl ?_
    refine fr_aload_n d_O_tick_13 rfl ?_
    refine fr_geti d_O_tick_14 fl_O_111 rfl rfl (Or.inr ⟨rfl, rfl⟩) ?_
    refine fr_icmp_ge 31 d_O_tick_17 rfl (fun _ => ?_) (fun h => absurd (by rw [fm_cnt hwe1]; exact nI_le (Nat.le_refl _) (by have := fm_n8 hw; omega)) h)
    refine fr_iconst d_O_tick_31 fr_i0 ?_
    refine fr_istore_n (L' := [(1, .int _), (0, .ref _)]) d_O_tick_32 (by decide) rfl ?_
    refine fr_pick (L' := [(1, .int _), (0, .ref _)]) [0, 1] rfl ?_
    refine fr_loop (fr_it (fb_O_tick2 ) ((fr_it (fb_O_tick1 ) ((fr_ui I 20 0 1 ((I 20 0 1) + 1))) n))) (fun _ => J) (fun i => [(1, .int (nI i)), (0, .ref (fr_ad X 20 0))]) n rfl fr_it_0 rfl ?_ (fun i hi ih => ?_)
    · skip
      have hwe2 : fr_mw n ((fr_it (fb_O_tick2 ) ((fr_it (fb_O_tick1 ) ((fr_ui I 20 0 1 ((I 20 0 1) + 1))) n)) n)) := (fw_it n (fun I i hi hw => fw_fb_O_tick2  hw) hwe1 n (Nat.le_refl _))
      refine fr_iload_n d_O_tick_33 rfl ?_
      refine fr_aload_n d_O_tick_34 rfl ?_
      refine fr_geti d_O_tick_35 fl_O_111 rfl rfl (Or.inr ⟨rfl, rfl⟩) ?_
      refine fr_icmp_ge 52 d_O_tick_38 rfl (fun _ => ?_) (fun h => absurd (by rw [fm_cnt hwe2]; exact nI_le (Nat.le_refl _) (by have := fm_n8 hw; omega)) h)
      refine fr_iconst d_O_tick_52 fr_i0 ?_
      refine fr_istore_n (L' := [(1, .int _), (0, .ref _)]) d_O_tick_53 (by decide) rfl ?_
      refine fr_pick (L' := [(1, .int _), (0, .ref _)]) [0, 1] rfl ?_
      refine fr_loop (fun i => (fr_jt (fb_O_tick3 n) ((fr_it (fb_O_tick2 ) ((fr_it (fb_O_tick1 ) ((fr_ui I 20 0 1 ((I 20 0 1) + 1))) n)) n), J) i).1) (fun i => (fr_jt (fb_O_tick3 n) ((fr_it (fb_O_tick2 ) ((fr_it (fb_O_tick1 ) ((fr_ui I 20 0 1 ((I 20 0 1) + 1))) n)) n), J) i).2) (fun i => [(1, .int (nI i)), (0, .ref (fr_ad X 20 0))]) n rfl fr_jt_1 fr_jt_2 ?_ (fun i hi ih => ?_)
      · skip
        have hwe3 : fr_mw n ((fr_jt (fb_O_tick3 n) ((fr_it (fb_O_tick2 ) ((fr_it (fb_O_tick1 ) ((fr_ui I 20 0 1 ((I 20 0 1) + 1))) n)) n), J) n).1) := (fw_jtq n (fun i hi hw => fw_fb_O_tick3 hi (hu i hi) hw) hwe2 n (Nat.le_refl _))
        refine fr_iload_n d_O_tick_54 rfl ?_
        refine fr_aload_n d_O_tick_55 rfl ?_
        refine fr_geti d_O_tick_56 fl_O_111 rfl rfl (Or.inr ⟨rfl, rfl⟩) ?_
        refine fr_icmp_ge 73 d_O_tick_59 rfl (fun _ => ?_) (fun h => absurd (by rw [fm_cnt hwe3]; exact nI_le (Nat.le_refl _) (by have := fm_n8 hw; omega)) h)
        refine fr_iconst d_O_tick_73 fr_i0 ?_
        refine fr_istore_n (L' := [(1, .int _), (0, .ref _)]) d_O_tick_74 (by decide) rfl ?_
        refine fr_pick (L' := [(1, .int _), (0, .ref _)]) [0, 1] rfl ?_
        refine fr_loop (fr_it (fb_O_tick4 n ((fr_jt (fb_O_tick3 n) ((fr_it (fb_O_tick2 ) ((fr_it (fb_O_tick1 ) ((fr_ui I 20 0 1 ((I 20 0 1) + 1))) n)) n), J) n).2)) ((fr_jt (fb_O_tick3 n) ((fr_it (fb_O_tick2 ) ((fr_it (fb_O_tick1 ) ((fr_ui I 20 0 1 ((I 20 0 1) + 1))) n)) n), J) n).1)) (fun _ => (fr_jt (fb_O_tick3 n) ((fr_it (fb_O_tick2 ) ((fr_it (fb_O_tick1 ) ((fr_ui I 20 0 1 ((I 20 0 1) + 1))) n)) n), J) n).2) (fun i => [(1, .int (nI i)), (0, .ref (fr_ad X 20 0))]) n rfl fr_it_0 rfl ?_ (fun i hi ih => ?_)
        · skip
          have hwe4 : fr_mw n ((fr_it (fb_O_tick4 n ((fr_jt (fb_O_tick3 n) ((fr_it (fb_O_tick2 ) ((fr_it (fb_O_tick1 ) ((fr_ui I 20 0 1 ((I 20 0 1) + 1))) n)) n), J) n).2)) ((fr_jt (fb_O_tick3 n) ((fr_it (fb_O_tick2 ) ((fr_it (fb_O_tick1 ) ((fr_ui I 20 0 1 ((I 20 0 1) + 1))) n)) n), J) n).1) n)) := (fw_it n (fun I i hi hw => fw_fb_O_tick4  hw) hwe3 n (Nat.le_refl _))
          refine fr_iload_n d_O_tick_75 rfl ?_
          refine fr_aload_n d_O_tick_76 rfl ?_
          refine fr_geti d_O_tick_77 fl_O_111 rfl rfl (Or.inr ⟨rfl, rfl⟩) ?_
          refine fr_icmp_ge 94 d_O_tick_80 rfl (fun _ => ?_) (fun h => absurd (by rw [fm_cnt hwe4]; exact nI_le (Nat.le_refl _) (by have := fm_n8 hw; omega)) h)
          refine fr_iconst d_O_tick_94 fr_i0 ?_
          refine fr_istore_n (L' := [(1, .int _), (0, .ref _)]) d_O_tick_95 (by decide) rfl ?_
          refine fr_pick (L' := [(1, .int _), (0, .ref _)]) [0, 1] rfl ?_
          refine fr_loop (fr_it (fb_O_tick5 ) ((fr_it (fb_O_tick4 n ((fr_jt (fb_O_tick3 n) ((fr_it (fb_O_tick2 ) ((fr_it (fb_O_tick1 ) ((fr_ui I 20 0 1 ((I 20 0 1) + 1))) n)) n), J) n).2)) ((fr_jt (fb_O_tick3 n) ((fr_it (fb_O_tick2 ) ((fr_it (fb_O_tick1 ) ((fr_ui I 20 0 1 ((I 20 0 1) + 1))) n)) n), J) n).1) n))) (fun _ => (fr_jt (fb_O_tick3 n) ((fr_it (fb_O_tick2 ) ((fr_it (fb_O_tick1 ) ((fr_ui I 20 0 1 ((I 20 0 1) + 1))) n)) n), J) n).2) (fun i => [(1, .int (nI i)), (0, .ref (fr_ad X 20 0))]) n rfl fr_it_0 rfl ?_ (fun i hi ih => ?_)
          · skip
            have hwe5 : fr_mw n ((fr_it (fb_O_tick5 ) ((fr_it (fb_O_tick4 n ((fr_jt (fb_O_tick3 n) ((fr_it (fb_O_tick2 ) ((fr_it (fb_O_tick1 ) ((fr_ui I 20 0 1 ((I 20 0 1) + 1))) n)) n), J) n).2)) ((fr_jt (fb_O_tick3 n) ((fr_it (fb_O_tick2 ) ((fr_it (fb_O_tick1 ) ((fr_ui I 20 0 1 ((I 20 0 1) + 1))) n)) n), J) n).1) n)) n)) := (fw_it n (fun I i hi hw => fw_fb_O_tick5  hw) hwe4 n (Nat.le_refl _))
            refine fr_iload_n d_O_tick_96 rfl ?_
            refine fr_aload_n d_O_tick_97 rfl ?_
            refine fr_geti d_O_tick_98 fl_O_111 rfl rfl (Or.inr ⟨rfl, rfl⟩) ?_
            refine fr_icmp_ge 115 d_O_tick_101 rfl (fun _ => ?_) (fun h => absurd (by rw [fm_cnt hwe5]; exact nI_le (Nat.le_refl _) (by have := fm_n8 hw; omega)) h)
            refine fr_aload_n d_O_tick_115 rfl ?_
            refine fr_aload_n d_O_tick_116 rfl ?_
            refine fr_geti d_O_tick_117 fl_O_167 rfl rfl (Or.inr ⟨rfl, rfl⟩) ?_
            refine fr_iconst d_O_tick_120 fr_i2 ?_
            refine fr_iadd d_O_tick_121 ?_
            refine fr_aload_n d_O_tick_122 rfl ?_
            refine fr_geti d_O_tick_123 fl_O_128 rfl rfl (Or.inr ⟨rfl, rfl⟩) ?_
            refine fr_icmp_le 136 d_O_tick_126 rfl (fun h1 => ?_) (fun h1 => ?_)
            · skip
              refine fr_aload_n d_O_tick_136 rfl ?_
              refine fr_geti d_O_tick_137 fl_O_167 rfl rfl (Or.inr ⟨rfl, rfl⟩) ?_
              refine fr_iconst d_O_tick_140 fr_i2 ?_
              refine fr_iadd d_O_tick_141 ?_
              refine fr_puti d_O_tick_142 fl_O_167 rfl rfl (Or.inr ⟨rfl, rfl⟩) ?_
              exact fr_vret d_O_tick_145 rfl (Nat.zero_le _) (Nat.zero_le _) (fr_tIJ (by unfold f_O_tick; rw [if_pos h1]))
            · skip
              refine fr_aload_n d_O_tick_129 rfl ?_
              refine fr_geti d_O_tick_130 fl_O_128 rfl rfl (Or.inr ⟨rfl, rfl⟩) ?_
              refine fr_goto 142 d_O_tick_133 rfl ?_
              refine fr_puti d_O_tick_142 fl_O_167 rfl rfl (Or.inr ⟨rfl, rfl⟩) ?_
              exact fr_vret d_O_tick_145 rfl (Nat.zero_le _) (Nat.zero_le _) (fr_tIJ (by unfold f_O_tick; rw [if_neg h1]))
          · skip
            have hwi5 : fr_mw n ((fr_it (fb_O_tick5 ) ((fr_it (fb_O_tick4 n ((fr_jt (fb_O_tick3 n) ((fr_it (fb_O_tick2 ) ((fr_it (fb_O_tick1 ) ((fr_ui I 20 0 1 ((I 20 0 1) + 1))) n)) n), J) n).2)) ((fr_jt (fb_O_tick3 n) ((fr_it (fb_O_tick2 ) ((fr_it (fb_O_tick1 ) ((fr_ui I 20 0 1 ((I 20 0 1) + 1))) n)) n), J) n).1) n)) i)) := (fw_it n (fun I i hi hw => fw_fb_O_tick5  hw) hwe4 i (Nat.le_of_lt hi))
            refine fr_iload_n d_O_tick_96 rfl ?_
            refine fr_aload_n d_O_tick_97 rfl ?_
            refine fr_geti d_O_tick_98 fl_O_111 rfl rfl (Or.inr ⟨rfl, rfl⟩) ?_
            refine fr_icmp_ge 115 d_O_tick_101 rfl (fun h => absurd h (by rw [fm_cnt hwi5]; exact nI_ge hi (by have := fm_n8 hw; omega))) (fun _ => ?_)
            refine fr_aload_n d_O_tick_104 rfl ?_
            refine fr_iload_n d_O_tick_105 rfl ?_
            refine fr_callVv fr_q6 d_O_tick_106 (ct_O_fail X n i hi _ _ hwi5) mv_O_164 rfl rfl rfl (Or.inr ⟨rfl, rfl⟩) rfl rfl ⟨Nat.le_of_ble_eq_true rfl, Nat.le_of_ble_eq_true rfl⟩ ⟨rfl, rfl⟩ ⟨Nat.zero_le _, Nat.zero_le _⟩ (Nat.le_of_ble_eq_true rfl) (fun I' J' hp2 => ?_)
            obtain ⟨rfl, rfl⟩ := hp2
            refine fr_iinc (v := (nI (i + 1))) (L' := [(1, .int _), (0, .ref _)]) d_O_tick_109 rfl (fr_inc _) (by decide) rfl ?_
            refine fr_goto 96 d_O_tick_112 rfl ?_
            refine fr_pick (L' := [(1, .int _), (0, .ref _)]) [0, 1] rfl ?_
            refine fr_eqI (I' := fr_it (fb_O_tick5 ) ((fr_it (fb_O_tick4 n ((fr_jt (fb_O_tick3 n) ((fr_it (fb_O_tick2 ) ((fr_it (fb_O_tick1 ) ((fr_ui I 20 0 1 ((I 20 0 1) + 1))) n)) n), J) n).2)) ((fr_jt (fb_O_tick3 n) ((fr_it (fb_O_tick2 ) ((fr_it (fb_O_tick1 ) ((fr_ui I 20 0 1 ((I 20 0 1) + 1))) n)) n), J) n).1) n)) (i + 1)) (Eq.symm (by rw [fr_it_s, fb_O_tick5_eq])) rfl ?_
            exact ih
        · skip
          have hwi4 : fr_mw n ((fr_it (fb_O_tick4 n ((fr_jt (fb_O_tick3 n) ((fr_it (fb_O_tick2 ) ((fr_it (fb_O_tick1 ) ((fr_ui I 20 0 1 ((I 20 0 1) + 1))) n)) n), J) n).2)) ((fr_jt (fb_O_tick3 n) ((fr_it (fb_O_tick2 ) ((fr_it (fb_O_tick1 ) ((fr_ui I 20 0 1 ((I 20 0 1) + 1))) n)) n), J) n).1) i)) := (fw_it n (fun I i hi hw => fw_fb_O_tick4  hw) hwe3 i (Nat.le_of_lt hi))
          refine fr_iload_n d_O_tick_75 rfl ?_
          refine fr_aload_n d_O_tick_76 rfl ?_
          refine fr_geti d_O_tick_77 fl_O_111 rfl rfl (Or.inr ⟨rfl, rfl⟩) ?_
          refine fr_icmp_ge 94 d_O_tick_80 rfl (fun h => absurd h (by rw [fm_cnt hwi4]; exact nI_ge hi (by have := fm_n8 hw; omega))) (fun _ => ?_)
          refine fr_aload_n d_O_tick_83 rfl ?_
          refine fr_iload_n d_O_tick_84 rfl ?_
          refine fr_callVv fr_q6 d_O_tick_85 (ct_O_trip X n i hi _ _ hwi4) mv_O_161 rfl rfl rfl (Or.inr ⟨rfl, rfl⟩) rfl rfl ⟨Nat.le_of_ble_eq_true rfl, Nat.le_of_ble_eq_true rfl⟩ ⟨rfl, rfl⟩ ⟨Nat.zero_le _, Nat.zero_le _⟩ (Nat.le_of_ble_eq_true rfl) (fun I' J' hp3 => ?_)
          obtain ⟨rfl, rfl⟩ := hp3
          refine fr_iinc (v := (nI (i + 1))) (L' := [(1, .int _), (0, .ref _)]) d_O_tick_88 rfl (fr_inc _) (by decide) rfl ?_
          refine fr_goto 75 d_O_tick_91 rfl ?_
          refine fr_pick (L' := [(1, .int _), (0, .ref _)]) [0, 1] rfl ?_
          refine fr_eqI (I' := fr_it (fb_O_tick4 n ((fr_jt (fb_O_tick3 n) ((fr_it (fb_O_tick2 ) ((fr_it (fb_O_tick1 ) ((fr_ui I 20 0 1 ((I 20 0 1) + 1))) n)) n), J) n).2)) ((fr_jt (fb_O_tick3 n) ((fr_it (fb_O_tick2 ) ((fr_it (fb_O_tick1 ) ((fr_ui I 20 0 1 ((I 20 0 1) + 1))) n)) n), J) n).1) (i + 1)) (Eq.symm (by rw [fr_it_s, fb_O_tick4_eq])) rfl ?_
          exact ih
      · skip
        have hwi3 : fr_mw n ((fr_jt (fb_O_tick3 n) ((fr_it (fb_O_tick2 ) ((fr_it (fb_O_tick1 ) ((fr_ui I 20 0 1 ((I 20 0 1) + 1))) n)) n), J) i).1) := (fw_jtq n (fun i hi hw => fw_fb_O_tick3 hi (hu i hi) hw) hwe2 i (Nat.le_of_lt hi))
        refine fr_iload_n d_O_tick_54 rfl ?_
        refine fr_aload_n d_O_tick_55 rfl ?_
        refine fr_geti d_O_tick_56 fl_O_111 rfl rfl (Or.inr ⟨rfl, rfl⟩) ?_
        refine fr_icmp_ge 73 d_O_tick_59 rfl (fun h => absurd h (by rw [fm_cnt hwi3]; exact nI_ge hi (by have := fm_n8 hw; omega))) (fun _ => ?_)
        refine fr_aload_n d_O_tick_62 rfl ?_
        refine fr_iload_n d_O_tick_63 rfl ?_
        refine fr_callVv fr_q6 d_O_tick_64 (ct_O_measure X n i hi _ _ hwi3 (hu i hi)) mv_O_158 rfl rfl rfl (Or.inr ⟨rfl, rfl⟩) rfl rfl ⟨Nat.le_of_ble_eq_true rfl, Nat.le_of_ble_eq_true rfl⟩ ⟨rfl, rfl⟩ ⟨Nat.zero_le _, Nat.zero_le _⟩ (Nat.le_of_ble_eq_true rfl) (fun I' J' hp4 => ?_)
        obtain ⟨rfl, rfl⟩ := hp4
        refine fr_iinc (v := (nI (i + 1))) (L' := [(1, .int _), (0, .ref _)]) d_O_tick_67 rfl (fr_inc _) (by decide) rfl ?_
        refine fr_goto 54 d_O_tick_70 rfl ?_
        refine fr_pick (L' := [(1, .int _), (0, .ref _)]) [0, 1] rfl ?_
        have he : fr_jt (fb_O_tick3 n) ((fr_it (fb_O_tick2 ) ((fr_it (fb_O_tick1 ) ((fr_ui I 20 0 1 ((I 20 0 1) + 1))) n)) n), J) (i + 1) = ((f_O_measure ((fr_jt (fb_O_tick3 n) ((fr_it (fb_O_tick2 ) ((fr_it (fb_O_tick1 ) ((fr_ui I 20 0 1 ((I 20 0 1) + 1))) n)) n), J) i).1) ((fr_jt (fb_O_tick3 n) ((fr_it (fb_O_tick2 ) ((fr_it (fb_O_tick1 ) ((fr_ui I 20 0 1 ((I 20 0 1) + 1))) n)) n), J) i).2) n i).1, (f_O_measure ((fr_jt (fb_O_tick3 n) ((fr_it (fb_O_tick2 ) ((fr_it (fb_O_tick1 ) ((fr_ui I 20 0 1 ((I 20 0 1) + 1))) n)) n), J) i).1) ((fr_jt (fb_O_tick3 n) ((fr_it (fb_O_tick2 ) ((fr_it (fb_O_tick1 ) ((fr_ui I 20 0 1 ((I 20 0 1) + 1))) n)) n), J) i).2) n i).2) := by rw [fr_jt_s, fb_O_tick3_eq]
        refine fr_eqI (fr_pr1 (J' := J) (I' := I) he) (fr_pr2 (J' := J) (I' := I) he) ?_
        exact ih
    · skip
      have hwi2 : fr_mw n ((fr_it (fb_O_tick2 ) ((fr_it (fb_O_tick1 ) ((fr_ui I 20 0 1 ((I 20 0 1) + 1))) n)) i)) := (fw_it n (fun I i hi hw => fw_fb_O_tick2  hw) hwe1 i (Nat.le_of_lt hi))
      refine fr_iload_n d_O_tick_33 rfl ?_
      refine fr_aload_n d_O_tick_34 rfl ?_
      refine fr_geti d_O_tick_35 fl_O_111 rfl rfl (Or.inr ⟨rfl, rfl⟩) ?_
      refine fr_icmp_ge 52 d_O_tick_38 rfl (fun h => absurd h (by rw [fm_cnt hwi2]; exact nI_ge hi (by have := fm_n8 hw; omega))) (fun _ => ?_)
      refine fr_aload_n d_O_tick_41 rfl ?_
      refine fr_iload_n d_O_tick_42 rfl ?_
      refine fr_callVv fr_q6 d_O_tick_43 (ct_O_breaker X n i hi _ _ hwi2) mv_O_155 rfl rfl rfl (Or.inr ⟨rfl, rfl⟩) rfl rfl ⟨Nat.le_of_ble_eq_true rfl, Nat.le_of_ble_eq_true rfl⟩ ⟨rfl, rfl⟩ ⟨Nat.zero_le _, Nat.zero_le _⟩ (Nat.le_of_ble_eq_true rfl) (fun I' J' hp5 => ?_)
      obtain ⟨rfl, rfl⟩ := hp5
      refine fr_iinc (v := (nI (i + 1))) (L' := [(1, .int _), (0, .ref _)]) d_O_tick_46 rfl (fr_inc _) (by decide) rfl ?_
      refine fr_goto 33 d_O_tick_49 rfl ?_
      refine fr_pick (L' := [(1, .int _), (0, .ref _)]) [0, 1] rfl ?_
      refine fr_eqI (I' := fr_it (fb_O_tick2 ) ((fr_it (fb_O_tick1 ) ((fr_ui I 20 0 1 ((I 20 0 1) + 1))) n)) (i + 1)) (Eq.symm (by rw [fr_it_s, fb_O_tick2_eq])) rfl ?_
      exact ih
  · skip
    have hwi1 : fr_mw n ((fr_it (fb_O_tick1 ) ((fr_ui I 20 0 1 ((I 20 0 1) + 1))) i)) := (fw_it n (fun I i hi hw => fw_fb_O_tick1 hi hw) (fm_ui (k := 20) (j := 1) rfl hw) i (Nat.le_of_lt hi))
    refine fr_iload_n d_O_tick_12 rfl ?_
    refine fr_aload_n d_O_tick_13 rfl ?_
    refine fr_geti d_O_tick_14 fl_O_111 rfl rfl (Or.inr ⟨rfl, rfl⟩) ?_
    refine fr_icmp_ge 31 d_O_tick_17 rfl (fun h => absurd h (by rw [fm_cnt hwi1]; exact nI_ge hi (by have := fm_n8 hw; omega))) (fun _ => ?_)
    refine fr_aload_n d_O_tick_20 rfl ?_
    refine fr_iload_n d_O_tick_21 rfl ?_
    refine fr_callVv fr_q6 d_O_tick_22 (ct_O_receive X n i hi _ _ hwi1) mv_O_152 rfl rfl rfl (Or.inr ⟨rfl, rfl⟩) rfl rfl ⟨Nat.le_of_ble_eq_true rfl, Nat.le_of_ble_eq_true rfl⟩ ⟨rfl, rfl⟩ ⟨Nat.zero_le _, Nat.zero_le _⟩ (Nat.le_of_ble_eq_true rfl) (fun I' J' hp6 => ?_)
    obtain ⟨rfl, rfl⟩ := hp6
    refine fr_iinc (v := (nI (i + 1))) (L' := [(1, .int _), (0, .ref _)]) d_O_tick_25 rfl (fr_inc _) (by decide) rfl ?_
    refine fr_goto 12 d_O_tick_28 rfl ?_
    refine fr_pick (L' := [(1, .int _), (0, .ref _)]) [0, 1] rfl ?_
    refine fr_eqI (I' := fr_it (fb_O_tick1 ) ((fr_ui I 20 0 1 ((I 20 0 1) + 1))) (i + 1)) (Eq.symm (by rw [fr_it_s, fb_O_tick1_eq])) rfl ?_
    exact ih
theorem fw_O_tick {n : Nat} {I : fr_I} {J : fr_J} (hu : fr_tp n I J) (hw : fr_mw n I) : fr_mw n (f_O_tick I J n).1 := by
  unfold f_O_tick
  refine fw_ite_1 (fun h => ?_) (fun h => ?_)
  · skip
    exact (fm_st2 h (fw_it n (fun I i hi hw => fw_fb_O_tick5  hw) (fw_it n (fun I i hi hw => fw_fb_O_tick4  hw) (fw_jtq n (fun i hi hw => fw_fb_O_tick3 hi (hu i hi) hw) (fw_it n (fun I i hi hw => fw_fb_O_tick2  hw) (fw_it n (fun I i hi hw => fw_fb_O_tick1 hi hw) (fm_ui (k := 20) (j := 1) rfl hw) n (Nat.le_refl _)) n (Nat.le_refl _)) n (Nat.le_refl _)) n (Nat.le_refl _)) n (Nat.le_refl _)))
  · skip
    exact (fm_st1 (fw_it n (fun I i hi hw => fw_fb_O_tick5  hw) (fw_it n (fun I i hi hw => fw_fb_O_tick4  hw) (fw_jtq n (fun i hi hw => fw_fb_O_tick3 hi (hu i hi) hw) (fw_it n (fun I i hi hw => fw_fb_O_tick2  hw) (fw_it n (fun I i hi hw => fw_fb_O_tick1 hi hw) (fm_ui (k := 20) (j := 1) rfl hw) n (Nat.le_refl _)) n (Nat.le_refl _)) n (Nat.le_refl _)) n (Nat.le_refl _)) n (Nat.le_refl _)))
theorem fc_O_tick {P : fr_I → Prop} (hP : fr_ost P) {n : Nat} {I : fr_I} {J : fr_J} (h : P I) : P (f_O_tick I J n).1 := by
  unfold f_O_tick
  refine fw_ite_1 (fun _ => ?_) (fun _ => ?_)
  · skip
    refine fw_pr (P := P) ?_
    exact (hP (k := 20) (by decide) (fw_it n (fun I i hi h => fc_fb_O_tick5 hP h) (fw_it n (fun I i hi h => fc_fb_O_tick4 hP h) (fw_jt n (fun s i hi h => fc_fb_O_tick3 hP h) (fw_it n (fun I i hi h => fc_fb_O_tick2 hP h) (fw_it n (fun I i hi h => fc_fb_O_tick1 hP h) (hP (k := 20) (by decide) h) n (Nat.le_refl _)) n (Nat.le_refl _)) n (Nat.le_refl _)) n (Nat.le_refl _)) n (Nat.le_refl _)))
  · skip
    refine fw_pr (P := P) ?_
    exact (hP (k := 20) (by decide) (fw_it n (fun I i hi h => fc_fb_O_tick5 hP h) (fw_it n (fun I i hi h => fc_fb_O_tick4 hP h) (fw_jt n (fun s i hi h => fc_fb_O_tick3 hP h) (fw_it n (fun I i hi h => fc_fb_O_tick2 hP h) (fw_it n (fun I i hi h => fc_fb_O_tick1 hP h) (hP (k := 20) (by decide) h) n (Nat.le_refl _)) n (Nat.le_refl _)) n (Nat.le_refl _)) n (Nat.le_refl _)) n (Nat.le_refl _)))
theorem fcj_O_tick {P : fr_J → Prop} (hP : fr_ostJ P) {n : Nat} {I : fr_I} {J : fr_J} (h : P J) : P (f_O_tick I J n).2 := by
  unfold f_O_tick
  refine fw_iteJ_2 (fun _ => ?_) (fun _ => ?_)
  · skip
    refine fw_pr2 (P := P) ?_
    exact (fw_jt2 n (fun s i hi h => fcj_fb_O_tick3 hP h) h n (Nat.le_refl _))
  · skip
    refine fw_pr2 (P := P) ?_
    exact (fw_jt2 n (fun s i hi h => fcj_fb_O_tick3 hP h) h n (Nat.le_refl _))
def fb_O_run (n : Nat) (s : fr_I × fr_J) (i : Nat) : fr_I × fr_J :=
  ((f_O_tick (s.1) (s.2) n).1, (f_O_tick (s.1) (s.2) n).2)
theorem fb_O_run_eq (n : Nat) (s : fr_I × fr_J) (i : Nat) : fb_O_run n s i =
  ((f_O_tick (s.1) (s.2) n).1, (f_O_tick (s.1) (s.2) n).2) := rfl
theorem fw_fb_O_run {n : Nat} {s : fr_I × fr_J} {i : Nat} (hu : fr_tp n s.1 s.2) (hw : fr_mw n s.1) : fr_mw n (fb_O_run n s i).1 := by
  unfold fb_O_run
  refine fw_pr (P := fr_mw n) ?_
  exact (fw_O_tick hu hw)
theorem fc_fb_O_run {P : fr_I → Prop} (hP : fr_ost P) {n : Nat} {s : fr_I × fr_J} {i : Nat} (h : P s.1) : P (fb_O_run n s i).1 := by
  unfold fb_O_run
  refine fw_pr (P := P) ?_
  exact (fc_O_tick hP h)
theorem fcj_fb_O_run {P : fr_J → Prop} (hP : fr_ostJ P) {n : Nat} {s : fr_I × fr_J} {i : Nat} (h : P s.2) : P (fb_O_run n s i).2 := by
  unfold fb_O_run
  refine fw_pr2 (P := P) ?_
  exact (fcj_O_tick hP h)
def f_O_run (I : fr_I) (J : fr_J) (n : Nat) (k : Nat) : Int32 × fr_I × fr_J :=
  (((fr_jt (fb_O_run n) (I, J) k).1 20 0 1), (fr_jt (fb_O_run n) (I, J) k).1, (fr_jt (fb_O_run n) (I, J) k).2)
set_option maxRecDepth 10000 in
theorem ct_O_run (X : fr_X) (n : Nat) (k : Nat) (I : fr_I) (J : fr_J)  (hw : fr_mw n I) (hk1 : 1 ≤ k) (hk2 : k ≤ 20) (hu : ∀ j, j < k → fr_tp n (fr_jt (fb_O_run n) (I, J) j).1 (fr_jt (fb_O_run n) (I, J) j).2) : fr_Ct X y_O_run c_O_run 3 (some .int) (fr_rm 3) [.ref (fr_ad X 20 0), .int (nI k)] (fr_Z0 X n) (fr_Z0 X n) I J (fr_pi (fun x I' J' => (f_O_run I J n k).1 = x ∧ (f_O_run I J n k).2.1 = I' ∧ (f_O_run I J n k).2.2 = J')) := by
  refine fr_ct (by decide) rfl rfl (Nat.le_of_ble_eq_true rfl) rfl (fun E => ?_)
  refine fr_iload_n d_O_run_0 rfl ?_
  refine fr_iconst d_O_run_1 fr_i1 ?_
  refine fr_icmp_lt 11 d_O_run_2 rfl (fun h => absurd h (nI_nlt (a := k) (b := 1) hk1 (by omega))) (fun _ => ?_)
  refine fr_iload_n d_O_run_5 rfl ?_
  refine fr_bipush d_O_run_6 fr_b20 ?_
  refine fr_icmp_le 13 d_O_run_8 rfl (fun _ => ?_) (fun h => absurd (nI_le (a := k) (b := 20) hk2 (by decide)) h)
  refine fr_iconst d_O_run_13 fr_i0 ?_
  refine fr_istore_n (L' := [(2, .int _), (0, .ref _), (1, .int _)]) d_O_run_14 (by decide) rfl ?_
  refine fr_pick (L' := [(2, .int _), (0, .ref _), (1, .int _)]) [0, 1, 2] rfl ?_
  refine fr_loop (fun i => (fr_jt (fb_O_run n) (I, J) i).1) (fun i => (fr_jt (fb_O_run n) (I, J) i).2) (fun i => [(2, .int (nI i)), (0, .ref (fr_ad X 20 0)), (1, .int (nI k))]) k rfl fr_jt_1 fr_jt_2 ?_ (fun i hi ih => ?_)
  · skip
    have hwe1 : fr_mw n ((fr_jt (fb_O_run n) (I, J) k).1) := (fw_jtq k (fun i hi hw => fw_fb_O_run (hu i hi) hw) hw k (Nat.le_refl _))
    refine fr_iload_n d_O_run_15 rfl ?_
    refine fr_iload_n d_O_run_16 rfl ?_
    refine fr_icmp_ge 30 d_O_run_17 rfl (fun _ => ?_) (fun h => absurd (nI_le (Nat.le_refl _) (by omega)) h)
    refine fr_aload_n d_O_run_30 rfl ?_
    refine fr_geti d_O_run_31 fl_O_115 rfl rfl (Or.inr ⟨rfl, rfl⟩) ?_
    exact fr_iret d_O_run_34 rfl (fr_nar_i _) (Nat.zero_le _) (Nat.zero_le _) (fr_tIJx (rfl))
  · skip
    have hwi1 : fr_mw n ((fr_jt (fb_O_run n) (I, J) i).1) := (fw_jtq k (fun i hi hw => fw_fb_O_run (hu i hi) hw) hw i (Nat.le_of_lt hi))
    refine fr_iload_n d_O_run_15 rfl ?_
    refine fr_iload_n d_O_run_16 rfl ?_
    refine fr_icmp_ge 30 d_O_run_17 rfl (fun h => absurd h (nI_ge hi (by omega))) (fun _ => ?_)
    refine fr_aload_n d_O_run_20 rfl ?_
    refine fr_callVv fr_q6 d_O_run_21 (ct_O_tick X n _ _ hwi1 (hu i hi)) mv_O_170 rfl rfl rfl (Or.inr ⟨rfl, rfl⟩) rfl rfl ⟨Nat.le_of_ble_eq_true rfl, Nat.le_of_ble_eq_true rfl⟩ ⟨rfl, rfl⟩ ⟨Nat.zero_le _, Nat.zero_le _⟩ (Nat.le_of_ble_eq_true rfl) (fun I' J' hp1 => ?_)
    obtain ⟨rfl, rfl⟩ := hp1
    refine fr_iinc (v := (nI (i + 1))) (L' := [(2, .int _), (0, .ref _), (1, .int _)]) d_O_run_24 rfl (fr_inc _) (by decide) rfl ?_
    refine fr_goto 15 d_O_run_27 rfl ?_
    refine fr_pick (L' := [(2, .int _), (0, .ref _), (1, .int _)]) [0, 1, 2] rfl ?_
    have he : fr_jt (fb_O_run n) (I, J) (i + 1) = ((f_O_tick ((fr_jt (fb_O_run n) (I, J) i).1) ((fr_jt (fb_O_run n) (I, J) i).2) n).1, (f_O_tick ((fr_jt (fb_O_run n) (I, J) i).1) ((fr_jt (fb_O_run n) (I, J) i).2) n).2) := by rw [fr_jt_s, fb_O_run_eq]
    refine fr_eqI (fr_pr1 (J' := J) (I' := I) he) (fr_pr2 (J' := J) (I' := I) he) ?_
    exact ih
theorem fw_O_run {n : Nat} {I : fr_I} {J : fr_J} {k : Nat} (hu : ∀ j, j < k → fr_tp n (fr_jt (fb_O_run n) (I, J) j).1 (fr_jt (fb_O_run n) (I, J) j).2) (hw : fr_mw n I) : fr_mw n (f_O_run I J n k).2.1 := by
  unfold f_O_run
  exact (fw_jtq k (fun i hi hw => fw_fb_O_run (hu i hi) hw) hw k (Nat.le_refl _))
theorem fc_O_run {P : fr_I → Prop} (hP : fr_ost P) {n : Nat} {I : fr_I} {J : fr_J} {k : Nat} (h : P I) : P (f_O_run I J n k).2.1 := by
  unfold f_O_run
  exact (fw_jt k (fun s i hi h => fc_fb_O_run hP h) h k (Nat.le_refl _))
theorem fcj_O_run {P : fr_J → Prop} (hP : fr_ostJ P) {n : Nat} {I : fr_I} {J : fr_J} {k : Nat} (h : P J) : P (f_O_run I J n k).2.2 := by
  unfold f_O_run
  exact (fw_jt2 k (fun s i hi h => fcj_fb_O_run hP h) h k (Nat.le_refl _))
def f_O_run_no (I : fr_I) (p1 : Int32) : Int32 :=
  if p1 < 1 then
    (-1)
  else
    (-1)
set_option maxRecDepth 10000 in
theorem ct_O_run_no (X : fr_X) (n : Nat) (I : fr_I) (J : fr_J) (p1 : Int32) (hx : p1 < 1 ∨ 20 < p1) : fr_Ct X y_O_run c_O_run 3 (some .int) (fr_rm 3) [.ref (fr_ad X 20 0), .int p1] (fr_Z0 X n) (fr_Z0 X n) I J (fr_pi (fun x I' J' => (f_O_run_no I p1) = x ∧ I = I' ∧ J = J')) := by
  refine fr_ct (by decide) rfl rfl (Nat.le_of_ble_eq_true rfl) rfl (fun E => ?_)
  refine fr_iload_n d_O_run_0 rfl ?_
  refine fr_iconst d_O_run_1 fr_i1 ?_
  refine fr_icmp_lt 11 d_O_run_2 rfl (fun h1 => ?_) (fun h1 => ?_)
  · skip
    refine fr_iconst d_O_run_11 fr_im1 ?_
    exact fr_iret d_O_run_12 rfl (fr_nar_i _) (Nat.zero_le _) (Nat.zero_le _) ⟨(by unfold f_O_run_no; rw [if_pos h1]), rfl, rfl⟩
  · skip
    refine fr_iload_n d_O_run_5 rfl ?_
    refine fr_bipush d_O_run_6 fr_b20 ?_
    refine fr_icmp_le 13 d_O_run_8 rfl (fun h => absurd h (hx.elim (fun q => absurd q h1) (fun q => k2_nle q))) (fun _ => ?_)
    refine fr_iconst d_O_run_11 fr_im1 ?_
    exact fr_iret d_O_run_12 rfl (fr_nar_i _) (Nat.zero_le _) (Nat.zero_le _) ⟨(by unfold f_O_run_no; rw [if_neg h1]), rfl, rfl⟩
def fb_O_crash  (s : fr_I × fr_J) (i : Nat) : fr_I × fr_J :=
  ((fr_ui (fr_ui (fr_ui (fr_ui (fr_ui (fr_ui (fr_ui (fr_ui (fr_ui (fr_ui (fr_ui (fr_ui (fr_ui s.1 54 0 (4 * i) 0) 54 0 (4 * i + 1) 0) 54 0 (4 * i + 2) 0) 54 0 (4 * i + 3) 0) 56 0 i 0) 57 0 i 0) 58 0 i 0) 68 0 i 0) 71 0 i 0) 60 0 i 0) 63 0 i 0) 66 0 i 0) 65 0 i (if ((fr_ui (fr_ui (fr_ui (fr_ui (fr_ui (fr_ui (fr_ui (fr_ui (fr_ui (fr_ui (fr_ui (fr_ui s.1 54 0 (4 * i) 0) 54 0 (4 * i + 1) 0) 54 0 (4 * i + 2) 0) 54 0 (4 * i + 3) 0) 56 0 i 0) 57 0 i 0) 58 0 i 0) 68 0 i 0) 71 0 i 0) 60 0 i 0) 63 0 i 0) 66 0 i 0) 43 0 i) = 0 then (1 : Int32) else 0)), (fr_uj s.2 55 0 i 0))
theorem fb_O_crash_eq  (s : fr_I × fr_J) (i : Nat) : fb_O_crash  s i =
  ((fr_ui (fr_ui (fr_ui (fr_ui (fr_ui (fr_ui (fr_ui (fr_ui (fr_ui (fr_ui (fr_ui (fr_ui (fr_ui s.1 54 0 (4 * i) 0) 54 0 (4 * i + 1) 0) 54 0 (4 * i + 2) 0) 54 0 (4 * i + 3) 0) 56 0 i 0) 57 0 i 0) 58 0 i 0) 68 0 i 0) 71 0 i 0) 60 0 i 0) 63 0 i 0) 66 0 i 0) 65 0 i (if ((fr_ui (fr_ui (fr_ui (fr_ui (fr_ui (fr_ui (fr_ui (fr_ui (fr_ui (fr_ui (fr_ui (fr_ui s.1 54 0 (4 * i) 0) 54 0 (4 * i + 1) 0) 54 0 (4 * i + 2) 0) 54 0 (4 * i + 3) 0) 56 0 i 0) 57 0 i 0) 58 0 i 0) 68 0 i 0) 71 0 i 0) 60 0 i 0) 63 0 i 0) 66 0 i 0) 43 0 i) = 0 then (1 : Int32) else 0)), (fr_uj s.2 55 0 i 0)) := rfl
theorem fw_fb_O_crash {n : Nat} {s : fr_I × fr_J} {i : Nat} (hw : fr_mw n s.1) : fr_mw n (fb_O_crash  s i).1 := by
  unfold fb_O_crash
  refine fw_pr (P := fr_mw n) ?_
  exact (fm_ui (k := 65) rfl (fm_ui (k := 66) rfl (fm_ui (k := 63) rfl (fm_ui (k := 60) rfl (fm_ui (k := 71) rfl (fm_unp ⟨0, by decide, rfl⟩ (fm_ui (k := 58) rfl (fm_ui (k := 57) rfl (fm_ui (k := 56) rfl (fm_ui (k := 54) rfl (fm_ui (k := 54) rfl (fm_ui (k := 54) rfl (fm_ui (k := 54) rfl hw)))))))))))))
theorem fc_fb_O_crash {P : fr_I → Prop} (hP : fr_ost P) {s : fr_I × fr_J} {i : Nat} (h : P s.1) : P (fb_O_crash  s i).1 := by
  unfold fb_O_crash
  refine fw_pr (P := P) ?_
  exact (hP (k := 65) (by decide) (hP (k := 66) (by decide) (hP (k := 63) (by decide) (hP (k := 60) (by decide) (hP (k := 71) (by decide) (hP (k := 68) (by decide) (hP (k := 58) (by decide) (hP (k := 57) (by decide) (hP (k := 56) (by decide) (hP (k := 54) (by decide) (hP (k := 54) (by decide) (hP (k := 54) (by decide) (hP (k := 54) (by decide) h)))))))))))))
theorem fcj_fb_O_crash {P : fr_J → Prop} (hP : fr_ostJ P) {s : fr_I × fr_J} {i : Nat} (h : P s.2) : P (fb_O_crash  s i).2 := by
  unfold fb_O_crash
  refine fw_pr2 (P := P) ?_
  exact (hP (k := 55) (by decide) h)
def f_O_crash (I : fr_I) (J : fr_J) (n : Nat) : Int32 × fr_I × fr_J :=
  (((I 20 0 33) - (I 20 0 34)), (fr_jt (fb_O_crash ) ((fr_ui I 20 0 33 (I 20 0 34)), J) n).1, (fr_jt (fb_O_crash ) ((fr_ui I 20 0 33 (I 20 0 34)), J) n).2)
set_option maxRecDepth 10000 in
theorem ct_O_crash (X : fr_X) (n : Nat) (I : fr_I) (J : fr_J)  (hw : fr_mw n I) : fr_Ct X y_O_crash c_O_crash 4 (some .int) (fr_rm 0) [.ref (fr_ad X 20 0)] (fr_Z0 X n) (fr_Z0 X n) I J (fr_pi (fun x I' J' => (f_O_crash I J n).1 = x ∧ (f_O_crash I J n).2.1 = I' ∧ (f_O_crash I J n).2.2 = J')) := by
  refine fr_ct (by decide) rfl rfl (Nat.le_of_ble_eq_true rfl) rfl (fun E => ?_)
  refine fr_aload_n d_O_crash_0 rfl ?_
  refine fr_geti d_O_crash_1 fl_O_128 rfl rfl (Or.inr ⟨rfl, rfl⟩) ?_
  refine fr_aload_n d_O_crash_4 rfl ?_
  refine fr_geti d_O_crash_5 fl_O_167 rfl rfl (Or.inr ⟨rfl, rfl⟩) ?_
  refine fr_isub d_O_crash_8 ?_
  refine fr_istore_n (L' := [(1, .int _), (0, .ref _)]) d_O_crash_9 (by decide) rfl ?_
  refine fr_aload_n d_O_crash_10 rfl ?_
  refine fr_aload_n d_O_crash_11 rfl ?_
  refine fr_geti d_O_crash_12 fl_O_167 rfl rfl (Or.inr ⟨rfl, rfl⟩) ?_
  refine fr_puti d_O_crash_15 fl_O_128 rfl rfl (Or.inr ⟨rfl, rfl⟩) ?_
  refine fr_iconst d_O_crash_18 fr_i0 ?_
  refine fr_istore_n (L' := [(2, .int _), (1, .int _), (0, .ref _)]) d_O_crash_19 (by decide) rfl ?_
  refine fr_pick (L' := [(2, .int _), (0, .ref _), (1, .int _)]) [0, 2, 1] rfl ?_
  refine fr_loop (fun i => (fr_jt (fb_O_crash ) ((fr_ui I 20 0 33 (I 20 0 34)), J) i).1) (fun i => (fr_jt (fb_O_crash ) ((fr_ui I 20 0 33 (I 20 0 34)), J) i).2) (fun i => [(2, .int (nI i)), (0, .ref (fr_ad X 20 0)), (1, .int ((I 20 0 33) - (I 20 0 34)))]) n rfl fr_jt_1 fr_jt_2 ?_ (fun i hi ih => ?_)
  · skip
    have hwe1 : fr_mw n ((fr_jt (fb_O_crash ) ((fr_ui I 20 0 33 (I 20 0 34)), J) n).1) := (fw_jt n (fun s i hi hw => fw_fb_O_crash  hw) (fm_cr hw) n (Nat.le_refl _))
    refine fr_iload_n d_O_crash_20 rfl ?_
    refine fr_aload_n d_O_crash_21 rfl ?_
    refine fr_geti d_O_crash_22 fl_O_111 rfl rfl (Or.inr ⟨rfl, rfl⟩) ?_
    refine fr_icmp_ge 143 d_O_crash_25 rfl (fun _ => ?_) (fun h => absurd (by rw [fm_cnt hwe1]; exact nI_le (Nat.le_refl _) (by have := fm_n8 hw; omega)) h)
    refine fr_iload_n d_O_crash_143 rfl ?_
    exact fr_iret d_O_crash_144 rfl (fr_nar_i _) (Nat.zero_le _) (Nat.zero_le _) (fr_tIJx (rfl))
  · skip
    have hwi1 : fr_mw n ((fr_jt (fb_O_crash ) ((fr_ui I 20 0 33 (I 20 0 34)), J) i).1) := (fw_jt n (fun s i hi hw => fw_fb_O_crash  hw) (fm_cr hw) i (Nat.le_of_lt hi))
    refine fr_iload_n d_O_crash_20 rfl ?_
    refine fr_aload_n d_O_crash_21 rfl ?_
    refine fr_geti d_O_crash_22 fl_O_111 rfl rfl (Or.inr ⟨rfl, rfl⟩) ?_
    refine fr_icmp_ge 143 d_O_crash_25 rfl (fun h => absurd h (by rw [fm_cnt hwi1]; exact nI_ge hi (by have := fm_n8 hw; omega))) (fun _ => ?_)
    refine fr_iconst d_O_crash_28 fr_i4 ?_
    refine fr_iload_n d_O_crash_29 rfl ?_
    refine fr_imul d_O_crash_30 ?_
    refine fr_teq (x' := nI (4 * i)) (pk_mul (4) (i)) ?_
    refine fr_istore_n (L' := [(3, .int _), (2, .int _), (0, .ref _), (1, .int _)]) d_O_crash_31 (by decide) rfl ?_
    refine fr_iload_n d_O_crash_32 rfl ?_
    refine fr_iconst d_O_crash_33 fr_i4 ?_
    refine fr_iload_n d_O_crash_34 rfl ?_
    refine fr_imul d_O_crash_35 ?_
    refine fr_teq (x' := nI (4 * i)) (pk_mul (4) (i)) ?_
    refine fr_iconst d_O_crash_36 fr_i4 ?_
    refine fr_iadd d_O_crash_37 ?_
    refine fr_teq (x' := nI (4 * i + 4)) (nI_add (4 * i) (4)) ?_
    refine fr_icmp_ge 54 d_O_crash_38 rfl (fun h => absurd h (nI_ge (by omega) (by have := fm_lt8 hw hi; omega))) (fun _ => ?_)
    refine fr_aload_n d_O_crash_41 rfl ?_
    refine fr_getr (k' := 54) (r' := 0) d_O_crash_42 fl_O_47 rfl rfl rfl (Or.inr ⟨rfl, rfl⟩) ?_
    refine fr_iload_n d_O_crash_45 rfl ?_
    refine fr_iconst d_O_crash_46 fr_i0 ?_
    refine fr_iast (4 * i) d_O_crash_47 rfl rfl (Or.inr ⟨rfl, rfl⟩) rfl (by have := fm_lt8 hw hi; omega) (by decide) ?_
    refine fr_iinc (v := (nI (4 * i + 1))) (L' := [(3, .int _), (2, .int _), (0, .ref _), (1, .int _)]) d_O_crash_48 rfl (fr_inc _) (by decide) rfl ?_
    refine fr_goto 32 d_O_crash_51 rfl ?_
    refine fr_iload_n d_O_crash_32 rfl ?_
    refine fr_iconst d_O_crash_33 fr_i4 ?_
    refine fr_iload_n d_O_crash_34 rfl ?_
    refine fr_imul d_O_crash_35 ?_
    refine fr_teq (x' := nI (4 * i)) (pk_mul (4) (i)) ?_
    refine fr_iconst d_O_crash_36 fr_i4 ?_
    refine fr_iadd d_O_crash_37 ?_
    refine fr_teq (x' := nI (4 * i + 4)) (nI_add (4 * i) (4)) ?_
    refine fr_icmp_ge 54 d_O_crash_38 rfl (fun h => absurd h (nI_ge (by omega) (by have := fm_lt8 hw hi; omega))) (fun _ => ?_)
    refine fr_aload_n d_O_crash_41 rfl ?_
    refine fr_getr (k' := 54) (r' := 0) d_O_crash_42 fl_O_47 rfl rfl rfl (Or.inr ⟨rfl, rfl⟩) ?_
    refine fr_iload_n d_O_crash_45 rfl ?_
    refine fr_iconst d_O_crash_46 fr_i0 ?_
    refine fr_iast (4 * i + 1) d_O_crash_47 rfl rfl (Or.inr ⟨rfl, rfl⟩) rfl (by have := fm_lt8 hw hi; omega) (by decide) ?_
    refine fr_iinc (v := (nI (4 * i + 2))) (L' := [(3, .int _), (2, .int _), (0, .ref _), (1, .int _)]) d_O_crash_48 rfl (fr_inc _) (by decide) rfl ?_
    refine fr_goto 32 d_O_crash_51 rfl ?_
    refine fr_iload_n d_O_crash_32 rfl ?_
    refine fr_iconst d_O_crash_33 fr_i4 ?_
    refine fr_iload_n d_O_crash_34 rfl ?_
    refine fr_imul d_O_crash_35 ?_
    refine fr_teq (x' := nI (4 * i)) (pk_mul (4) (i)) ?_
    refine fr_iconst d_O_crash_36 fr_i4 ?_
    refine fr_iadd d_O_crash_37 ?_
    refine fr_teq (x' := nI (4 * i + 4)) (nI_add (4 * i) (4)) ?_
    refine fr_icmp_ge 54 d_O_crash_38 rfl (fun h => absurd h (nI_ge (by omega) (by have := fm_lt8 hw hi; omega))) (fun _ => ?_)
    refine fr_aload_n d_O_crash_41 rfl ?_
    refine fr_getr (k' := 54) (r' := 0) d_O_crash_42 fl_O_47 rfl rfl rfl (Or.inr ⟨rfl, rfl⟩) ?_
    refine fr_iload_n d_O_crash_45 rfl ?_
    refine fr_iconst d_O_crash_46 fr_i0 ?_
    refine fr_iast (4 * i + 2) d_O_crash_47 rfl rfl (Or.inr ⟨rfl, rfl⟩) rfl (by have := fm_lt8 hw hi; omega) (by decide) ?_
    refine fr_iinc (v := (nI (4 * i + 3))) (L' := [(3, .int _), (2, .int _), (0, .ref _), (1, .int _)]) d_O_crash_48 rfl (fr_inc _) (by decide) rfl ?_
    refine fr_goto 32 d_O_crash_51 rfl ?_
    refine fr_iload_n d_O_crash_32 rfl ?_
    refine fr_iconst d_O_crash_33 fr_i4 ?_
    refine fr_iload_n d_O_crash_34 rfl ?_
    refine fr_imul d_O_crash_35 ?_
    refine fr_teq (x' := nI (4 * i)) (pk_mul (4) (i)) ?_
    refine fr_iconst d_O_crash_36 fr_i4 ?_
    refine fr_iadd d_O_crash_37 ?_
    refine fr_teq (x' := nI (4 * i + 4)) (nI_add (4 * i) (4)) ?_
    refine fr_icmp_ge 54 d_O_crash_38 rfl (fun h => absurd h (nI_ge (by omega) (by have := fm_lt8 hw hi; omega))) (fun _ => ?_)
    refine fr_aload_n d_O_crash_41 rfl ?_
    refine fr_getr (k' := 54) (r' := 0) d_O_crash_42 fl_O_47 rfl rfl rfl (Or.inr ⟨rfl, rfl⟩) ?_
    refine fr_iload_n d_O_crash_45 rfl ?_
    refine fr_iconst d_O_crash_46 fr_i0 ?_
    refine fr_iast (4 * i + 3) d_O_crash_47 rfl rfl (Or.inr ⟨rfl, rfl⟩) rfl (by have := fm_lt8 hw hi; omega) (by decide) ?_
    refine fr_iinc (v := (nI (4 * i + 4))) (L' := [(3, .int _), (2, .int _), (0, .ref _), (1, .int _)]) d_O_crash_48 rfl (fr_inc _) (by decide) rfl ?_
    refine fr_goto 32 d_O_crash_51 rfl ?_
    refine fr_iload_n d_O_crash_32 rfl ?_
    refine fr_iconst d_O_crash_33 fr_i4 ?_
    refine fr_iload_n d_O_crash_34 rfl ?_
    refine fr_imul d_O_crash_35 ?_
    refine fr_teq (x' := nI (4 * i)) (pk_mul (4) (i)) ?_
    refine fr_iconst d_O_crash_36 fr_i4 ?_
    refine fr_iadd d_O_crash_37 ?_
    refine fr_teq (x' := nI (4 * i + 4)) (nI_add (4 * i) (4)) ?_
    refine fr_icmp_ge 54 d_O_crash_38 rfl (fun _ => ?_) (fun h => absurd (nI_le (by omega) (by have := fm_lt8 hw hi; omega)) h)
    refine fr_aload_n d_O_crash_54 rfl ?_
    refine fr_getr (k' := 55) (r' := 0) d_O_crash_55 fl_O_50 rfl rfl rfl (Or.inr ⟨rfl, rfl⟩) ?_
    refine fr_iload_n d_O_crash_58 rfl ?_
    refine fr_lconst d_O_crash_59 fr_l0 ?_
    refine fr_last (i) d_O_crash_60 rfl rfl (Or.inr ⟨rfl, rfl⟩) rfl (fm_lt8 hw hi) (by decide) ?_
    refine fr_aload_n d_O_crash_61 rfl ?_
    refine fr_getr (k' := 56) (r' := 0) d_O_crash_62 fl_O_54 rfl rfl rfl (Or.inr ⟨rfl, rfl⟩) ?_
    refine fr_iload_n d_O_crash_65 rfl ?_
    refine fr_iconst d_O_crash_66 fr_i0 ?_
    refine fr_zast (i) d_O_crash_67 rfl rfl (Or.inl rfl) (Or.inr ⟨rfl, rfl⟩) rfl (fm_lt8 hw hi) (by decide) ?_
    refine fr_aload_n d_O_crash_68 rfl ?_
    refine fr_getr (k' := 57) (r' := 0) d_O_crash_69 fl_O_57 rfl rfl rfl (Or.inr ⟨rfl, rfl⟩) ?_
    refine fr_iload_n d_O_crash_72 rfl ?_
    refine fr_iconst d_O_crash_73 fr_i0 ?_
    refine fr_iast (i) d_O_crash_74 rfl rfl (Or.inr ⟨rfl, rfl⟩) rfl (fm_lt8 hw hi) (by decide) ?_
    refine fr_aload_n d_O_crash_75 rfl ?_
    refine fr_getr (k' := 58) (r' := 0) d_O_crash_76 fl_O_60 rfl rfl rfl (Or.inr ⟨rfl, rfl⟩) ?_
    refine fr_iload_n d_O_crash_79 rfl ?_
    refine fr_iconst d_O_crash_80 fr_i0 ?_
    refine fr_iast (i) d_O_crash_81 rfl rfl (Or.inr ⟨rfl, rfl⟩) rfl (fm_lt8 hw hi) (by decide) ?_
    refine fr_aload_n d_O_crash_82 rfl ?_
    refine fr_getr (k' := 68) (r' := 0) d_O_crash_83 fl_O_90 rfl rfl rfl (Or.inr ⟨rfl, rfl⟩) ?_
    refine fr_iload_n d_O_crash_86 rfl ?_
    refine fr_iconst d_O_crash_87 fr_i0 ?_
    refine fr_iast (i) d_O_crash_88 rfl rfl (Or.inr ⟨rfl, rfl⟩) rfl (fm_lt8 hw hi) (by decide) ?_
    refine fr_aload_n d_O_crash_89 rfl ?_
    refine fr_getr (k' := 71) (r' := 0) d_O_crash_90 fl_O_99 rfl rfl rfl (Or.inr ⟨rfl, rfl⟩) ?_
    refine fr_iload_n d_O_crash_93 rfl ?_
    refine fr_iconst d_O_crash_94 fr_i0 ?_
    refine fr_iast (i) d_O_crash_95 rfl rfl (Or.inr ⟨rfl, rfl⟩) rfl (fm_lt8 hw hi) (by decide) ?_
    refine fr_aload_n d_O_crash_96 rfl ?_
    refine fr_getr (k' := 60) (r' := 0) d_O_crash_97 fl_O_66 rfl rfl rfl (Or.inr ⟨rfl, rfl⟩) ?_
    refine fr_iload_n d_O_crash_100 rfl ?_
    refine fr_iconst d_O_crash_101 fr_i0 ?_
    refine fr_iast (i) d_O_crash_102 rfl rfl (Or.inr ⟨rfl, rfl⟩) rfl (fm_lt8 hw hi) (by decide) ?_
    refine fr_aload_n d_O_crash_103 rfl ?_
    refine fr_getr (k' := 63) (r' := 0) d_O_crash_104 fl_O_75 rfl rfl rfl (Or.inr ⟨rfl, rfl⟩) ?_
    refine fr_iload_n d_O_crash_107 rfl ?_
    refine fr_iconst d_O_crash_108 fr_i0 ?_
    refine fr_zast (i) d_O_crash_109 rfl rfl (Or.inl rfl) (Or.inr ⟨rfl, rfl⟩) rfl (fm_lt8 hw hi) (by decide) ?_
    refine fr_aload_n d_O_crash_110 rfl ?_
    refine fr_getr (k' := 66) (r' := 0) d_O_crash_111 fl_O_84 rfl rfl rfl (Or.inr ⟨rfl, rfl⟩) ?_
    refine fr_iload_n d_O_crash_114 rfl ?_
    refine fr_iconst d_O_crash_115 fr_i0 ?_
    refine fr_iast (i) d_O_crash_116 rfl rfl (Or.inr ⟨rfl, rfl⟩) rfl (fm_lt8 hw hi) (by decide) ?_
    refine fr_aload_n d_O_crash_117 rfl ?_
    refine fr_getr (k' := 65) (r' := 0) d_O_crash_118 fl_O_81 rfl rfl rfl (Or.inr ⟨rfl, rfl⟩) ?_
    refine fr_iload_n d_O_crash_121 rfl ?_
    refine fr_aload_n d_O_crash_122 rfl ?_
    refine fr_getr (k' := 43) (r' := 0) d_O_crash_123 fl_O_13 rfl rfl rfl (Or.inr ⟨rfl, rfl⟩) ?_
    refine fr_iload_n d_O_crash_126 rfl ?_
    refine fr_zald (i) d_O_crash_127 rfl rfl (Or.inr ⟨rfl, rfl⟩) rfl (fm_lt8 hw hi) (by decide) ?_
    refine fr_tif_ne (t := 135) (j := 136) d_O_crash_128 rfl (fun k => fr_iconst d_O_crash_131 fr_i1 (fr_goto 136 d_O_crash_132 rfl k)) (fun k => fr_iconst d_O_crash_135 fr_i0 k) ?_
    refine fr_zast (i) d_O_crash_136 rfl rfl fr_if10 (Or.inr ⟨rfl, rfl⟩) rfl (fm_lt8 hw hi) (by decide) ?_
    refine fr_iinc (v := (nI (i + 1))) (L' := [(2, .int _), (3, .int _), (0, .ref _), (1, .int _)]) d_O_crash_137 rfl (fr_inc _) (by decide) rfl ?_
    refine fr_goto 20 d_O_crash_140 rfl ?_
    refine fr_pick (L' := [(2, .int _), (0, .ref _), (1, .int _)]) [0, 2, 3] rfl ?_
    have he : fr_jt (fb_O_crash ) ((fr_ui I 20 0 33 (I 20 0 34)), J) (i + 1) = ((fr_ui (fr_ui (fr_ui (fr_ui (fr_ui (fr_ui (fr_ui (fr_ui (fr_ui (fr_ui (fr_ui (fr_ui (fr_ui (fr_jt (fb_O_crash ) ((fr_ui I 20 0 33 (I 20 0 34)), J) i).1 54 0 (4 * i) 0) 54 0 (4 * i + 1) 0) 54 0 (4 * i + 2) 0) 54 0 (4 * i + 3) 0) 56 0 i 0) 57 0 i 0) 58 0 i 0) 68 0 i 0) 71 0 i 0) 60 0 i 0) 63 0 i 0) 66 0 i 0) 65 0 i (if ((fr_ui (fr_ui (fr_ui (fr_ui (fr_ui (fr_ui (fr_ui (fr_ui (fr_ui (fr_ui (fr_ui (fr_ui (fr_jt (fb_O_crash ) ((fr_ui I 20 0 33 (I 20 0 34)), J) i).1 54 0 (4 * i) 0) 54 0 (4 * i + 1) 0) 54 0 (4 * i + 2) 0) 54 0 (4 * i + 3) 0) 56 0 i 0) 57 0 i 0) 58 0 i 0) 68 0 i 0) 71 0 i 0) 60 0 i 0) 63 0 i 0) 66 0 i 0) 43 0 i) = 0 then (1 : Int32) else 0)), (fr_uj (fr_jt (fb_O_crash ) ((fr_ui I 20 0 33 (I 20 0 34)), J) i).2 55 0 i 0)) := by rw [fr_jt_s, fb_O_crash_eq]
    refine fr_eqI (fr_pr1 (J' := J) (I' := I) he) (fr_pr2 (J' := J) (I' := I) he) ?_
    exact ih
theorem fw_O_crash {n : Nat} {I : fr_I} {J : fr_J} (hw : fr_mw n I) : fr_mw n (f_O_crash I J n).2.1 := by
  unfold f_O_crash
  exact (fw_jt n (fun s i hi hw => fw_fb_O_crash  hw) (fm_cr hw) n (Nat.le_refl _))
theorem fc_O_crash {P : fr_I → Prop} (hP : fr_ost P) {n : Nat} {I : fr_I} {J : fr_J} (h : P I) : P (f_O_crash I J n).2.1 := by
  unfold f_O_crash
  exact (fw_jt n (fun s i hi h => fc_fb_O_crash hP h) (hP (k := 20) (by decide) h) n (Nat.le_refl _))
theorem fcj_O_crash {P : fr_J → Prop} (hP : fr_ostJ P) {n : Nat} {I : fr_I} {J : fr_J} (h : P J) : P (f_O_crash I J n).2.2 := by
  unfold f_O_crash
  exact (fw_jt2 n (fun s i hi h => fcj_fb_O_crash hP h) h n (Nat.le_refl _))

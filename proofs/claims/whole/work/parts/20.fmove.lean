theorem fr_has_in {I : fr_I} {q e : Nat} (hq : q < e) (he : I 4 0 2 = nI e) (he2 : e ≤ 200) : f_J_has I (nI q) = 1 := by
  unfold f_J_has
  rw [if_neg (nI_pos (by omega)), he, if_neg (nI_ge hq (by omega))]
/-- the relays below r, from i on, m of them: does one hold r back? -/
def fr_bl (I : fr_I) (r : Nat) : Nat → Nat → Int32
  | 0, _ => 0
  | m + 1, i => if (I 7 i 0) = (nI r) then (if (f_W_holdsBack I i (I 0 0 5)) = 0 then fr_bl I r m (i + 1) else 1) else fr_bl I r m (i + 1)
theorem fr_bl_n {I : fr_I} {r m i : Nat} (h : ¬ (I 7 i 0) = (nI r)) : fr_bl I r (m + 1) i = fr_bl I r m (i + 1) := if_neg h
theorem fr_bl_0 {I : fr_I} {r m i : Nat} (h : (I 7 i 0) = (nI r)) (h2 : (f_W_holdsBack I i (I 0 0 5)) = 0) : fr_bl I r (m + 1) i = fr_bl I r m (i + 1) := (if_pos h).trans (if_pos h2)
theorem fr_bl_1 {I : fr_I} {r m i : Nat} (h : (I 7 i 0) = (nI r)) (h2 : ¬ (f_W_holdsBack I i (I 0 0 5)) = 0) : fr_bl I r (m + 1) i = 1 := (if_pos h).trans (if_neg h2)
def f_F_event (I : fr_I) (q : Nat) : Int32 :=
  (I 5 0 q)
set_option maxRecDepth 10000 in
theorem ct_F_event (X : fr_X) (n : Nat) (q e : Nat) (I : fr_I) (J : fr_J)  (hq : q < e) (he : I 4 0 2 = nI e) (he2 : e ≤ 200) : fr_Ct X y_F_event c_F_event 2 (some .int) (fr_rm 1) [.ref (fr_ad X 0 0), .int (nI q)] (fr_Z0 X n) (fr_Z0 X n) I J (fr_pi (fun x I' J' => (f_F_event I q) = x ∧ I = I' ∧ J = J')) := by
  refine fr_ct (by decide) rfl rfl (Nat.le_of_ble_eq_true rfl) rfl (fun E => ?_)
  refine fr_aload_n d_F_event_0 rfl ?_
  refine fr_getr (k' := 4) (r' := 0) d_F_event_1 fl_F_26 rfl rfl rfl (Or.inr ⟨rfl, rfl⟩) ?_
  refine fr_iload_n d_F_event_4 rfl ?_
  refine fr_callVi fr_q1 d_F_event_5 (ct_J_has X n _ _ _) mv_F_146 rfl rfl rfl (Or.inr ⟨rfl, rfl⟩) rfl rfl ⟨Nat.le_of_ble_eq_true rfl, Nat.le_of_ble_eq_true rfl⟩ ⟨rfl, rfl⟩ ⟨Nat.zero_le _, Nat.zero_le _⟩ (Nat.le_of_ble_eq_true rfl) (fun x I' J' hp1 => ?_)
  obtain ⟨rfl, rfl, rfl⟩ := hp1
  rw [fr_has_in hq he he2]
  refine fr_if_eq 23 d_F_event_8 rfl (fun h => absurd h (by decide)) (fun _ => ?_)
  refine fr_aload_n d_F_event_11 rfl ?_
  refine fr_getr (k' := 4) (r' := 0) d_F_event_12 fl_F_26 rfl rfl rfl (Or.inr ⟨rfl, rfl⟩) ?_
  refine fr_getr (k' := 5) (r' := 0) d_F_event_15 fl_F_149 rfl rfl rfl (Or.inr ⟨rfl, rfl⟩) ?_
  refine fr_iload_n d_F_event_18 rfl ?_
  refine fr_iald (q) d_F_event_19 rfl rfl (Or.inr ⟨rfl, rfl⟩) rfl (Nat.lt_of_lt_of_le hq he2) (by decide) ?_
  refine fr_goto 24 d_F_event_20 rfl ?_
  exact fr_iret d_F_event_24 rfl (fr_nar_i _) (Nat.zero_le _) (Nat.zero_le _) ⟨rfl, rfl, rfl⟩
def f_F_event_no (I : fr_I) (p1 : Int32) : Int32 :=
  (-1)
set_option maxRecDepth 10000 in
theorem ct_F_event_no (X : fr_X) (n : Nat) (I : fr_I) (J : fr_J) (p1 : Int32) (hx : f_J_has I p1 = 0) : fr_Ct X y_F_event c_F_event 2 (some .int) (fr_rm 1) [.ref (fr_ad X 0 0), .int p1] (fr_Z0 X n) (fr_Z0 X n) I J (fr_pi (fun x I' J' => (f_F_event_no I p1) = x ∧ I = I' ∧ J = J')) := by
  refine fr_ct (by decide) rfl rfl (Nat.le_of_ble_eq_true rfl) rfl (fun E => ?_)
  refine fr_aload_n d_F_event_0 rfl ?_
  refine fr_getr (k' := 4) (r' := 0) d_F_event_1 fl_F_26 rfl rfl rfl (Or.inr ⟨rfl, rfl⟩) ?_
  refine fr_iload_n d_F_event_4 rfl ?_
  refine fr_callVi fr_q1 d_F_event_5 (ct_J_has X n _ _ _) mv_F_146 rfl rfl rfl (Or.inr ⟨rfl, rfl⟩) rfl rfl ⟨Nat.le_of_ble_eq_true rfl, Nat.le_of_ble_eq_true rfl⟩ ⟨rfl, rfl⟩ ⟨Nat.zero_le _, Nat.zero_le _⟩ (Nat.le_of_ble_eq_true rfl) (fun x I' J' hp1 => ?_)
  obtain ⟨rfl, rfl, rfl⟩ := hp1
  rw [hx]
  refine fr_if_eq 23 d_F_event_8 rfl (fun _ => ?_) (fun h => absurd h (by decide))
  refine fr_iconst d_F_event_23 fr_im1 ?_
  exact fr_iret d_F_event_24 rfl (fr_nar_i _) (Nat.zero_le _) (Nat.zero_le _) ⟨rfl, rfl, rfl⟩
def f_F_when (I : fr_I) (q : Nat) : Int32 :=
  (I 6 0 q)
set_option maxRecDepth 10000 in
theorem ct_F_when (X : fr_X) (n : Nat) (q e : Nat) (I : fr_I) (J : fr_J)  (hq : q < e) (he : I 4 0 2 = nI e) (he2 : e ≤ 200) : fr_Ct X y_F_when c_F_when 2 (some .int) (fr_rm 1) [.ref (fr_ad X 0 0), .int (nI q)] (fr_Z0 X n) (fr_Z0 X n) I J (fr_pi (fun x I' J' => (f_F_when I q) = x ∧ I = I' ∧ J = J')) := by
  refine fr_ct (by decide) rfl rfl (Nat.le_of_ble_eq_true rfl) rfl (fun E => ?_)
  refine fr_aload_n d_F_when_0 rfl ?_
  refine fr_getr (k' := 4) (r' := 0) d_F_when_1 fl_F_26 rfl rfl rfl (Or.inr ⟨rfl, rfl⟩) ?_
  refine fr_iload_n d_F_when_4 rfl ?_
  refine fr_callVi fr_q1 d_F_when_5 (ct_J_has X n _ _ _) mv_F_146 rfl rfl rfl (Or.inr ⟨rfl, rfl⟩) rfl rfl ⟨Nat.le_of_ble_eq_true rfl, Nat.le_of_ble_eq_true rfl⟩ ⟨rfl, rfl⟩ ⟨Nat.zero_le _, Nat.zero_le _⟩ (Nat.le_of_ble_eq_true rfl) (fun x I' J' hp1 => ?_)
  obtain ⟨rfl, rfl, rfl⟩ := hp1
  rw [fr_has_in hq he he2]
  refine fr_if_eq 23 d_F_when_8 rfl (fun h => absurd h (by decide)) (fun _ => ?_)
  refine fr_aload_n d_F_when_11 rfl ?_
  refine fr_getr (k' := 4) (r' := 0) d_F_when_12 fl_F_26 rfl rfl rfl (Or.inr ⟨rfl, rfl⟩) ?_
  refine fr_getr (k' := 6) (r' := 0) d_F_when_15 fl_F_152 rfl rfl rfl (Or.inr ⟨rfl, rfl⟩) ?_
  refine fr_iload_n d_F_when_18 rfl ?_
  refine fr_iald (q) d_F_when_19 rfl rfl (Or.inr ⟨rfl, rfl⟩) rfl (Nat.lt_of_lt_of_le hq he2) (by decide) ?_
  refine fr_goto 24 d_F_when_20 rfl ?_
  exact fr_iret d_F_when_24 rfl (fr_nar_i _) (Nat.zero_le _) (Nat.zero_le _) ⟨rfl, rfl, rfl⟩
def f_F_when_no (I : fr_I) (p1 : Int32) : Int32 :=
  (-1)
set_option maxRecDepth 10000 in
theorem ct_F_when_no (X : fr_X) (n : Nat) (I : fr_I) (J : fr_J) (p1 : Int32) (hx : f_J_has I p1 = 0) : fr_Ct X y_F_when c_F_when 2 (some .int) (fr_rm 1) [.ref (fr_ad X 0 0), .int p1] (fr_Z0 X n) (fr_Z0 X n) I J (fr_pi (fun x I' J' => (f_F_when_no I p1) = x ∧ I = I' ∧ J = J')) := by
  refine fr_ct (by decide) rfl rfl (Nat.le_of_ble_eq_true rfl) rfl (fun E => ?_)
  refine fr_aload_n d_F_when_0 rfl ?_
  refine fr_getr (k' := 4) (r' := 0) d_F_when_1 fl_F_26 rfl rfl rfl (Or.inr ⟨rfl, rfl⟩) ?_
  refine fr_iload_n d_F_when_4 rfl ?_
  refine fr_callVi fr_q1 d_F_when_5 (ct_J_has X n _ _ _) mv_F_146 rfl rfl rfl (Or.inr ⟨rfl, rfl⟩) rfl rfl ⟨Nat.le_of_ble_eq_true rfl, Nat.le_of_ble_eq_true rfl⟩ ⟨rfl, rfl⟩ ⟨Nat.zero_le _, Nat.zero_le _⟩ (Nat.le_of_ble_eq_true rfl) (fun x I' J' hp1 => ?_)
  obtain ⟨rfl, rfl, rfl⟩ := hp1
  rw [hx]
  refine fr_if_eq 23 d_F_when_8 rfl (fun _ => ?_) (fun h => absurd h (by decide))
  refine fr_iconst d_F_when_23 fr_im1 ?_
  exact fr_iret d_F_when_24 rfl (fr_nar_i _) (Nat.zero_le _) (Nat.zero_le _) ⟨rfl, rfl, rfl⟩
def f_F_moveBreaker (I : fr_I) (r : Nat) : fr_I :=
  if (f_B_mustOpen I r (I 0 0 5)) = 0 then
    if (f_B_mustClose I r (I 0 0 5)) = 0 then
      if (f_B_mustReclaim I r (I 0 0 5)) = 0 then
        I
      else
        (f_J_add ((fr_ui I 10 r 5 0)) 4 (nI r) ((fr_ui I 10 r 5 0) 0 0 5))
    else
      (f_J_add ((f_B_closeAgain I r (I 0 0 5))) 3 (nI r) ((f_B_closeAgain I r (I 0 0 5)) 0 0 5))
  else
    if (I 10 r 4) = 0 then
      (f_J_add ((fr_ui (f_J_add ((f_B_open I r)) 2 (nI r) ((f_B_open I r) 0 0 5)) 10 r 2 1)) 5 (nI r) ((fr_ui (f_J_add ((f_B_open I r)) 2 (nI r) ((f_B_open I r) 0 0 5)) 10 r 2 1) 0 0 5))
    else
      if (if (I 7 r 5) ≤ (I 10 r 5) then (0 : Int32) else 1) = 0 then
        (f_J_add ((fr_ui (f_J_add ((f_B_open I r)) 2 (nI r) ((f_B_open I r) 0 0 5)) 10 r 2 1)) 5 (nI r) ((fr_ui (f_J_add ((f_B_open I r)) 2 (nI r) ((f_B_open I r) 0 0 5)) 10 r 2 1) 0 0 5))
      else
        (f_B_awaitClosing ((f_J_add ((f_B_open I r)) 2 (nI r) ((f_B_open I r) 0 0 5))) r ((f_J_add ((f_B_open I r)) 2 (nI r) ((f_B_open I r) 0 0 5)) 0 0 5))
set_option maxRecDepth 10000 in
theorem ct_F_moveBreaker (X : fr_X) (n : Nat) (r : Nat) (hr : r < n) (I : fr_I) (J : fr_J)  (hw : fr_wf n I) : fr_Ct X y_F_moveBreaker c_F_moveBreaker 4 none (fr_rm 2) [.ref (fr_ad X 0 0), .int (nI r)] (fr_Z0 X n) (fr_Z0 X n) I J (fr_pv (fun I' J' => (f_F_moveBreaker I r) = I' ∧ J = J')) := by
  refine fr_ct (by decide) rfl rfl (Nat.le_of_ble_eq_true rfl) rfl (fun E => ?_)
  refine fr_aload_n d_F_moveBreaker_0 rfl ?_
  refine fr_getr (k' := 1) (r' := 0) d_F_moveBreaker_1 fl_F_11 rfl rfl rfl (Or.inr ⟨rfl, rfl⟩) ?_
  refine fr_iload_n d_F_moveBreaker_4 rfl ?_
  refine fr_aald (k' := 7) (r' := r) (r) d_F_moveBreaker_5 rfl rfl (if_pos hr) (Or.inr ⟨rfl, rfl⟩) rfl (fw_lt8 hw hr) (by decide) ?_
  refine fr_getr (k' := 10) (r' := r) d_F_moveBreaker_6 fl_F_77 rfl rfl rfl (Or.inl ⟨rfl, hr⟩) ?_
  refine fr_astore_n (L' := [(2, .ref _), (0, .ref _), (1, .int _)]) d_F_moveBreaker_9 (by decide) rfl ?_
  refine fr_aload_n d_F_moveBreaker_10 rfl ?_
  refine fr_aload_n d_F_moveBreaker_11 rfl ?_
  refine fr_geti d_F_moveBreaker_12 fl_F_34 rfl rfl (Or.inr ⟨rfl, rfl⟩) ?_
  refine fr_callVi fr_q4 d_F_moveBreaker_15 (ct_B_mustOpen X n r hr _ _ _) mv_F_173 rfl rfl rfl (Or.inl ⟨rfl, hr⟩) rfl rfl ⟨Nat.le_of_ble_eq_true rfl, Nat.le_of_ble_eq_true rfl⟩ ⟨rfl, rfl⟩ ⟨Nat.zero_le _, Nat.zero_le _⟩ (Nat.le_of_ble_eq_true rfl) (fun x I' J' hp1 => ?_)
  obtain ⟨rfl, rfl, rfl⟩ := hp1
  refine fr_if_eq 103 d_F_moveBreaker_18 rfl (fun h2 => ?_) (fun h2 => ?_)
  · skip
    refine fr_aload_n d_F_moveBreaker_103 rfl ?_
    refine fr_aload_n d_F_moveBreaker_104 rfl ?_
    refine fr_geti d_F_moveBreaker_105 fl_F_34 rfl rfl (Or.inr ⟨rfl, rfl⟩) ?_
    refine fr_callVi fr_q4 d_F_moveBreaker_108 (ct_B_mustClose X n r hr _ _ _) mv_F_191 rfl rfl rfl (Or.inl ⟨rfl, hr⟩) rfl rfl ⟨Nat.le_of_ble_eq_true rfl, Nat.le_of_ble_eq_true rfl⟩ ⟨rfl, rfl⟩ ⟨Nat.zero_le _, Nat.zero_le _⟩ (Nat.le_of_ble_eq_true rfl) (fun x I' J' hp3 => ?_)
    obtain ⟨rfl, rfl, rfl⟩ := hp3
    refine fr_if_eq 138 d_F_moveBreaker_111 rfl (fun h4 => ?_) (fun h4 => ?_)
    · skip
      refine fr_aload_n d_F_moveBreaker_138 rfl ?_
      refine fr_aload_n d_F_moveBreaker_139 rfl ?_
      refine fr_geti d_F_moveBreaker_140 fl_F_34 rfl rfl (Or.inr ⟨rfl, rfl⟩) ?_
      refine fr_callVi fr_q4 d_F_moveBreaker_143 (ct_B_mustReclaim X n r hr _ _ _) mv_F_197 rfl rfl rfl (Or.inl ⟨rfl, hr⟩) rfl rfl ⟨Nat.le_of_ble_eq_true rfl, Nat.le_of_ble_eq_true rfl⟩ ⟨rfl, rfl⟩ ⟨Nat.zero_le _, Nat.zero_le _⟩ (Nat.le_of_ble_eq_true rfl) (fun x I' J' hp5 => ?_)
      obtain ⟨rfl, rfl, rfl⟩ := hp5
      refine fr_if_eq 167 d_F_moveBreaker_146 rfl (fun h6 => ?_) (fun h6 => ?_)
      · skip
        exact fr_vret d_F_moveBreaker_167 rfl (Nat.zero_le _) (Nat.zero_le _) ⟨(by unfold f_F_moveBreaker; rw [if_pos h2, if_pos h4, if_pos h6]), rfl⟩
      · skip
        refine fr_aload_n d_F_moveBreaker_149 rfl ?_
        refine fr_iconst d_F_moveBreaker_150 fr_i0 ?_
        refine fr_puti d_F_moveBreaker_151 fl_F_128 rfl rfl (Or.inl ⟨rfl, hr⟩) ?_
        refine fr_aload_n d_F_moveBreaker_154 rfl ?_
        refine fr_getr (k' := 4) (r' := 0) d_F_moveBreaker_155 fl_F_26 rfl rfl rfl (Or.inr ⟨rfl, rfl⟩) ?_
        refine fr_iconst d_F_moveBreaker_158 fr_i4 ?_
        refine fr_iload_n d_F_moveBreaker_159 rfl ?_
        refine fr_aload_n d_F_moveBreaker_160 rfl ?_
        refine fr_geti d_F_moveBreaker_161 fl_F_34 rfl rfl (Or.inr ⟨rfl, rfl⟩) ?_
        refine fr_callVv fr_q1 d_F_moveBreaker_164 (ct_J_add X n _ _ _ _ _ (fw_ui (k := 10) (j := 5) rfl hw)) mv_F_182 rfl rfl rfl (Or.inr ⟨rfl, rfl⟩) rfl rfl ⟨Nat.le_of_ble_eq_true rfl, Nat.le_of_ble_eq_true rfl⟩ ⟨rfl, rfl⟩ ⟨Nat.zero_le _, Nat.zero_le _⟩ (Nat.le_of_ble_eq_true rfl) (fun I' J' hp7 => ?_)
        obtain ⟨rfl, rfl⟩ := hp7
        exact fr_vret d_F_moveBreaker_167 rfl (Nat.zero_le _) (Nat.zero_le _) ⟨(by unfold f_F_moveBreaker; rw [if_pos h2, if_pos h4, if_neg h6]), rfl⟩
    · skip
      refine fr_aload_n d_F_moveBreaker_114 rfl ?_
      refine fr_aload_n d_F_moveBreaker_115 rfl ?_
      refine fr_geti d_F_moveBreaker_116 fl_F_34 rfl rfl (Or.inr ⟨rfl, rfl⟩) ?_
      refine fr_callVv fr_q4 d_F_moveBreaker_119 (ct_B_closeAgain X n r hr _ _ _) mv_F_194 rfl rfl rfl (Or.inl ⟨rfl, hr⟩) rfl rfl ⟨Nat.le_of_ble_eq_true rfl, Nat.le_of_ble_eq_true rfl⟩ ⟨rfl, rfl⟩ ⟨Nat.zero_le _, Nat.zero_le _⟩ (Nat.le_of_ble_eq_true rfl) (fun I' J' hp8 => ?_)
      obtain ⟨rfl, rfl⟩ := hp8
      refine fr_aload_n d_F_moveBreaker_122 rfl ?_
      refine fr_getr (k' := 4) (r' := 0) d_F_moveBreaker_123 fl_F_26 rfl rfl rfl (Or.inr ⟨rfl, rfl⟩) ?_
      refine fr_iconst d_F_moveBreaker_126 fr_i3 ?_
      refine fr_iload_n d_F_moveBreaker_127 rfl ?_
      refine fr_aload_n d_F_moveBreaker_128 rfl ?_
      refine fr_geti d_F_moveBreaker_129 fl_F_34 rfl rfl (Or.inr ⟨rfl, rfl⟩) ?_
      refine fr_callVv fr_q1 d_F_moveBreaker_132 (ct_J_add X n _ _ _ _ _ (fw_B_closeAgain hw)) mv_F_182 rfl rfl rfl (Or.inr ⟨rfl, rfl⟩) rfl rfl ⟨Nat.le_of_ble_eq_true rfl, Nat.le_of_ble_eq_true rfl⟩ ⟨rfl, rfl⟩ ⟨Nat.zero_le _, Nat.zero_le _⟩ (Nat.le_of_ble_eq_true rfl) (fun I' J' hp9 => ?_)
      obtain ⟨rfl, rfl⟩ := hp9
      refine fr_goto 167 d_F_moveBreaker_135 rfl ?_
      exact fr_vret d_F_moveBreaker_167 rfl (Nat.zero_le _) (Nat.zero_le _) ⟨(by unfold f_F_moveBreaker; rw [if_pos h2, if_neg h4]), rfl⟩
  · skip
    refine fr_aload_n d_F_moveBreaker_21 rfl ?_
    refine fr_geti d_F_moveBreaker_22 fl_F_176 rfl rfl (Or.inl ⟨rfl, hr⟩) ?_
    refine fr_if_eq 48 d_F_moveBreaker_25 rfl (fun h10 => ?_) (fun h10 => ?_)
    · skip
      refine fr_iconst d_F_moveBreaker_48 fr_i0 ?_
      refine fr_istore_n (L' := [(3, .int _), (2, .ref _), (0, .ref _), (1, .int _)]) d_F_moveBreaker_49 (by decide) rfl ?_
      refine fr_aload_n d_F_moveBreaker_50 rfl ?_
      refine fr_callVv fr_q4 d_F_moveBreaker_51 (ct_B_open X n r hr _ _) mv_F_179 rfl rfl rfl (Or.inl ⟨rfl, hr⟩) rfl rfl ⟨Nat.le_of_ble_eq_true rfl, Nat.le_of_ble_eq_true rfl⟩ ⟨rfl, rfl⟩ ⟨Nat.zero_le _, Nat.zero_le _⟩ (Nat.le_of_ble_eq_true rfl) (fun I' J' hp11 => ?_)
      obtain ⟨rfl, rfl⟩ := hp11
      refine fr_aload_n d_F_moveBreaker_54 rfl ?_
      refine fr_getr (k' := 4) (r' := 0) d_F_moveBreaker_55 fl_F_26 rfl rfl rfl (Or.inr ⟨rfl, rfl⟩) ?_
      refine fr_iconst d_F_moveBreaker_58 fr_i2 ?_
      refine fr_iload_n d_F_moveBreaker_59 rfl ?_
      refine fr_aload_n d_F_moveBreaker_60 rfl ?_
      refine fr_geti d_F_moveBreaker_61 fl_F_34 rfl rfl (Or.inr ⟨rfl, rfl⟩) ?_
      refine fr_callVv fr_q1 d_F_moveBreaker_64 (ct_J_add X n _ _ _ _ _ (fw_B_open hw)) mv_F_182 rfl rfl rfl (Or.inr ⟨rfl, rfl⟩) rfl rfl ⟨Nat.le_of_ble_eq_true rfl, Nat.le_of_ble_eq_true rfl⟩ ⟨rfl, rfl⟩ ⟨Nat.zero_le _, Nat.zero_le _⟩ (Nat.le_of_ble_eq_true rfl) (fun I' J' hp12 => ?_)
      obtain ⟨rfl, rfl⟩ := hp12
      refine fr_iload_n d_F_moveBreaker_67 rfl ?_
      refine fr_if_eq 82 d_F_moveBreaker_68 rfl (fun _ => ?_) (fun h => absurd h (by decide))
      refine fr_aload_n d_F_moveBreaker_82 rfl ?_
      refine fr_iconst d_F_moveBreaker_83 fr_i1 ?_
      refine fr_putz d_F_moveBreaker_84 fl_F_188 rfl rfl (Or.inr rfl) (Or.inl ⟨rfl, hr⟩) ?_
      refine fr_aload_n d_F_moveBreaker_87 rfl ?_
      refine fr_getr (k' := 4) (r' := 0) d_F_moveBreaker_88 fl_F_26 rfl rfl rfl (Or.inr ⟨rfl, rfl⟩) ?_
      refine fr_iconst d_F_moveBreaker_91 fr_i5 ?_
      refine fr_iload_n d_F_moveBreaker_92 rfl ?_
      refine fr_aload_n d_F_moveBreaker_93 rfl ?_
      refine fr_geti d_F_moveBreaker_94 fl_F_34 rfl rfl (Or.inr ⟨rfl, rfl⟩) ?_
      refine fr_callVv fr_q1 d_F_moveBreaker_97 (ct_J_add X n _ _ _ _ _ (fw_ui (k := 10) (j := 2) rfl (fw_J_add (fw_B_open hw)))) mv_F_182 rfl rfl rfl (Or.inr ⟨rfl, rfl⟩) rfl rfl ⟨Nat.le_of_ble_eq_true rfl, Nat.le_of_ble_eq_true rfl⟩ ⟨rfl, rfl⟩ ⟨Nat.zero_le _, Nat.zero_le _⟩ (Nat.le_of_ble_eq_true rfl) (fun I' J' hp13 => ?_)
      obtain ⟨rfl, rfl⟩ := hp13
      refine fr_goto 167 d_F_moveBreaker_100 rfl ?_
      exact fr_vret d_F_moveBreaker_167 rfl (Nat.zero_le _) (Nat.zero_le _) ⟨(by unfold f_F_moveBreaker; rw [if_neg h2, if_pos h10]), rfl⟩
    · skip
      refine fr_aload_n d_F_moveBreaker_28 rfl ?_
      refine fr_geti d_F_moveBreaker_29 fl_F_128 rfl rfl (Or.inl ⟨rfl, hr⟩) ?_
      refine fr_aload_n d_F_moveBreaker_32 rfl ?_
      refine fr_getr (k' := 1) (r' := 0) d_F_moveBreaker_33 fl_F_11 rfl rfl rfl (Or.inr ⟨rfl, rfl⟩) ?_
      refine fr_iload_n d_F_moveBreaker_36 rfl ?_
      refine fr_aald (k' := 7) (r' := r) (r) d_F_moveBreaker_37 rfl rfl (if_pos hr) (Or.inr ⟨rfl, rfl⟩) rfl (fw_lt8 hw hr) (by decide) ?_
      refine fr_geti d_F_moveBreaker_38 fl_F_65 rfl rfl (Or.inl ⟨rfl, hr⟩) ?_
      refine fr_ticmp_ge (t := 48) (j := 49) d_F_moveBreaker_41 rfl (fun k => fr_iconst d_F_moveBreaker_44 fr_i1 (fr_goto 49 d_F_moveBreaker_45 rfl k)) (fun k => fr_iconst d_F_moveBreaker_48 fr_i0 k) ?_
      refine fr_istore_n (L' := [(3, .int _), (2, .ref _), (0, .ref _), (1, .int _)]) d_F_moveBreaker_49 (by decide) rfl ?_
      refine fr_aload_n d_F_moveBreaker_50 rfl ?_
      refine fr_callVv fr_q4 d_F_moveBreaker_51 (ct_B_open X n r hr _ _) mv_F_179 rfl rfl rfl (Or.inl ⟨rfl, hr⟩) rfl rfl ⟨Nat.le_of_ble_eq_true rfl, Nat.le_of_ble_eq_true rfl⟩ ⟨rfl, rfl⟩ ⟨Nat.zero_le _, Nat.zero_le _⟩ (Nat.le_of_ble_eq_true rfl) (fun I' J' hp14 => ?_)
      obtain ⟨rfl, rfl⟩ := hp14
      refine fr_aload_n d_F_moveBreaker_54 rfl ?_
      refine fr_getr (k' := 4) (r' := 0) d_F_moveBreaker_55 fl_F_26 rfl rfl rfl (Or.inr ⟨rfl, rfl⟩) ?_
      refine fr_iconst d_F_moveBreaker_58 fr_i2 ?_
      refine fr_iload_n d_F_moveBreaker_59 rfl ?_
      refine fr_aload_n d_F_moveBreaker_60 rfl ?_
      refine fr_geti d_F_moveBreaker_61 fl_F_34 rfl rfl (Or.inr ⟨rfl, rfl⟩) ?_
      refine fr_callVv fr_q1 d_F_moveBreaker_64 (ct_J_add X n _ _ _ _ _ (fw_B_open hw)) mv_F_182 rfl rfl rfl (Or.inr ⟨rfl, rfl⟩) rfl rfl ⟨Nat.le_of_ble_eq_true rfl, Nat.le_of_ble_eq_true rfl⟩ ⟨rfl, rfl⟩ ⟨Nat.zero_le _, Nat.zero_le _⟩ (Nat.le_of_ble_eq_true rfl) (fun I' J' hp15 => ?_)
      obtain ⟨rfl, rfl⟩ := hp15
      refine fr_iload_n d_F_moveBreaker_67 rfl ?_
      refine fr_if_eq 82 d_F_moveBreaker_68 rfl (fun h16 => ?_) (fun h16 => ?_)
      · skip
        refine fr_aload_n d_F_moveBreaker_82 rfl ?_
        refine fr_iconst d_F_moveBreaker_83 fr_i1 ?_
        refine fr_putz d_F_moveBreaker_84 fl_F_188 rfl rfl (Or.inr rfl) (Or.inl ⟨rfl, hr⟩) ?_
        refine fr_aload_n d_F_moveBreaker_87 rfl ?_
        refine fr_getr (k' := 4) (r' := 0) d_F_moveBreaker_88 fl_F_26 rfl rfl rfl (Or.inr ⟨rfl, rfl⟩) ?_
        refine fr_iconst d_F_moveBreaker_91 fr_i5 ?_
        refine fr_iload_n d_F_moveBreaker_92 rfl ?_
        refine fr_aload_n d_F_moveBreaker_93 rfl ?_
        refine fr_geti d_F_moveBreaker_94 fl_F_34 rfl rfl (Or.inr ⟨rfl, rfl⟩) ?_
        refine fr_callVv fr_q1 d_F_moveBreaker_97 (ct_J_add X n _ _ _ _ _ (fw_ui (k := 10) (j := 2) rfl (fw_J_add (fw_B_open hw)))) mv_F_182 rfl rfl rfl (Or.inr ⟨rfl, rfl⟩) rfl rfl ⟨Nat.le_of_ble_eq_true rfl, Nat.le_of_ble_eq_true rfl⟩ ⟨rfl, rfl⟩ ⟨Nat.zero_le _, Nat.zero_le _⟩ (Nat.le_of_ble_eq_true rfl) (fun I' J' hp17 => ?_)
        obtain ⟨rfl, rfl⟩ := hp17
        refine fr_goto 167 d_F_moveBreaker_100 rfl ?_
        exact fr_vret d_F_moveBreaker_167 rfl (Nat.zero_le _) (Nat.zero_le _) ⟨(by unfold f_F_moveBreaker; rw [if_neg h2, if_neg h10, if_pos h16]), rfl⟩
      · skip
        refine fr_aload_n d_F_moveBreaker_71 rfl ?_
        refine fr_aload_n d_F_moveBreaker_72 rfl ?_
        refine fr_geti d_F_moveBreaker_73 fl_F_34 rfl rfl (Or.inr ⟨rfl, rfl⟩) ?_
        refine fr_callVv fr_q4 d_F_moveBreaker_76 (ct_B_awaitClosing X n r hr _ _ _) mv_F_185 rfl rfl rfl (Or.inl ⟨rfl, hr⟩) rfl rfl ⟨Nat.le_of_ble_eq_true rfl, Nat.le_of_ble_eq_true rfl⟩ ⟨rfl, rfl⟩ ⟨Nat.zero_le _, Nat.zero_le _⟩ (Nat.le_of_ble_eq_true rfl) (fun I' J' hp18 => ?_)
        obtain ⟨rfl, rfl⟩ := hp18
        refine fr_goto 100 d_F_moveBreaker_79 rfl ?_
        refine fr_goto 167 d_F_moveBreaker_100 rfl ?_
        exact fr_vret d_F_moveBreaker_167 rfl (Nat.zero_le _) (Nat.zero_le _) ⟨(by unfold f_F_moveBreaker; rw [if_neg h2, if_neg h10, if_neg h16]), rfl⟩
theorem fw_F_moveBreaker {n : Nat} {I : fr_I} {r : Nat} (hw : fr_wf n I) : fr_wf n (f_F_moveBreaker I r) := by
  unfold f_F_moveBreaker
  refine fw_ite (fun h => ?_) (fun h => ?_)
  · skip
    refine fw_ite (fun h => ?_) (fun h => ?_)
    · skip
      refine fw_ite (fun h => ?_) (fun h => ?_)
      · skip
        exact hw
      · skip
        exact (fw_J_add (fw_ui (k := 10) (j := 5) rfl hw))
    · skip
      exact (fw_J_add (fw_B_closeAgain hw))
  · skip
    refine fw_ite (fun h => ?_) (fun h => ?_)
    · skip
      exact (fw_J_add (fw_ui (k := 10) (j := 2) rfl (fw_J_add (fw_B_open hw))))
    · skip
      refine fw_ite (fun h => ?_) (fun h => ?_)
      · skip
        exact (fw_J_add (fw_ui (k := 10) (j := 2) rfl (fw_J_add (fw_B_open hw))))
      · skip
        exact (fw_B_awaitClosing (fw_J_add (fw_B_open hw)))
theorem fc_F_moveBreaker {P : fr_I → Prop} (hP : fr_cst P) {I : fr_I} {r : Nat} (h : P I) : P (f_F_moveBreaker I r) := by
  unfold f_F_moveBreaker
  refine fw_ite (fun _ => ?_) (fun _ => ?_)
  · skip
    refine fw_ite (fun _ => ?_) (fun _ => ?_)
    · skip
      refine fw_ite (fun _ => ?_) (fun _ => ?_)
      · skip
        exact h
      · skip
        exact (fc_J_add hP (hP (k := 10) (by decide) h))
    · skip
      exact (fc_J_add hP (fc_B_closeAgain hP h))
  · skip
    refine fw_ite (fun _ => ?_) (fun _ => ?_)
    · skip
      exact (fc_J_add hP (hP (k := 10) (by decide) (fc_J_add hP (fc_B_open hP h))))
    · skip
      refine fw_ite (fun _ => ?_) (fun _ => ?_)
      · skip
        exact (fc_J_add hP (hP (k := 10) (by decide) (fc_J_add hP (fc_B_open hP h))))
      · skip
        exact (fc_B_awaitClosing hP (fc_J_add hP (fc_B_open hP h)))
def f_F_failIfDue (I : fr_I) (r : Nat) : fr_I :=
  if (I 8 r 6) = 0 then
    I
  else
    if (f_B_isOverdue I r (I 0 0 5) (I 7 r 6)) = 0 then
      I
    else
      if ((f_J_add ((fr_ui I 10 r 3 1)) 6 (nI r) ((fr_ui I 10 r 3 1) 0 0 5)) 7 r 0) = (-1) then
        (f_J_add ((fr_ui I 10 r 3 1)) 6 (nI r) ((fr_ui I 10 r 3 1) 0 0 5))
      else
        if (f_B_takesOrder ((f_J_add ((fr_ui I 10 r 3 1)) 6 (nI r) ((fr_ui I 10 r 3 1) 0 0 5))) (((f_J_add ((fr_ui I 10 r 3 1)) 6 (nI r) ((fr_ui I 10 r 3 1) 0 0 5)) 7 r 0).toNatClampNeg)) = 0 then
          (f_J_add ((fr_ui I 10 r 3 1)) 6 (nI r) ((fr_ui I 10 r 3 1) 0 0 5))
        else
          (f_J_add ((f_B_giveOrder ((f_J_add ((fr_ui I 10 r 3 1)) 6 (nI r) ((fr_ui I 10 r 3 1) 0 0 5))) (((f_J_add ((fr_ui I 10 r 3 1)) 6 (nI r) ((fr_ui I 10 r 3 1) 0 0 5)) 7 r 0).toNatClampNeg) ((f_J_add ((fr_ui I 10 r 3 1)) 6 (nI r) ((fr_ui I 10 r 3 1) 0 0 5)) 0 0 5) 0)) 7 ((f_J_add ((fr_ui I 10 r 3 1)) 6 (nI r) ((fr_ui I 10 r 3 1) 0 0 5)) 7 r 0) ((f_B_giveOrder ((f_J_add ((fr_ui I 10 r 3 1)) 6 (nI r) ((fr_ui I 10 r 3 1) 0 0 5))) (((f_J_add ((fr_ui I 10 r 3 1)) 6 (nI r) ((fr_ui I 10 r 3 1) 0 0 5)) 7 r 0).toNatClampNeg) ((f_J_add ((fr_ui I 10 r 3 1)) 6 (nI r) ((fr_ui I 10 r 3 1) 0 0 5)) 0 0 5) 0) 0 0 5))
set_option maxRecDepth 10000 in
theorem ct_F_failIfDue (X : fr_X) (n : Nat) (r : Nat) (hr : r < n) (I : fr_I) (J : fr_J)  (hw : fr_wf n I) : fr_Ct X y_F_failIfDue c_F_failIfDue 4 none (fr_rm 1) [.ref (fr_ad X 0 0), .int (nI r)] (fr_Z0 X n) (fr_Z0 X n) I J (fr_pv (fun I' J' => (f_F_failIfDue I r) = I' ∧ J = J')) := by
  refine fr_ct (by decide) rfl rfl (Nat.le_of_ble_eq_true rfl) rfl (fun E => ?_)
  refine fr_aload_n d_F_failIfDue_0 rfl ?_
  refine fr_getr (k' := 1) (r' := 0) d_F_failIfDue_1 fl_F_11 rfl rfl rfl (Or.inr ⟨rfl, rfl⟩) ?_
  refine fr_iload_n d_F_failIfDue_4 rfl ?_
  refine fr_aald (k' := 7) (r' := r) (r) d_F_failIfDue_5 rfl rfl (if_pos hr) (Or.inr ⟨rfl, rfl⟩) rfl (fw_lt8 hw hr) (by decide) ?_
  refine fr_astore_n (L' := [(2, .ref _), (0, .ref _), (1, .int _)]) d_F_failIfDue_6 (by decide) rfl ?_
  refine fr_aload_n d_F_failIfDue_7 rfl ?_
  refine fr_getr (k' := 8) (r' := r) d_F_failIfDue_8 fl_F_51 rfl rfl rfl (Or.inl ⟨rfl, hr⟩) ?_
  refine fr_geti d_F_failIfDue_11 fl_F_116 rfl rfl (Or.inl ⟨rfl, hr⟩) ?_
  refine fr_if_eq 35 d_F_failIfDue_14 rfl (fun h1 => ?_) (fun h1 => ?_)
  · skip
    exact fr_vret d_F_failIfDue_35 rfl (Nat.zero_le _) (Nat.zero_le _) ⟨(by unfold f_F_failIfDue; rw [if_pos h1]), rfl⟩
  · skip
    refine fr_aload_n d_F_failIfDue_17 rfl ?_
    refine fr_getr (k' := 10) (r' := r) d_F_failIfDue_18 fl_F_77 rfl rfl rfl (Or.inl ⟨rfl, hr⟩) ?_
    refine fr_aload_n d_F_failIfDue_21 rfl ?_
    refine fr_geti d_F_failIfDue_22 fl_F_34 rfl rfl (Or.inr ⟨rfl, rfl⟩) ?_
    refine fr_aload_n d_F_failIfDue_25 rfl ?_
    refine fr_geti d_F_failIfDue_26 fl_F_68 rfl rfl (Or.inl ⟨rfl, hr⟩) ?_
    refine fr_callVi fr_q4 d_F_failIfDue_29 (ct_B_isOverdue X n r hr _ _ _ _) mv_F_218 rfl rfl rfl (Or.inl ⟨rfl, hr⟩) rfl rfl ⟨Nat.le_of_ble_eq_true rfl, Nat.le_of_ble_eq_true rfl⟩ ⟨rfl, rfl⟩ ⟨Nat.zero_le _, Nat.zero_le _⟩ (Nat.le_of_ble_eq_true rfl) (fun x I' J' hp2 => ?_)
    obtain ⟨rfl, rfl, rfl⟩ := hp2
    refine fr_if_ne 36 d_F_failIfDue_32 rfl (fun h3 => ?_) (fun h3 => ?_)
    · skip
      refine fr_aload_n d_F_failIfDue_36 rfl ?_
      refine fr_getr (k' := 10) (r' := r) d_F_failIfDue_37 fl_F_77 rfl rfl rfl (Or.inl ⟨rfl, hr⟩) ?_
      refine fr_iconst d_F_failIfDue_40 fr_i1 ?_
      refine fr_putz d_F_failIfDue_41 fl_F_222 rfl rfl (Or.inr rfl) (Or.inl ⟨rfl, hr⟩) ?_
      refine fr_aload_n d_F_failIfDue_44 rfl ?_
      refine fr_getr (k' := 4) (r' := 0) d_F_failIfDue_45 fl_F_26 rfl rfl rfl (Or.inr ⟨rfl, rfl⟩) ?_
      refine fr_bipush d_F_failIfDue_48 fr_b6 ?_
      refine fr_iload_n d_F_failIfDue_50 rfl ?_
      refine fr_aload_n d_F_failIfDue_51 rfl ?_
      refine fr_geti d_F_failIfDue_52 fl_F_34 rfl rfl (Or.inr ⟨rfl, rfl⟩) ?_
      refine fr_callVv fr_q1 d_F_failIfDue_55 (ct_J_add X n _ _ _ _ _ (fw_ui (k := 10) (j := 3) rfl hw)) mv_F_182 rfl rfl rfl (Or.inr ⟨rfl, rfl⟩) rfl rfl ⟨Nat.le_of_ble_eq_true rfl, Nat.le_of_ble_eq_true rfl⟩ ⟨rfl, rfl⟩ ⟨Nat.zero_le _, Nat.zero_le _⟩ (Nat.le_of_ble_eq_true rfl) (fun I' J' hp4 => ?_)
      obtain ⟨rfl, rfl⟩ := hp4
      refine fr_aload_n d_F_failIfDue_58 rfl ?_
      refine fr_geti d_F_failIfDue_59 fl_F_134 rfl rfl (Or.inl ⟨rfl, hr⟩) ?_
      refine fr_istore_n (L' := [(3, .int _), (2, .ref _), (0, .ref _), (1, .int _)]) d_F_failIfDue_62 (by decide) rfl ?_
      refine fr_iload_n d_F_failIfDue_63 rfl ?_
      refine fr_iconst d_F_failIfDue_64 fr_im1 ?_
      refine fr_icmp_eq 114 d_F_failIfDue_65 rfl (fun h5 => ?_) (fun h5 => ?_)
      · skip
        exact fr_vret d_F_failIfDue_114 rfl (Nat.zero_le _) (Nat.zero_le _) ⟨(by unfold f_F_failIfDue; rw [if_neg h1, if_neg h3, if_pos h5]), rfl⟩
      · skip
        refine fr_aload_n d_F_failIfDue_68 rfl ?_
        refine fr_getr (k' := 1) (r' := 0) d_F_failIfDue_69 fl_F_11 rfl rfl rfl (Or.inr ⟨rfl, rfl⟩) ?_
        refine fr_iload_n d_F_failIfDue_72 rfl ?_
        refine fr_aald (k' := 7) (r' := ((f_J_add ((fr_ui I 10 r 3 1)) 6 (nI r) ((fr_ui I 10 r 3 1) 0 0 5)) 7 r 0).toNatClampNeg) (((f_J_add ((fr_ui I 10 r 3 1)) 6 (nI r) ((fr_ui I 10 r 3 1) 0 0 5)) 7 r 0).toNatClampNeg) d_F_failIfDue_73 rfl rfl (if_pos (Nat.lt_trans (fw_abv_lt (fw_J_add (fw_ui (k := 10) (j := 3) rfl hw)) hr h5) hr)) (Or.inr ⟨rfl, rfl⟩) (fw_abv_eq (fw_J_add (fw_ui (k := 10) (j := 3) rfl hw)) hr h5) (fw_lt8 hw (Nat.lt_trans (fw_abv_lt (fw_J_add (fw_ui (k := 10) (j := 3) rfl hw)) hr h5) hr)) (by decide) ?_
        refine fr_getr (k' := 10) (r' := ((f_J_add ((fr_ui I 10 r 3 1)) 6 (nI r) ((fr_ui I 10 r 3 1) 0 0 5)) 7 r 0).toNatClampNeg) d_F_failIfDue_74 fl_F_77 rfl rfl rfl (Or.inl ⟨rfl, (Nat.lt_trans (fw_abv_lt (fw_J_add (fw_ui (k := 10) (j := 3) rfl hw)) hr h5) hr)⟩) ?_
        refine fr_callVi fr_q4 d_F_failIfDue_77 (ct_B_takesOrder X n (((f_J_add ((fr_ui I 10 r 3 1)) 6 (nI r) ((fr_ui I 10 r 3 1) 0 0 5)) 7 r 0).toNatClampNeg) (Nat.lt_trans (fw_abv_lt (fw_J_add (fw_ui (k := 10) (j := 3) rfl hw)) hr h5) hr) _ _) mv_F_211 rfl rfl rfl (Or.inl ⟨rfl, (Nat.lt_trans (fw_abv_lt (fw_J_add (fw_ui (k := 10) (j := 3) rfl hw)) hr h5) hr)⟩) rfl rfl ⟨Nat.le_of_ble_eq_true rfl, Nat.le_of_ble_eq_true rfl⟩ ⟨rfl, rfl⟩ ⟨Nat.zero_le _, Nat.zero_le _⟩ (Nat.le_of_ble_eq_true rfl) (fun x I' J' hp6 => ?_)
        obtain ⟨rfl, rfl, rfl⟩ := hp6
        refine fr_if_eq 114 d_F_failIfDue_80 rfl (fun h7 => ?_) (fun h7 => ?_)
        · skip
          exact fr_vret d_F_failIfDue_114 rfl (Nat.zero_le _) (Nat.zero_le _) ⟨(by unfold f_F_failIfDue; rw [if_neg h1, if_neg h3, if_neg h5, if_pos h7]), rfl⟩
        · skip
          refine fr_aload_n d_F_failIfDue_83 rfl ?_
          refine fr_getr (k' := 1) (r' := 0) d_F_failIfDue_84 fl_F_11 rfl rfl rfl (Or.inr ⟨rfl, rfl⟩) ?_
          refine fr_iload_n d_F_failIfDue_87 rfl ?_
          refine fr_aald (k' := 7) (r' := ((f_J_add ((fr_ui I 10 r 3 1)) 6 (nI r) ((fr_ui I 10 r 3 1) 0 0 5)) 7 r 0).toNatClampNeg) (((f_J_add ((fr_ui I 10 r 3 1)) 6 (nI r) ((fr_ui I 10 r 3 1) 0 0 5)) 7 r 0).toNatClampNeg) d_F_failIfDue_88 rfl rfl (if_pos (Nat.lt_trans (fw_abv_lt (fw_J_add (fw_ui (k := 10) (j := 3) rfl hw)) hr h5) hr)) (Or.inr ⟨rfl, rfl⟩) (fw_abv_eq (fw_J_add (fw_ui (k := 10) (j := 3) rfl hw)) hr h5) (fw_lt8 hw (Nat.lt_trans (fw_abv_lt (fw_J_add (fw_ui (k := 10) (j := 3) rfl hw)) hr h5) hr)) (by decide) ?_
          refine fr_getr (k' := 10) (r' := ((f_J_add ((fr_ui I 10 r 3 1)) 6 (nI r) ((fr_ui I 10 r 3 1) 0 0 5)) 7 r 0).toNatClampNeg) d_F_failIfDue_89 fl_F_77 rfl rfl rfl (Or.inl ⟨rfl, (Nat.lt_trans (fw_abv_lt (fw_J_add (fw_ui (k := 10) (j := 3) rfl hw)) hr h5) hr)⟩) ?_
          refine fr_aload_n d_F_failIfDue_92 rfl ?_
          refine fr_geti d_F_failIfDue_93 fl_F_34 rfl rfl (Or.inr ⟨rfl, rfl⟩) ?_
          refine fr_iconst d_F_failIfDue_96 fr_i0 ?_
          refine fr_callVv fr_q4 d_F_failIfDue_97 (ct_B_giveOrder X n (((f_J_add ((fr_ui I 10 r 3 1)) 6 (nI r) ((fr_ui I 10 r 3 1) 0 0 5)) 7 r 0).toNatClampNeg) (Nat.lt_trans (fw_abv_lt (fw_J_add (fw_ui (k := 10) (j := 3) rfl hw)) hr h5) hr) _ _ _ _ (Or.inl rfl)) mv_F_214 rfl rfl rfl (Or.inl ⟨rfl, (Nat.lt_trans (fw_abv_lt (fw_J_add (fw_ui (k := 10) (j := 3) rfl hw)) hr h5) hr)⟩) rfl rfl ⟨Nat.le_of_ble_eq_true rfl, Nat.le_of_ble_eq_true rfl⟩ ⟨rfl, rfl⟩ ⟨Nat.zero_le _, Nat.zero_le _⟩ (Nat.le_of_ble_eq_true rfl) (fun I' J' hp8 => ?_)
          obtain ⟨rfl, rfl⟩ := hp8
          refine fr_aload_n d_F_failIfDue_100 rfl ?_
          refine fr_getr (k' := 4) (r' := 0) d_F_failIfDue_101 fl_F_26 rfl rfl rfl (Or.inr ⟨rfl, rfl⟩) ?_
          refine fr_bipush d_F_failIfDue_104 fr_b7 ?_
          refine fr_iload_n d_F_failIfDue_106 rfl ?_
          refine fr_aload_n d_F_failIfDue_107 rfl ?_
          refine fr_geti d_F_failIfDue_108 fl_F_34 rfl rfl (Or.inr ⟨rfl, rfl⟩) ?_
          refine fr_callVv fr_q1 d_F_failIfDue_111 (ct_J_add X n _ _ _ _ _ (fw_B_giveOrder (fw_J_add (fw_ui (k := 10) (j := 3) rfl hw)))) mv_F_182 rfl rfl rfl (Or.inr ⟨rfl, rfl⟩) rfl rfl ⟨Nat.le_of_ble_eq_true rfl, Nat.le_of_ble_eq_true rfl⟩ ⟨rfl, rfl⟩ ⟨Nat.zero_le _, Nat.zero_le _⟩ (Nat.le_of_ble_eq_true rfl) (fun I' J' hp9 => ?_)
          obtain ⟨rfl, rfl⟩ := hp9
          exact fr_vret d_F_failIfDue_114 rfl (Nat.zero_le _) (Nat.zero_le _) ⟨(by unfold f_F_failIfDue; rw [if_neg h1, if_neg h3, if_neg h5, if_neg h7]), rfl⟩
    · skip
      exact fr_vret d_F_failIfDue_35 rfl (Nat.zero_le _) (Nat.zero_le _) ⟨(by unfold f_F_failIfDue; rw [if_neg h1, if_pos h3]), rfl⟩
theorem fw_F_failIfDue {n : Nat} {I : fr_I} {r : Nat} (hw : fr_wf n I) : fr_wf n (f_F_failIfDue I r) := by
  unfold f_F_failIfDue
  refine fw_ite (fun h => ?_) (fun h => ?_)
  · skip
    exact hw
  · skip
    refine fw_ite (fun h => ?_) (fun h => ?_)
    · skip
      exact hw
    · skip
      refine fw_ite (fun h => ?_) (fun h => ?_)
      · skip
        exact (fw_J_add (fw_ui (k := 10) (j := 3) rfl hw))
      · skip
        refine fw_ite (fun h => ?_) (fun h => ?_)
        · skip
          exact (fw_J_add (fw_ui (k := 10) (j := 3) rfl hw))
        · skip
          exact (fw_J_add (fw_B_giveOrder (fw_J_add (fw_ui (k := 10) (j := 3) rfl hw))))
theorem fc_F_failIfDue {P : fr_I → Prop} (hP : fr_cst P) {I : fr_I} {r : Nat} (h : P I) : P (f_F_failIfDue I r) := by
  unfold f_F_failIfDue
  refine fw_ite (fun _ => ?_) (fun _ => ?_)
  · skip
    exact h
  · skip
    refine fw_ite (fun _ => ?_) (fun _ => ?_)
    · skip
      exact h
    · skip
      refine fw_ite (fun _ => ?_) (fun _ => ?_)
      · skip
        exact (fc_J_add hP (hP (k := 10) (by decide) h))
      · skip
        refine fw_ite (fun _ => ?_) (fun _ => ?_)
        · skip
          exact (fc_J_add hP (hP (k := 10) (by decide) h))
        · skip
          exact (fc_J_add hP (fc_B_giveOrder hP (fc_J_add hP (hP (k := 10) (by decide) h))))
def f_F_isBlocked (I : fr_I) (n : Nat) (r : Nat) : Int32 :=
  if (I 7 r 4) = 0 then
    0
  else
    (fr_bl I r (n - (r + 1)) (r + 1))
set_option maxRecDepth 10000 in
theorem ct_F_isBlocked (X : fr_X) (n : Nat) (r : Nat) (hr : r < n) (I : fr_I) (J : fr_J)  (hw : fr_wf n I) : fr_Ct X y_F_isBlocked c_F_isBlocked 3 (some .boolean) (fr_rm 1) [.ref (fr_ad X 0 0), .int (nI r)] (fr_Z0 X n) (fr_Z0 X n) I J (fr_pi (fun x I' J' => (f_F_isBlocked I n r) = x ∧ I = I' ∧ J = J')) := by
  refine fr_ct (by decide) rfl rfl (Nat.le_of_ble_eq_true rfl) rfl (fun E => ?_)
  refine fr_aload_n d_F_isBlocked_0 rfl ?_
  refine fr_getr (k' := 1) (r' := 0) d_F_isBlocked_1 fl_F_11 rfl rfl rfl (Or.inr ⟨rfl, rfl⟩) ?_
  refine fr_iload_n d_F_isBlocked_4 rfl ?_
  refine fr_aald (k' := 7) (r' := r) (r) d_F_isBlocked_5 rfl rfl (if_pos hr) (Or.inr ⟨rfl, rfl⟩) rfl (fw_lt8 hw hr) (by decide) ?_
  refine fr_geti d_F_isBlocked_6 fl_F_61 rfl rfl (Or.inl ⟨rfl, hr⟩) ?_
  refine fr_if_ne 14 d_F_isBlocked_9 rfl (fun h1 => ?_) (fun h1 => ?_)
  · skip
    refine fr_iload_n d_F_isBlocked_14 rfl ?_
    refine fr_iconst d_F_isBlocked_15 fr_i1 ?_
    refine fr_iadd d_F_isBlocked_16 ?_
    refine fr_istore_n (L' := [(2, .int _), (0, .ref _), (1, .int _)]) d_F_isBlocked_17 (by decide) rfl ?_
    refine fr_pick (L' := [(2, .int _), (0, .ref _), (1, .int _)]) [0, 1, 2] rfl ?_
    refine fr_ind (fun K (i : Nat) => [(2, .int (nI i)), (0, .ref (fr_ad X 0 0)), (1, .int (nI r))]) (fun K i => i + K = n ∧ fr_bl I r K i = fr_bl I r (n - (r + 1)) (r + 1)) (n - (r + 1)) (r + 1) (by rw [nI_1]) ⟨by omega, rfl⟩ (fun i ha => ?_) (fun K i hK ha ih => ?_)
    · skip
      refine fr_iload_n d_F_isBlocked_18 rfl ?_
      refine fr_aload_n d_F_isBlocked_19 rfl ?_
      refine fr_geti d_F_isBlocked_20 fl_F_30 rfl rfl (Or.inr ⟨rfl, rfl⟩) ?_
      refine fr_icmp_ge 66 d_F_isBlocked_23 rfl (fun _ => ?_) (fun h => absurd (by rw [fw_cnt hw]; exact nI_le (by omega) (by have := fw_n8 hw; omega)) h)
      refine fr_iconst d_F_isBlocked_66 fr_i0 ?_
      exact fr_iret d_F_isBlocked_67 rfl (fr_nar_b (Or.inl rfl)) (Nat.zero_le _) (Nat.zero_le _) ⟨by unfold f_F_isBlocked; rw [if_neg h1]; exact ha.2.symm, rfl, rfl⟩
    · skip
      have hi : i < n := by omega
      refine fr_iload_n d_F_isBlocked_18 rfl ?_
      refine fr_aload_n d_F_isBlocked_19 rfl ?_
      refine fr_geti d_F_isBlocked_20 fl_F_30 rfl rfl (Or.inr ⟨rfl, rfl⟩) ?_
      refine fr_icmp_ge 66 d_F_isBlocked_23 rfl (fun h => absurd h (by rw [fw_cnt hw]; exact nI_ge hi (by have := fw_n8 hw; omega))) (fun _ => ?_)
      refine fr_aload_n d_F_isBlocked_26 rfl ?_
      refine fr_getr (k' := 1) (r' := 0) d_F_isBlocked_27 fl_F_11 rfl rfl rfl (Or.inr ⟨rfl, rfl⟩) ?_
      refine fr_iload_n d_F_isBlocked_30 rfl ?_
      refine fr_aald (k' := 7) (r' := i) (i) d_F_isBlocked_31 rfl rfl (if_pos hi) (Or.inr ⟨rfl, rfl⟩) rfl (fw_lt8 hw hi) (by decide) ?_
      refine fr_geti d_F_isBlocked_32 fl_F_134 rfl rfl (Or.inl ⟨rfl, hi⟩) ?_
      refine fr_iload_n d_F_isBlocked_35 rfl ?_
      refine fr_icmp_ne 60 d_F_isBlocked_36 rfl (fun h2 => ?_) (fun h2 => ?_)
      · skip
        refine fr_iinc (v := (nI (i + 1))) (L' := [(2, .int _), (0, .ref _), (1, .int _)]) d_F_isBlocked_60 rfl (fr_inc _) (by decide) rfl ?_
        refine fr_goto 18 d_F_isBlocked_63 rfl ?_
        refine fr_pick (L' := [(2, .int _), (0, .ref _), (1, .int _)]) [0, 1, 2] rfl ?_
        exact ih (i + 1) ⟨by omega, (fr_bl_n h2).symm.trans ha.2⟩
      · skip
        refine fr_aload_n d_F_isBlocked_39 rfl ?_
        refine fr_getr (k' := 1) (r' := 0) d_F_isBlocked_40 fl_F_11 rfl rfl rfl (Or.inr ⟨rfl, rfl⟩) ?_
        refine fr_iload_n d_F_isBlocked_43 rfl ?_
        refine fr_aald (k' := 7) (r' := i) (i) d_F_isBlocked_44 rfl rfl (if_pos hi) (Or.inr ⟨rfl, rfl⟩) rfl (fw_lt8 hw hi) (by decide) ?_
        refine fr_getr (k' := 11) (r' := i) d_F_isBlocked_45 fl_F_86 rfl rfl rfl (Or.inl ⟨rfl, hi⟩) ?_
        refine fr_aload_n d_F_isBlocked_48 rfl ?_
        refine fr_geti d_F_isBlocked_49 fl_F_34 rfl rfl (Or.inr ⟨rfl, rfl⟩) ?_
        refine fr_callVi fr_q5 d_F_isBlocked_52 (ct_W_holdsBack X n i hi _ _ _) mv_F_225 rfl rfl rfl (Or.inl ⟨rfl, hi⟩) rfl rfl ⟨Nat.le_of_ble_eq_true rfl, Nat.le_of_ble_eq_true rfl⟩ ⟨rfl, rfl⟩ ⟨Nat.zero_le _, Nat.zero_le _⟩ (Nat.le_of_ble_eq_true rfl) (fun x I' J' hp3 => ?_)
        obtain ⟨rfl, rfl, rfl⟩ := hp3
        refine fr_if_eq 60 d_F_isBlocked_55 rfl (fun h4 => ?_) (fun h4 => ?_)
        · skip
          refine fr_iinc (v := (nI (i + 1))) (L' := [(2, .int _), (0, .ref _), (1, .int _)]) d_F_isBlocked_60 rfl (fr_inc _) (by decide) rfl ?_
          refine fr_goto 18 d_F_isBlocked_63 rfl ?_
          refine fr_pick (L' := [(2, .int _), (0, .ref _), (1, .int _)]) [0, 1, 2] rfl ?_
          exact ih (i + 1) ⟨by omega, (fr_bl_0 h2 h4).symm.trans ha.2⟩
        · skip
          refine fr_iconst d_F_isBlocked_58 fr_i1 ?_
          exact fr_iret d_F_isBlocked_59 rfl (fr_nar_b (Or.inr rfl)) (Nat.zero_le _) (Nat.zero_le _) ⟨by unfold f_F_isBlocked; rw [if_neg h1]; exact ha.2.symm.trans (fr_bl_1 h2 h4), rfl, rfl⟩
  · skip
    refine fr_iconst d_F_isBlocked_12 fr_i0 ?_
    exact fr_iret d_F_isBlocked_13 rfl (fr_nar_b (Or.inl rfl)) (Nat.zero_le _) (Nat.zero_le _) ⟨(by unfold f_F_isBlocked; rw [if_pos h1]), rfl, rfl⟩

theorem al_K {n C : Nat} {K K' : Nat → Nat × Nat} {I : fr_I} {J : fr_J} {A : fr_I} {B : fr_J} (hK : ∀ q, q < n → K' q = K q) (h : rl_al2 n C K I J A B) : rl_al2 n C K' I J A B :=
  ⟨h.1, h.2.1, h.2.2.1, h.2.2.2.1, h.2.2.2.2.1, fun r hr => by rw [hK r hr]; exact h.2.2.2.2.2 r hr⟩
theorem mv_k {I : fr_I} {r k a b : Nat} (h4 : k ≠ 4) (h5 : k ≠ 5) (h6 : k ≠ 6) (h10 : k ≠ 10) : f_F_moveBreaker I r k a b = I k a b := by
  unfold f_F_moveBreaker f_B_awaitClosing f_B_open f_B_closeAgain
  repeat' split
  all_goals first | with_reducible rfl | (repeat first | rw [ja_k h4 h5 h6] | rw [fr_ui_n (fun z => h10 z.1)])
/-- a tick begins -/
theorem tq_0 {n T : Nat} {I : fr_I} {J : fr_J} {A : fr_I} {B : fr_J} (h : rl_all n T I J A B) : rl_al2 n (T + 1) (fun _ => (T, T)) (fr_ui I 0 0 5 (I 0 0 5 + 1)) J (fr_ui A 20 0 1 (A 20 0 1 + 1)) B := by
  obtain ⟨hw, hm, t1, t2, ⟨j1, j2, j3, j4⟩, hq⟩ := h
  refine ⟨fw_ui (k := 0) (j := 5) rfl hw, fm_ui (k := 20) (j := 1) rfl hm, ?_, ?_, ⟨?_, ?_, fun i => ?_, fun i => ?_⟩, fun q hqn => ?_⟩
  · rw [fr_ui_s, t1, nI_1]
  · rw [fr_ui_s, t2, nI_1]
  · rw [fr_ui_n (fun z => absurd z.1 (by decide)), fr_ui_n (fun z => absurd z.2.2 (by decide))]; exact j1
  · rw [fr_ui_n (fun z => absurd z.1 (by decide)), fr_ui_n (fun z => absurd z.2.2 (by decide))]; exact j2
  · rw [fr_ui_n (fun z => absurd z.1 (by decide)), fr_ui_n (fun z => absurd z.1 (by decide))]; exact j3 i
  · rw [fr_ui_n (fun z => absurd z.1 (by decide)), fr_ui_n (fun z => absurd z.1 (by decide))]; exact j4 i
  · exact on2_off (fun k j h1 h2 => fr_ui_n (fun z => by omega)) rfl (fun k h1 h2 _ _ _ => fr_ui_n (fun z => by omega)) (fun i _ => fr_ui_n (fun z => absurd z.1 (by decide))) (fun i _ => fr_ui_n (fun z => absurd z.1 (by decide))) (fun i _ => fr_ui_n (fun z => absurd z.1 (by decide))) rfl (hq q hqn)
theorem tq_1 {n T : Nat} {I : fr_I} {J : fr_J} {A : fr_I} {B : fr_J} (hT : T + 100 < 2 ^ 20) (h : rl_al2 n (T + 1) (fun _ => (T, T)) I J A B) : ∀ i, i ≤ n → rl_al2 n (T + 1) (fun q => if q < i then (T, T + 1) else (T, T)) (fr_it fb_F_tick1 I i) J (fr_it fb_O_tick1 A i) B ∧ ∀ q b, fr_it fb_F_tick1 I i 13 q b = I 13 q b := by
  intro i
  induction i with
  | zero => intro _; exact ⟨al_K (fun q _ => if_neg (by omega)) h, fun _ _ => rfl⟩
  | succ i ih =>
    intro hi
    obtain ⟨h1, h2⟩ := ih (by omega)
    rw [fr_it_s, fr_it_s]
    generalize fr_it fb_F_tick1 I i = I1 at *
    generalize fr_it fb_O_tick1 A i = A1 at *
    refine ⟨?_, fun q b => ?_⟩
    · exact ph_del (r := i) hT (by omega) (if_neg (by omega)) (if_pos (by omega)) (fun q hq => by
        by_cases z : q < i
        · rw [if_pos z, if_pos (by omega)]
        · rw [if_neg z, if_neg (by omega)]) h1
    · show f_W_deliver I1 i (I1 0 0 5) 13 q b = _
      rw [h1.2.2.1]
      exact ((dl_C (I := I1) (r := i) (T := T) (by omega) 8 (Nat.le_refl _)).1 13 q b (by omega)).trans (h2 q b)
theorem tq_2 {n C : Nat} {K : Nat → Nat × Nat} {I : fr_I} {J : fr_J} {A : fr_I} {B : fr_J} (h : rl_al2 n C K I J A B) : ∀ i, i ≤ n → rl_al2 n C K (fr_it fb_F_tick2 I i) J (fr_it fb_O_tick2 A i) B ∧ ∀ q b, fr_it fb_F_tick2 I i 13 q b = I 13 q b := by
  intro i
  induction i with
  | zero => intro _; exact ⟨h, fun _ _ => rfl⟩
  | succ i ih =>
    intro hi
    obtain ⟨h1, h2⟩ := ih (by omega)
    exact ⟨ph_move (r := i) (by omega) h1, fun q b => (mv_k (by decide) (by decide) (by decide) (by decide)).trans (h2 q b)⟩
theorem tq_3 {n T : Nat} {I : fr_I} {J : fr_J} {A : fr_I} {B : fr_J} (hT : T + 100 < 2 ^ 20) (hfl : ∀ q, q < n → I 2 0 q = f_O_flow A n q ∧ fr_nn (f_O_flow A n q) 176001) (hd : ∀ q, q < n → ∃ c, c ≤ T + 1 ∧ I 13 q ((T + 1) % 8) = nI c) (h : rl_al2 n (T + 1) (fun _ => (T, T + 1)) I J A B) : ∀ i, i ≤ n → rl_al2 n (T + 1) (fun q => if q < i then (T + 1, T + 1) else (T, T + 1)) (fr_jt fb_F_measureAll (I, J) i).1 (fr_jt fb_F_measureAll (I, J) i).2 (fr_jt (fb_O_tick3 n) (A, B) i).1 (fr_jt (fb_O_tick3 n) (A, B) i).2 ∧ (∀ q, (fr_jt fb_F_measureAll (I, J) i).1 2 0 q = I 2 0 q) ∧ (∀ q b, i ≤ q → (fr_jt fb_F_measureAll (I, J) i).1 13 q b = I 13 q b) ∧ (∀ k b, k < 54 → (fr_jt (fb_O_tick3 n) (A, B) i).1 k 0 b = A k 0 b) := by
  intro i
  induction i with
  | zero => intro _; exact ⟨al_K (fun q _ => if_neg (by omega)) h, fun _ => rfl, fun _ _ _ => rfl, fun _ _ _ => rfl⟩
  | succ i ih =>
    intro hi
    obtain ⟨h1, h2, h3, h4⟩ := ih (by omega)
    rw [fr_jt_s, fr_jt_s]
    generalize fr_jt fb_F_measureAll (I, J) i = s at *
    generalize fr_jt (fb_O_tick3 n) (A, B) i = t at *
    obtain ⟨s1, s2⟩ := s
    obtain ⟨t1, t2⟩ := t
    dsimp only at h1 h2 h3 h4
    have hf : f_O_flow t1 n i = f_O_flow A n i := flow_c (fun b => h4 42 b (by decide)) (fun b => h4 43 b (by decide)) (fun b => h4 45 b (by decide)) (fun b => h4 46 b (by decide))
    have hi2 : s1 2 0 i = f_O_flow t1 n i := by rw [h2, hf]; exact (hfl i (by omega)).1
    have hqi := (h1.2.2.2.2.2 i (by omega)).2.2.2.2.2
    obtain ⟨_, _, u, u3, u4, _⟩ := hqi
    have e : fb_O_tick3 n (t1, t2) i = ((f_O_measure t1 t2 n i).1, (f_O_measure t1 t2 n i).2) := rfl
    rw [e]
    dsimp only
    refine ⟨?_, fun q => ?_, fun q b hq => ?_, fun k b hk => ?_⟩
    · exact ph_meas (r := i) hT (by omega) (if_neg (by omega)) (if_pos (by omega)) (fun q hq => by
        by_cases z : q < i
        · rw [if_pos z, if_pos (by omega)]
        · rw [if_neg z, if_neg (by omega)]) hi2 (by rw [hi2, hf]; exact (hfl i (by omega)).2) (by rw [h3 i _ (Nat.le_refl _)]; exact hd i (by omega)) h1
    · exact (fm_k 2 0 q (by omega)).trans (h2 q)
    · exact (fm_k 13 q b (by omega)).trans (h3 q b (by omega))
    · exact (fo_k u4 u3 k 0 b hk).trans (h4 k b hk)
theorem tq_4 {n C : Nat} {K : Nat → Nat × Nat} {I : fr_I} {J : fr_J} {A : fr_I} {B : fr_J} (hK : ∀ q, q < n → (K q).2 < 2 ^ 20) (h : rl_al2 n C K I J A B) : ∀ i, i ≤ n → rl_al2 n C K (fr_it (fb_F_tick3 n J) I i) J (fr_it (fb_O_tick4 n B) A i) B := by
  intro i
  induction i with
  | zero => intro _; exact h
  | succ i ih => intro hi; exact ph_trip (r := i) (by omega) hK (ih (by omega))
theorem tq_5 {n C : Nat} {K : Nat → Nat × Nat} {I : fr_I} {J : fr_J} {A : fr_I} {B : fr_J} (h : rl_al2 n C K I J A B) : ∀ i, i ≤ n → rl_al2 n C K (fr_it fb_F_tick4 I i) J (fr_it fb_O_tick5 A i) B := by
  intro i
  induction i with
  | zero => intro _; exact h
  | succ i ih => intro hi; exact ph_fail (r := i) (by omega) (ih (by omega))
def tq_S (A : fr_I) : fr_I := if A 20 0 34 + 2 ≤ A 20 0 33 then fr_ui A 20 0 34 (A 20 0 34 + 2) else fr_ui A 20 0 34 (A 20 0 33)
theorem tq_6 {n C : Nat} {K : Nat → Nat × Nat} {I : fr_I} {J : fr_J} {A : fr_I} {B : fr_J} (h : rl_al2 n C K I J A B) : rl_al2 n C K (f_J_store I) J (tq_S A) B := by
  obtain ⟨hw, hm, t1, t2, ⟨j1, j2, j3, j4⟩, hq⟩ := h
  have hw' : fr_wf n (f_J_store I) := fw_J_store hw
  have hm' : fr_mw n (tq_S A) := by
    unfold tq_S
    split
    · rename_i z; exact fm_st2 z hm
    · exact fm_st1 hm
  obtain ⟨a, ha, ea⟩ := hw.2.2.1
  obtain ⟨b, hb, eb⟩ := hw.2.2.2.2.2
  have hv : ∃ v, f_J_store I = fr_ui I 4 0 3 v ∧ tq_S A = fr_ui A 20 0 34 v := by
    unfold f_J_store tq_S
    rw [← j1, ← j2, ea, eb]
    have e2 : nI b + 2 = nI (b + 2) := nI_add b 2
    rw [e2]
    by_cases z : b + 2 ≤ a
    · rw [if_pos (nI_le z (by omega)), if_neg (nI_nlt z (by omega))]
      exact ⟨_, rfl, rfl⟩
    · rw [if_neg (nI_ge (by omega) (by omega)), if_pos (nI_lt (by omega) (by omega))]
      exact ⟨_, rfl, rfl⟩
  obtain ⟨v, e1, e2⟩ := hv
  rw [e1] at hw' ⊢
  rw [e2] at hm' ⊢
  refine ⟨hw', hm', ?_, ?_, ⟨?_, ?_, fun i => ?_, fun i => ?_⟩, fun q hqn => ?_⟩
  · rw [fr_ui_n (fun z => absurd z.1 (by decide))]; exact t1
  · rw [fr_ui_n (fun z => absurd z.2.2 (by decide))]; exact t2
  · rw [fr_ui_n (fun z => absurd z.2.2 (by decide)), fr_ui_n (fun z => absurd z.2.2 (by decide))]; exact j1
  · rw [fr_ui_s, fr_ui_s]
  · rw [fr_ui_n (fun z => absurd z.1 (by decide)), fr_ui_n (fun z => absurd z.1 (by decide))]; exact j3 i
  · rw [fr_ui_n (fun z => absurd z.1 (by decide)), fr_ui_n (fun z => absurd z.1 (by decide))]; exact j4 i
  · exact on2_off (fun k j h1 h2 => fr_ui_n (fun z => by omega)) rfl (fun k h1 h2 _ _ _ => fr_ui_n (fun z => by omega)) (fun i _ => fr_ui_n (fun z => absurd z.1 (by decide))) (fun i _ => fr_ui_n (fun z => absurd z.1 (by decide))) (fun i _ => fr_ui_n (fun z => absurd z.1 (by decide))) rfl (hq q hqn)
theorem tq_F (I : fr_I) (J : fr_J) (n : Nat) : f_F_tick I J n = (f_J_store (fr_it fb_F_tick4 (fr_it (fb_F_tick3 n (fr_jt fb_F_measureAll (f_F_findFlows (fr_it fb_F_tick2 (fr_it fb_F_tick1 (fr_ui I 0 0 5 (I 0 0 5 + 1)) n) n) n, J) n).2) (fr_jt fb_F_measureAll (f_F_findFlows (fr_it fb_F_tick2 (fr_it fb_F_tick1 (fr_ui I 0 0 5 (I 0 0 5 + 1)) n) n) n, J) n).1 n) n), (fr_jt fb_F_measureAll (f_F_findFlows (fr_it fb_F_tick2 (fr_it fb_F_tick1 (fr_ui I 0 0 5 (I 0 0 5 + 1)) n) n) n, J) n).2) := rfl
theorem tq_O (A : fr_I) (B : fr_J) (n : Nat) : f_O_tick A B n = (tq_S (fr_it fb_O_tick5 (fr_it (fb_O_tick4 n (fr_jt (fb_O_tick3 n) (g_O_tick A n, B) n).2) (fr_jt (fb_O_tick3 n) (g_O_tick A n, B) n).1 n) n), (fr_jt (fb_O_tick3 n) (g_O_tick A n, B) n).2) := by
  unfold f_O_tick tq_S g_O_tick
  split <;> rfl
theorem rl_tick {n T : Nat} {I : fr_I} {J : fr_J} {A : fr_I} {B : fr_J} (hT : T + 100 < 2 ^ 20) (h : rl_all n T I J A B) : rl_all n (T + 1) (f_F_tick I J n).1 (f_F_tick I J n).2 (f_O_tick A B n).1 (f_O_tick A B n).2 ∧ fr_tp n A B := by
  have hd : ∀ q, q < n → ∃ c, c ≤ T + 1 ∧ I 13 q ((T + 1) % 8) = nI c := fun q hq => by
    obtain ⟨_, u2, _⟩ := (h.2.2.2.2.2 q hq).2.2.2.2.2
    exact u2 0 (by decide)
  obtain ⟨p1, f1⟩ := tq_1 hT (tq_0 h) n (Nat.le_refl _)
  obtain ⟨p2, f2⟩ := tq_2 (al_K (K' := fun _ => (T, T + 1)) (fun q hq => (if_pos hq).symm) p1) n (Nat.le_refl _)
  have p2' := ff_al p2
  have f3 := ff_k p2
  have fl := fun q (hq : q < n) => rl_flow hq p2
  have gA : fr_it fb_O_tick2 (fr_it fb_O_tick1 (fr_ui A 20 0 1 (A 20 0 1 + 1)) n) n = g_O_tick A n := rfl
  rw [gA] at p2' fl
  have p3 := tq_3 hT fl (fun q hq => by
    rw [f3 13 q _ (by decide) (by decide), f2, f1, fr_ui_n (fun z => absurd z.1 (by decide))]
    exact hd q hq) p2'
  rw [tq_F, tq_O]
  refine ⟨?_, fun i hi => ?_⟩
  · have p3n := al_K (K' := fun _ => (T + 1, T + 1)) (fun q hq => (if_pos hq).symm) (p3 n (Nat.le_refl _)).1
    exact rl_out2 (tq_6 (tq_5 (tq_4 (fun q hq => by show T + 1 < 2 ^ 20; omega) p3n n (Nat.le_refl _)) n (Nat.le_refl _)))
  · obtain ⟨_, _, u, u3, u4, _⟩ := ((p3 i (by omega)).1.2.2.2.2.2 i hi).2.2.2.2.2
    exact ⟨u, by omega, u4⟩
theorem rl_run {n T : Nat} {I : fr_I} {J : fr_J} {A : fr_I} {B : fr_J} (h : rl_all n T I J A B) : ∀ k, T + k + 100 < 2 ^ 20 → rl_all n (T + k) (fr_jt (fb_F_run n) (I, J) k).1 (fr_jt (fb_F_run n) (I, J) k).2 (fr_jt (fb_O_run n) (A, B) k).1 (fr_jt (fb_O_run n) (A, B) k).2 ∧ ∀ j, j < k → fr_tp n (fr_jt (fb_O_run n) (A, B) j).1 (fr_jt (fb_O_run n) (A, B) j).2 := by
  intro k
  induction k with
  | zero => intro _; exact ⟨h, fun j hj => by omega⟩
  | succ k ih =>
    intro hk
    obtain ⟨h1, h2⟩ := ih (by omega)
    have h3 := rl_tick (by omega) h1
    refine ⟨h3.1, fun j hj => ?_⟩
    by_cases e : j = k
    · subst e; exact h3.2
    · exact h2 j (by omega)
theorem op_run (X : fr_X) {c : Nat} (hc : c < 512) (n : Nat) (I : fr_I) (J : fr_J) (a1 : Int32) (h : rl_inv c n I J) : lx_P X (rl_inv (c + 1)) y_F_run c_F_run 3 (some .int) y_O_run c_O_run 3 (some .int) [.int a1] n I J := by
  obtain ⟨T, hT, hR, hZ⟩ := h
  by_cases b1 : a1 < 1
  · refine lx_mk (ct_F_run_no X n I J a1 (wn_l b1)) (ct_O_run_no X n I J a1 (Or.inl b1)) (by decide) (by decide) ?_ ⟨T, by omega, hR, hZ⟩
    unfold f_F_run_no f_O_run_no; split <;> rfl
  · by_cases b2 : (20 : Int32) < a1
    · refine lx_mk (ct_F_run_no X n I J a1 (wn_r b1 b2)) (ct_O_run_no X n I J a1 (Or.inr b2)) (by decide) (by decide) ?_ ⟨T, by omega, hR, hZ⟩
      unfold f_F_run_no f_O_run_no; split <;> rfl
    · obtain ⟨k, k1, k2, rfl⟩ := wn_nn (lo := 1) (hi := 20) (by decide) (by decide) b1 b2
      have kO : rl_kO I (f_F_run I J n k).2.1 := fc_F_run rl_kO_st (fun _ _ _ _ => rfl)
      have kOJ : rl_kOJ J (f_F_run I J n k).2.2 := fcj_F_run rl_kOJ_st (fun _ _ _ _ => rfl)
      have kC : rl_kC (f_F_run I J n k).2.1 (f_O_run (f_F_run I J n k).2.1 (f_F_run I J n k).2.2 n k).2.1 := fc_O_run rl_kC_st (fun _ _ _ _ => rfl)
      have kCJ : rl_kCJ (f_F_run I J n k).2.2 (f_O_run (f_F_run I J n k).2.1 (f_F_run I J n k).2.2 n k).2.2 := fcj_O_run rl_kCJ_st (fun _ _ _ _ => rfl)
      have hA : rl_all n T I J (f_F_run I J n k).2.1 (f_F_run I J n k).2.2 := hR.congr (fun _ _ _ _ => rfl) (fun _ _ _ _ => rfl) kO kOJ
      have hrun := rl_run hA k (by omega)
      refine lx_mk (ct_F_run X n k I J hR.1 k1 k2) (ct_O_run X n k _ _ hA.2.1 k1 k2 hrun.2) (by decide) (by decide) (hrun.1.2.2.1.trans hrun.1.2.2.2.1.symm) ⟨T + k, by omega, rl_glue kO kOJ kC kCJ hR (fun h => (rl_run h k (by omega)).1), fun z => by omega⟩

theorem ff_al {n C : Nat} {K : Nat → Nat × Nat} {I : fr_I} {J : fr_J} {A : fr_I} {B : fr_J} (h : rl_al2 n C K I J A B) : rl_al2 n C K (f_F_findFlows I n) J A B := by
  have f := ff_k h
  obtain ⟨hw, hm, t1, t2, ⟨j1, j2, j3, j4⟩, hq⟩ := h
  refine ⟨fw_of (fun a b c hs => f a b c (fun z => by subst z; exact absurd hs (by unfold fr_wfs; simp)) (fun z => by subst z; exact absurd hs (by unfold fr_wfs; simp))) hw, hm, (f 0 0 5 (by decide) (by decide)).trans t1, t2, ⟨(f 4 0 2 (by decide) (by decide)).trans j1, (f 4 0 3 (by decide) (by decide)).trans j2, fun i => (f 5 0 i (by decide) (by decide)).trans (j3 i), fun i => (f 6 0 i (by decide) (by decide)).trans (j4 i)⟩, fun q hqn => ?_⟩
  exact on2_off (fun k j _ _ => f k q j (by omega) (by omega)) rfl (fun k _ _ _ _ _ => rfl) (fun i _ => rfl) (fun i _ => rfl) (fun i _ => rfl) rfl (hq q hqn)
theorem op_effective (X : fr_X) {c : Nat} (n : Nat) (I : fr_I) (J : fr_J) (a1 : Int32) (h : rl_inv c n I J) : lx_P X (rl_inv (c + 1)) y_F_effective c_F_effective 2 (some .int) y_O_effective c_O_effective 2 (some .int) [.int a1] n I J := by
  obtain ⟨T, hT, hR, hZ⟩ := h
  by_cases hx : f_F_isRelay I a1 = 0
  · exact lx_mk (ct_F_effective_no X n I J a1 hx) (ct_O_effective_no X n I J a1 (rl_none hR hx)) (by decide) (by decide) rfl ⟨T, by omega, hR, hZ⟩
  · obtain ⟨r, hr, rfl⟩ := fr_isR_1 hR.1 hx
    obtain ⟨hs, hv, hb, hm, hwi, hq⟩ := hR.2.2.2.2.2 r hr
    exact lx_mk (ct_F_effective X n r hr I J hR.1) (ct_O_effective X n r hr I J hR.2.1) (by decide) (by decide) (hm.2.2.2.2.trans (rl_root (J := J) (B := J) (hR.1.2.2.2.1 r hr) hm.2.2.1 hm.2.2.2.1).1) ⟨T, by omega, hR, hZ⟩
theorem op_state (X : fr_X) {c : Nat} (hc : c < 512) (n : Nat) (I : fr_I) (J : fr_J) (a1 : Int32) (h : rl_inv c n I J) : lx_P X (rl_inv (c + 1)) y_F_state c_F_state 3 (some .int) y_O_state c_O_state 4 (some .int) [.int a1] n I J := by
  obtain ⟨T, hT, hR, hZ⟩ := h
  by_cases hx : f_F_isRelay I a1 = 0
  · exact lx_mk (ct_F_state_no X n I J a1 hx) (ct_O_state_no X n I J a1 (rl_none hR hx)) (by decide) (by decide) rfl ⟨T, by omega, hR, hZ⟩
  · obtain ⟨r, hr, rfl⟩ := fr_isR_1 hR.1 hx
    exact lx_mk (ct_F_state X n r hr I J hR.1) (ct_O_state X n r hr I J hR.2.1) (by decide) (by decide) (rl_state hr (fun _ _ => by show T < 2 ^ 20; omega) (rl_in2 hR)) ⟨T, by omega, hR, hZ⟩
theorem op_current (X : fr_X) {c : Nat} (n : Nat) (I : fr_I) (J : fr_J) (a1 : Int32) (h : rl_inv c n I J) : lx_P X (rl_inv (c + 1)) y_F_current c_F_current 2 (some .int) y_O_current c_O_current 2 (some .int) [.int a1] n I J := by
  obtain ⟨T, hT, hR, hZ⟩ := h
  by_cases hx : f_F_isRelay I a1 = 0
  · exact lx_mk (ct_F_current_no X n I J a1 hx) (ct_O_current_no X n I J a1 (rl_none hR hx)) (by decide) (by decide) rfl ⟨T, by omega, hR, hZ⟩
  · obtain ⟨r, hr, rfl⟩ := fr_isR_1 hR.1 hx
    have kO : rl_kO I (f_F_findFlows I n) := fc_F_findFlows rl_kO_st (fun _ _ _ _ => rfl)
    have hA : rl_all n T I J (f_F_findFlows I n) J := hR.congr (fun _ _ _ _ => rfl) (fun _ _ _ _ => rfl) kO (fun _ _ _ _ => rfl)
    exact lx_mk (ct_F_current X n r hr I J hR.1) (ct_O_current X n r hr _ J hA.2.1) (by decide) (by decide) (rl_flow hr (rl_in2 hA)).1 (op_I hT hR hZ kO (fun _ _ _ _ => rfl) id (fun h => rl_out2 (ff_al (rl_in2 h))))

-- the way up, of the reference: what it tells does not hang on the fuel
theorem wy_u1 {A : fr_I} {r : Nat} : ∀ K f x, (fr_wy A r K 1 f x).1 = 1 := by
  intro K
  induction K with
  | zero => intro f x; rfl
  | succ K ih =>
    intro f x
    unfold fr_wy
    split
    · rfl
    · rw [if_neg (by decide)]; exact ih _ _
theorem wy_f0 {A : fr_I} {r : Nat} : ∀ K u x, (fr_wy A r K u 0 x).2 = 0 := by
  intro K
  induction K with
  | zero => intro f x; rfl
  | succ K ih =>
    intro f x
    unfold fr_wy
    split
    · rfl
    · rw [if_pos (show (0 : Int32) = 0 from rfl)]; exact ih _ _
theorem wy_f {A : fr_I} {r : Nat} : ∀ K u f f' x, (fr_wy A r K u f x).1 = (fr_wy A r K u f' x).1 := by
  intro K
  induction K with
  | zero => intro u f f' x; rfl
  | succ K ih =>
    intro u f f' x
    unfold fr_wy
    split
    · rfl
    · exact ih _ _ _ _
theorem wy_u {A : fr_I} {r : Nat} : ∀ K u u' f x, (fr_wy A r K u f x).2 = (fr_wy A r K u' f x).2 := by
  intro K
  induction K with
  | zero => intro u f f' x; rfl
  | succ K ih =>
    intro u f f' x
    unfold fr_wy
    split
    · rfl
    · exact ih _ _ _ _
theorem wy_fuel {A : fr_I} {n r : Nat} (hm : fr_mw n A) : ∀ K K' q u f, q < n → q < K → q < K' → fr_wy A r K u f (nI q) = fr_wy A r K' u f (nI q) := by
  intro K
  have h8 := hm.1
  induction K with
  | zero => intro K' q u f _ h _; omega
  | succ K ih =>
    intro K' q u f hq h1 h2
    obtain ⟨k', rfl⟩ : ∃ k', K' = k' + 1 := ⟨K' - 1, by omega⟩
    rw [fr_wy_s (nI_pos (by omega)), fr_wy_s (nI_pos (by omega)), nI_clamp (by omega)]
    rcases hm.2.2.2.2.1 q hq with ⟨_, z⟩ | ⟨a, ha, z⟩
    · rw [z]
      cases K with
      | zero =>
        cases k' with
        | zero => rfl
        | succ k' => rw [fr_wy_x (by decide)]; rfl
      | succ K =>
        cases k' with
        | zero => rw [fr_wy_x (by decide)]; rfl
        | succ k' => rw [fr_wy_x (by decide), fr_wy_x (by decide)]
    · rw [z]
      exact ih k' a _ _ (by omega) (by omega) (by omega)
def rl_W (A : fr_I) (r q : Nat) : Int32 × Int32 := fr_wy A r 8 0 1 (nI q)
/-- one step of the way: the top -/
theorem wy_top {A : fr_I} {n r q : Nat} (hm : fr_mw n A) (hr : r < n) (hq : q < n) (h0 : A 42 0 q = -1) : ((rl_W A r q).1 = 0 ↔ q ≠ r) ∧ ((rl_W A r q).2 = 0 ↔ A 43 0 q = 0) := by
  have h8 := hm.1
  have hqr : (nI q = nI r) ↔ q = r := nI_eq (by omega) (by omega)
  unfold rl_W
  rw [fr_wy_s (nI_pos (by omega)), nI_clamp (by omega), h0, fr_wy_x (by decide)]
  refine ⟨?_, ?_⟩
  · show (if (0 : Int32) = 0 then (if nI q = nI r then (1 : Int32) else 0) else 1) = 0 ↔ q ≠ r
    rw [if_pos rfl]
    by_cases e : q = r
    · simp [hqr, e]
    · simp [hqr, e]
  · show (if (1 : Int32) = 0 then (0 : Int32) else (if A 43 0 q = 0 then 0 else 1)) = 0 ↔ _
    rw [if_neg (by decide)]
    by_cases e : A 43 0 q = 0
    · simp [e]
    · simp [e]
theorem wy_nxt {A : fr_I} {n r q a : Nat} (hm : fr_mw n A) (hr : r < n) (hq : q < n) (ha : a < q) (h0 : A 42 0 q = nI a) : ((rl_W A r q).1 = 0 ↔ (q ≠ r ∧ (rl_W A r a).1 = 0)) ∧ ((rl_W A r q).2 = 0 ↔ (A 43 0 q = 0 ∨ (rl_W A r a).2 = 0)) := by
  have h8 := hm.1
  have hqr : (nI q = nI r) ↔ q = r := nI_eq (by omega) (by omega)
  unfold rl_W
  rw [fr_wy_s (nI_pos (by omega)), nI_clamp (by omega), h0, if_pos (show (0 : Int32) = 0 from rfl), if_neg (show ¬ (1 : Int32) = 0 by decide)]
  refine ⟨?_, ?_⟩
  · by_cases e : q = r
    · rw [if_pos (hqr.mpr e), wy_u1]
      constructor
      · intro z; exact absurd z (by decide)
      · intro z; exact absurd e z.1
    · rw [if_neg (fun z => e (hqr.mp z)), wy_f _ _ _ 1, wy_fuel hm 7 8 a 0 1 (by omega) (by omega) (by omega)]
      exact ⟨fun z => ⟨e, z⟩, fun z => z.2⟩
  · by_cases e : A 43 0 q = 0
    · rw [if_pos e, wy_f0]
      exact ⟨fun _ => Or.inl e, fun _ => rfl⟩
    · rw [if_neg e, wy_u _ _ 0, wy_fuel hm 7 8 a 0 1 (by omega) (by omega) (by omega)]
      exact ⟨fun z => Or.inr z, fun z => z.resolve_left e⟩
/-- the first pass of the class: what is fed, and what it takes -/
theorem fl_1 {n C : Nat} {K : Nat → Nat × Nat} {I : fr_I} {J : fr_J} {A : fr_I} {B : fr_J} {r : Nat} (hr : r < n) (h : rl_al2 n C K I J A B) : ∀ i, i ≤ n → (∀ k a b, k ≠ 2 → k ≠ 3 → fr_it fb_F_findFlows I i k a b = I k a b) ∧ ∀ q, q < i → (fr_it fb_F_findFlows I i 3 0 q = 0 ↔ (rl_W A r q).2 = 0) ∧ fr_it fb_F_findFlows I i 2 0 q = if (rl_W A r q).2 = 0 then 0 else I 7 q 7 + I 7 q 8 := by
  intro i
  have h8 := h.1.1
  induction i with
  | zero => intro _; exact ⟨fun _ _ _ _ _ => rfl, fun q hq => by omega⟩
  | succ i ih =>
    intro hi
    obtain ⟨f, g⟩ := ih (by omega)
    rw [fr_it_s]
    generalize fr_it fb_F_findFlows I i = I0 at *
    have key : fb_F_findFlows I0 i = fr_ui (fr_ui I0 3 0 i (if (rl_W A r i).2 = 0 then 0 else 1)) 2 0 i (if (rl_W A r i).2 = 0 then 0 else I 7 i 7 + I 7 i 8) := by
      obtain ⟨hs, hv, hb, hme, hwi, hqq⟩ := h.2.2.2.2.2 i (by omega)
      have e10 : I0 10 i 0 = A 43 0 i := (f 10 i 0 (by decide) (by decide)).trans hb.1
      have e7 : I0 7 i 0 = A 42 0 i := (f 7 i 0 (by decide) (by decide)).trans hs.1
      have l1 : (fr_ui I0 3 0 i 1) 7 i 7 = I 7 i 7 := (fr_ui_n (fun z => absurd z.1 (by decide))).trans (f 7 i 7 (by decide) (by decide))
      have l2 : (fr_ui I0 3 0 i 1) 7 i 8 = I 7 i 8 := (fr_ui_n (fun z => absurd z.1 (by decide))).trans (f 7 i 8 (by decide) (by decide))
      unfold fb_F_findFlows
      rw [e10, e7, l1, l2]
      rcases h.2.1.2.2.2.2.1 i (by omega) with ⟨_, z⟩ | ⟨a, ha, z⟩
      · have w := (wy_top h.2.1 hr (by omega) z).2
        by_cases x : A 43 0 i = 0
        · rw [if_pos x, if_pos (w.mpr x), if_pos (w.mpr x)]
        · rw [if_neg x, if_pos z, if_neg (fun y => x (w.mp y)), if_neg (fun y => x (w.mp y))]
      · have w := (wy_nxt h.2.1 hr (by omega) ha z).2
        have hn1 : ¬ nI a = -1 := fun q => (nI_pos (n := a) (by omega)) (by rw [q]; decide)
        by_cases x : A 43 0 i = 0
        · rw [if_pos x, if_pos (w.mpr (Or.inl x)), if_pos (w.mpr (Or.inl x))]
        · rw [if_neg x, z, if_neg hn1, nI_clamp (by omega)]
          have ga := (g a ha).1
          by_cases y : (rl_W A r a).2 = 0
          · rw [if_pos (ga.mpr y), if_pos (w.mpr (Or.inr y)), if_pos (w.mpr (Or.inr y))]
          · have w' : ¬ (rl_W A r i).2 = 0 := fun q => (w.mp q).elim x y
            rw [if_neg (fun q => y (ga.mp q)), if_neg w', if_neg w']
    rw [key]
    refine ⟨fun k a b h2 h3 => ?_, fun q hq => ?_⟩
    · rw [fr_ui_n (fun z => h2 z.1), fr_ui_n (fun z => h3 z.1)]; exact f k a b h2 h3
    · by_cases e : q = i
      · subst e
        refine ⟨?_, ?_⟩
        · rw [fr_ui_n (fun z => absurd z.1 (by decide))]
          simp only [fr_ui]
          simp
        · simp [fr_ui]
      · have := g q (by omega)
        rw [fr_ui_n (fun z => absurd z.1 (by decide)), fr_ui_n (fun z => e z.2.2)]
        refine ⟨this.1, ?_⟩
        rw [fr_ui_n (fun z => e z.2.2), fr_ui_n (fun z => absurd z.1 (by decide))]
        exact this.2
/-- a sum over those that the reference counts -/
def rl_sm (A : fr_I) (r : Nat) (v : Nat → Int32) : Nat → Int32
  | 0 => 0
  | i + 1 => rl_sm A r v i + (if (rl_W A r i).1 = 0 then 0 else v i)
theorem rl_sm_c {A : fr_I} {r : Nat} {v v' : Nat → Int32} : ∀ N, (∀ i, i < N → v' i = v i) → rl_sm A r v' N = rl_sm A r v N := by
  intro N
  induction N with
  | zero => intro _; rfl
  | succ N ih => intro h; unfold rl_sm; rw [ih (fun i hi => h i (by omega)), h N (by omega)]
theorem rl_sm_a {A : fr_I} {r : Nat} {v v' : Nat → Int32} {a : Nat} {d : Int32} (ha : v' a = v a + d) (ho : ∀ i, i ≠ a → v' i = v i) : ∀ N, a < N → rl_sm A r v' N = rl_sm A r v N + (if (rl_W A r a).1 = 0 then 0 else d) := by
  intro N
  induction N with
  | zero => intro h; omega
  | succ N ih =>
    intro h
    unfold rl_sm
    by_cases e : a = N
    · subst e
      rw [rl_sm_c a (fun i hi => ho i (by omega)), ha]
      by_cases x : (rl_W A r a).1 = 0
      · simp [x]
      · simp only [x, if_false]; rw [Int32.add_assoc]
    · rw [ih (by omega), ho N (fun z => e z.symm)]
      generalize rl_sm A r v N = s
      generalize (if (rl_W A r a).1 = 0 then (0 : Int32) else d) = t
      generalize (if (rl_W A r N).1 = 0 then (0 : Int32) else v N) = w
      rw [Int32.add_assoc, Int32.add_assoc, Int32.add_comm t w]
/-- nothing above counts -/
theorem rl_sm_0 {A : fr_I} {n r : Nat} {v : Nat → Int32} (hm : fr_mw n A) (hr : r < n) : ∀ N, N ≤ r → rl_sm A r v N = 0 := by
  have hz : ∀ q, q < r → (rl_W A r q).1 = 0 := by
    intro q
    induction q using Nat.strongRecOn with
    | ind q ih =>
      intro hq
      rcases hm.2.2.2.2.1 q (by omega) with ⟨_, z⟩ | ⟨a, ha, z⟩
      · exact (wy_top hm hr (by omega) z).1.mpr (by omega)
      · exact (wy_nxt hm hr (by omega) ha z).1.mpr ⟨by omega, ih a ha (by omega)⟩
  intro N
  induction N with
  | zero => intro _; rfl
  | succ N ih => intro h; unfold rl_sm; rw [ih (by omega), if_pos (hz N (by omega))]; rfl
/-- the second pass of the class -/
theorem fl_2 {A : fr_I} {n r : Nat} (hm : fr_mw n A) (hr : r < n) : ∀ (M : Nat) (I : fr_I), M < n → (∀ q, q < n → I 7 q 0 = A 42 0 q) → fr_f2 M I 2 0 r = if r ≤ M then rl_sm A r (fun s => I 2 0 s) (M + 1) else I 2 0 r := by
  have h8 := hm.1
  have self : (rl_W A r r).1 = 0 → False := by
    rcases hm.2.2.2.2.1 r hr with ⟨_, z⟩ | ⟨a, ha, z⟩
    · intro w; exact (wy_top hm hr hr z).1.mp w rfl
    · intro w; exact ((wy_nxt hm hr hr ha z).1.mp w).1 rfl
  intro M
  induction M with
  | zero =>
    intro I _ _
    show I 2 0 r = _
    by_cases e : r ≤ 0
    · obtain rfl : r = 0 := by omega
      rw [if_pos e]
      show _ = 0 + (if (rl_W A 0 0).1 = 0 then 0 else I 2 0 0)
      rw [if_neg self]; simp
    · rw [if_neg e]
  | succ M ih =>
    intro I hM h7
    show fr_f2 M (fr_f2s I (M + 1)) 2 0 r = _
    obtain ⟨a, ha, z⟩ : ∃ a, a < M + 1 ∧ A 42 0 (M + 1) = nI a := by
      rcases hm.2.2.2.2.1 (M + 1) hM with ⟨z, _⟩ | z
      · omega
      · exact z
    have hs : fr_f2s I (M + 1) = fr_ui I 2 0 a (I 2 0 a + I 2 0 (M + 1)) := by
      unfold fr_f2s
      rw [h7 (M + 1) hM, z, nI_clamp (by omega)]
    rw [hs, ih _ (by omega) (fun q hq => (fr_ui_n (fun z => absurd z.1 (by decide))).trans (h7 q hq))]
    have va : (fr_ui I 2 0 a (I 2 0 a + I 2 0 (M + 1))) 2 0 a = I 2 0 a + I 2 0 (M + 1) := by simp [fr_ui]
    have vo : ∀ i, i ≠ a → (fr_ui I 2 0 a (I 2 0 a + I 2 0 (M + 1))) 2 0 i = I 2 0 i := fun i hi => fr_ui_n (fun z => hi z.2.2)
    by_cases e : r ≤ M
    · rw [if_pos e, if_pos (by omega), rl_sm_a (v := fun s => I 2 0 s) (a := a) va vo (M + 1) (by omega)]
      show _ = rl_sm A r (fun s => I 2 0 s) (M + 1) + (if (rl_W A r (M + 1)).1 = 0 then 0 else I 2 0 (M + 1))
      have w := (wy_nxt hm hr hM ha z).1
      by_cases x : (rl_W A r a).1 = 0
      · rw [if_pos x, if_pos (w.mpr ⟨by omega, x⟩)]
      · rw [if_neg x, if_neg (fun y => x (w.mp y).2)]
    · rw [if_neg e]
      by_cases e2 : r = M + 1
      · subst e2
        rw [if_pos (Nat.le_refl _), vo _ (by omega)]
        show _ = rl_sm A (M + 1) (fun s => I 2 0 s) (M + 1) + (if (rl_W A (M + 1) (M + 1)).1 = 0 then 0 else I 2 0 (M + 1))
        rw [rl_sm_0 hm hr _ (Nat.le_refl _), if_neg self]; simp
      · rw [if_neg (by omega), vo _ (by omega)]
theorem f2_k : ∀ (M : Nat) (I : fr_I) (k a b : Nat), k ≠ 2 → fr_f2 M I k a b = I k a b := by
  intro M
  induction M with
  | zero => intro I k a b _; rfl
  | succ M ih => intro I k a b h; show fr_f2 M (fr_f2s I (M + 1)) k a b = _; rw [ih _ k a b h]; exact fr_ui_n (fun z => h z.1)
theorem ff_k {n C : Nat} {K : Nat → Nat × Nat} {I : fr_I} {J : fr_J} {A : fr_I} {B : fr_J} (h : rl_al2 n C K I J A B) (k a b : Nat) (h2 : k ≠ 2) (h3 : k ≠ 3) : f_F_findFlows I n k a b = I k a b := by
  unfold f_F_findFlows
  rw [f2_k _ _ _ _ _ h2]
  by_cases e : n = 0
  · subst e; rfl
  · exact (fl_1 (r := 0) (by omega) h n (Nat.le_refl _)).1 k a b h2 h3
/-- what flows is the same -/
theorem rl_flow {n C : Nat} {K : Nat → Nat × Nat} {I : fr_I} {J : fr_J} {A : fr_I} {B : fr_J} {r : Nat} (hr : r < n) (h : rl_al2 n C K I J A B) : f_F_findFlows I n 2 0 r = f_O_flow A n r ∧ fr_nn (f_O_flow A n r) 176001 := by
  obtain ⟨f, g⟩ := fl_1 hr h n (Nat.le_refl _)
  have h8 := h.1.1
  have vt : ∀ i, i ≤ n → fr_vt (fs_O_flow r A) 0 i = rl_sm A r (fun s => fr_it fb_F_findFlows I n 2 0 s) i ∧ ∃ e, e ≤ 22000 * i ∧ fr_vt (fs_O_flow r A) 0 i = nI e := by
    intro i
    induction i with
    | zero => intro _; exact ⟨rfl, 0, by omega, rfl⟩
    | succ i ih =>
      intro hi
      obtain ⟨i1, e, he, i2⟩ := ih (by omega)
      obtain ⟨hs, ⟨⟨e1, l1, v1⟩, ⟨e2, l2, v2⟩, _⟩, hb, hme, hwi, hqq⟩ := h.2.2.2.2.2 i (by omega)
      rw [fr_vt_s]
      unfold rl_sm
      rw [← i1]
      show fs_O_flow r A i (fr_vt (fs_O_flow r A) 0 i) = _ + (if (rl_W A r i).1 = 0 then 0 else fr_it fb_F_findFlows I n 2 0 i) ∧ _
      rw [(g i (by omega)).2]
      have key : fs_O_flow r A i (fr_vt (fs_O_flow r A) 0 i) = if (rl_W A r i).1 = 0 then fr_vt (fs_O_flow r A) 0 i + 0 else if (rl_W A r i).2 = 0 then fr_vt (fs_O_flow r A) 0 i + 0 else fr_vt (fs_O_flow r A) 0 i + (I 7 i 7 + I 7 i 8) := by
        rw [hs.2.1, hs.2.2.1]; rfl
      rw [key, i2]
      by_cases x : (rl_W A r i).1 = 0
      · simp only [x, if_true]
        exact ⟨trivial, e, by omega, by simp⟩
      · by_cases y : (rl_W A r i).2 = 0
        · simp only [x, y, if_true, if_false]
          exact ⟨trivial, e, by omega, by simp⟩
        · simp only [x, y, if_false]
          refine ⟨trivial, e + (e1 + e2), by omega, ?_⟩
          rw [v1, v2, nI_add, nI_add]
  obtain ⟨i1, e, he, i2⟩ := vt n (Nat.le_refl _)
  refine ⟨?_, e, by omega, i2⟩
  unfold f_F_findFlows f_O_flow
  rw [fl_2 h.2.1 hr (n - 1) _ (by omega) (fun q hq => (f 7 q 0 (by decide) (by decide)).trans (h.2.2.2.2.2 q hq).1.1), if_pos (by omega), i1, show n - 1 + 1 = n by omega]

theorem rl_inv_0 : rl_inv 0 0 (fun _ _ _ => 0) (fun _ _ _ => 0) :=
  ⟨0, by decide, ⟨⟨by decide, rfl, ⟨0, by decide, rfl⟩, fun r hr => absurd hr (Nat.not_lt_zero _), fun r hr => absurd hr (Nat.not_lt_zero _), ⟨0, by decide, rfl⟩⟩, ⟨by decide, rfl, ⟨0, by decide, rfl⟩, ⟨0, by decide, rfl⟩, fun r hr => absurd hr (Nat.not_lt_zero _), fun r hr => absurd hr (Nat.not_lt_zero _)⟩, rfl, rfl, ⟨rfl, rfl, fun _ => rfl, fun _ => rfl⟩, fun r hr => absurd hr (Nat.not_lt_zero _)⟩, fun _ r _ => ⟨fun _ _ _ _ _ _ => rfl, fun _ _ => rfl, rfl⟩⟩
theorem rl_ok (X : fr_X) (hX : ∀ k r, fr_ad X k r = fr_adf X.2.2.2 k r) (c : Nat) (hc : c < 512) : lx_ok X (rl_inv c) (rl_inv (c + 1)) :=
  ⟨fun n I J a1 h => op_relay X hX hc n I J a1 h,
   fun n I J a1 a2 a3 a4 h => op_settings X n I J a1 a2 a3 a4 h,
   fun n I J a1 a2 a3 a4 h h2 => op_options X n I J a1 a2 a3 a4 h h2,
   fun n I J a1 a2 h => op_load X n I J a1 a2 h,
   fun n I J a1 a2 h => op_fault X n I J a1 a2 h,
   fun n I J a1 a2 h h2 => op_jam X n I J a1 a2 h h2,
   fun n I J a1 a2 h => op_line X n I J a1 a2 h,
   fun n I J a1 a2 h h2 => op_operate X n I J a1 a2 h h2,
   fun n I J a1 h => op_run X hc n I J a1 h,
   fun n I J h => op_crash X hc n I J h,
   fun n I J h => op_time X n I J h,
   fun n I J a1 h => op_current X n I J a1 h,
   fun n I J a1 h => op_state X hc n I J a1 h,
   fun n I J a1 h => op_sum X n I J a1 h,
   fun n I J a1 h => op_used X n I J a1 h,
   fun n I J a1 h => op_changes X n I J a1 h,
   fun n I J a1 h => op_known X n I J a1 h,
   fun n I J a1 h => op_effective X n I J a1 h,
   fun n I J h => op_events X n I J h,
   fun n I J a1 h => op_event X n I J a1 h,
   fun n I J a1 h => op_when X n I J a1 h⟩
theorem whole_start {p : Program} {e : Env} {s : State} {m : MethodId} {below : List Frame} {meth : Method} {c : Code} (l : Launch) {b L : Nat} {xs : Nat → Int32} (hL : L ≤ 2560) (C0 : lw_At p s m meth c b L xs) : W p l e room_1 s m #[Value.ref b] below meth c s.heap [] 0 0 (lw_Z below #[Value.ref b] s) (entryFrame m ([Value.ref b] : List Value).toArray 4) :=
  lx_start rl_inv_8 rl_inv_m rl_ok rl_inv_0 l hL C0

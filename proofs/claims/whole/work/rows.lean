section
-- ===== PART A: goes FIRST, ahead of the names: the tables' words, and 'selects' of the private methods out of them =====
/-- a private method of a class that the tables say can be made, by its rows of tables_1 -/
def lw_okq (q : MethodName × Nat) : Prop := (q.1.cls ≠ "java/lang/invoke/MethodHandle" ∧ q.1.cls ≠ "java/lang/invoke/VarHandle") ∧ Cond.instantiable q.1.cls q.2 ∈ tables_1 ∧ Cond.privateMethod q.1 ∈ tables_1 ∧ Cond.instanceMethod q.1 ∈ tables_1
theorem lw_p0 : lw_okq (⟨"FeederRelays", "isPlaceFor", "(I)Z"⟩, 6) := ⟨⟨by decide +kernel, by decide +kernel⟩, List.mem_of_getElem? (i := 11) (by decide +kernel), List.mem_of_getElem? (i := 68) (by decide +kernel), List.mem_of_getElem? (i := 69) (by decide +kernel)⟩
theorem lw_p1 : lw_okq (⟨"FeederRelays", "isRelay", "(I)Z"⟩, 6) := ⟨⟨by decide +kernel, by decide +kernel⟩, List.mem_of_getElem? (i := 11) (by decide +kernel), List.mem_of_getElem? (i := 72) (by decide +kernel), List.mem_of_getElem? (i := 73) (by decide +kernel)⟩
theorem lw_p2 : lw_okq (⟨"FeederRelays", "tick", "()V"⟩, 6) := ⟨⟨by decide +kernel, by decide +kernel⟩, List.mem_of_getElem? (i := 11) (by decide +kernel), List.mem_of_getElem? (i := 274) (by decide +kernel), List.mem_of_getElem? (i := 275) (by decide +kernel)⟩
theorem lw_p3 : lw_okq (⟨"FeederRelays$Wire", "learn", "(II)V"⟩, 9) := ⟨⟨by decide +kernel, by decide +kernel⟩, List.mem_of_getElem? (i := 161) (by decide +kernel), List.mem_of_getElem? (i := 285) (by decide +kernel), List.mem_of_getElem? (i := 286) (by decide +kernel)⟩
theorem lw_p4 : lw_okq (⟨"FeederRelays", "moveBreaker", "(I)V"⟩, 6) := ⟨⟨by decide +kernel, by decide +kernel⟩, List.mem_of_getElem? (i := 11) (by decide +kernel), List.mem_of_getElem? (i := 289) (by decide +kernel), List.mem_of_getElem? (i := 290) (by decide +kernel)⟩
theorem lw_p5 : lw_okq (⟨"FeederRelays", "measureAll", "()V"⟩, 6) := ⟨⟨by decide +kernel, by decide +kernel⟩, List.mem_of_getElem? (i := 11) (by decide +kernel), List.mem_of_getElem? (i := 324) (by decide +kernel), List.mem_of_getElem? (i := 325) (by decide +kernel)⟩
theorem lw_p6 : lw_okq (⟨"FeederRelays", "findFlows", "()V"⟩, 6) := ⟨⟨by decide +kernel, by decide +kernel⟩, List.mem_of_getElem? (i := 11) (by decide +kernel), List.mem_of_getElem? (i := 328) (by decide +kernel), List.mem_of_getElem? (i := 329) (by decide +kernel)⟩
theorem lw_p7 : lw_okq (⟨"FeederRelays$Meter", "rootOfMeanSquare", "()I"⟩, 8) := ⟨⟨by decide +kernel, by decide +kernel⟩, List.mem_of_getElem? (i := 81) (by decide +kernel), List.mem_of_getElem? (i := 336) (by decide +kernel), List.mem_of_getElem? (i := 337) (by decide +kernel)⟩
theorem lw_p8 : lw_okq (⟨"FeederRelays$Meter", "growth", "()J"⟩, 8) := ⟨⟨by decide +kernel, by decide +kernel⟩, List.mem_of_getElem? (i := 81) (by decide +kernel), List.mem_of_getElem? (i := 342) (by decide +kernel), List.mem_of_getElem? (i := 343) (by decide +kernel)⟩
theorem lw_p9 : lw_okq (⟨"FeederRelays$Wire", "send", "(II)V"⟩, 9) := ⟨⟨by decide +kernel, by decide +kernel⟩, List.mem_of_getElem? (i := 161) (by decide +kernel), List.mem_of_getElem? (i := 353) (by decide +kernel), List.mem_of_getElem? (i := 354) (by decide +kernel)⟩
theorem lw_p10 : lw_okq (⟨"FeederRelays", "tripIfDue", "(I)V"⟩, 6) := ⟨⟨by decide +kernel, by decide +kernel⟩, List.mem_of_getElem? (i := 11) (by decide +kernel), List.mem_of_getElem? (i := 357) (by decide +kernel), List.mem_of_getElem? (i := 358) (by decide +kernel)⟩
theorem lw_p11 : lw_okq (⟨"FeederRelays$Meter", "limit", "()J"⟩, 8) := ⟨⟨by decide +kernel, by decide +kernel⟩, List.mem_of_getElem? (i := 81) (by decide +kernel), List.mem_of_getElem? (i := 365) (by decide +kernel), List.mem_of_getElem? (i := 366) (by decide +kernel)⟩
theorem lw_p12 : lw_okq (⟨"FeederRelays", "isBlocked", "(I)Z"⟩, 6) := ⟨⟨by decide +kernel, by decide +kernel⟩, List.mem_of_getElem? (i := 11) (by decide +kernel), List.mem_of_getElem? (i := 373) (by decide +kernel), List.mem_of_getElem? (i := 374) (by decide +kernel)⟩
theorem lw_p13 : lw_okq (⟨"FeederRelays", "failIfDue", "(I)V"⟩, 6) := ⟨⟨by decide +kernel, by decide +kernel⟩, List.mem_of_getElem? (i := 11) (by decide +kernel), List.mem_of_getElem? (i := 385) (by decide +kernel), List.mem_of_getElem? (i := 386) (by decide +kernel)⟩
theorem lw_p14 : lw_okq (⟨"FeederRelaysModel", "none", "(I)Z"⟩, 37) := ⟨⟨by decide +kernel, by decide +kernel⟩, List.mem_of_getElem? (i := 471) (by decide +kernel), List.mem_of_getElem? (i := 594) (by decide +kernel), List.mem_of_getElem? (i := 595) (by decide +kernel)⟩
theorem lw_p15 : lw_okq (⟨"FeederRelaysModel", "tick", "()V"⟩, 37) := ⟨⟨by decide +kernel, by decide +kernel⟩, List.mem_of_getElem? (i := 471) (by decide +kernel), List.mem_of_getElem? (i := 630) (by decide +kernel), List.mem_of_getElem? (i := 631) (by decide +kernel)⟩
def lw_privs_1 : List (MethodName × Nat) := [(⟨"FeederRelays", "isPlaceFor", "(I)Z"⟩, 6), (⟨"FeederRelays", "isRelay", "(I)Z"⟩, 6), (⟨"FeederRelays", "tick", "()V"⟩, 6), (⟨"FeederRelays$Wire", "learn", "(II)V"⟩, 9), (⟨"FeederRelays", "moveBreaker", "(I)V"⟩, 6), (⟨"FeederRelays", "measureAll", "()V"⟩, 6), (⟨"FeederRelays", "findFlows", "()V"⟩, 6), (⟨"FeederRelays$Meter", "rootOfMeanSquare", "()I"⟩, 8), (⟨"FeederRelays$Meter", "growth", "()J"⟩, 8), (⟨"FeederRelays$Wire", "send", "(II)V"⟩, 9), (⟨"FeederRelays", "tripIfDue", "(I)V"⟩, 6), (⟨"FeederRelays$Meter", "limit", "()J"⟩, 8), (⟨"FeederRelays", "isBlocked", "(I)Z"⟩, 6), (⟨"FeederRelays", "failIfDue", "(I)V"⟩, 6), (⟨"FeederRelaysModel", "none", "(I)Z"⟩, 37), (⟨"FeederRelaysModel", "tick", "()V"⟩, 37)]
theorem lw_r1 : ∀ q ∈ lw_privs_1, lw_okq q := List.forall_mem_cons.mpr ⟨lw_p0, List.forall_mem_cons.mpr ⟨lw_p1, List.forall_mem_cons.mpr ⟨lw_p2, List.forall_mem_cons.mpr ⟨lw_p3, List.forall_mem_cons.mpr ⟨lw_p4, List.forall_mem_cons.mpr ⟨lw_p5, List.forall_mem_cons.mpr ⟨lw_p6, List.forall_mem_cons.mpr ⟨lw_p7, List.forall_mem_cons.mpr ⟨lw_p8, List.forall_mem_cons.mpr ⟨lw_p9, List.forall_mem_cons.mpr ⟨lw_p10, List.forall_mem_cons.mpr ⟨lw_p11, List.forall_mem_cons.mpr ⟨lw_p12, List.forall_mem_cons.mpr ⟨lw_p13, List.forall_mem_cons.mpr ⟨lw_p14, List.forall_mem_cons.mpr ⟨lw_p15, fun _ h => absurd h List.not_mem_nil⟩⟩⟩⟩⟩⟩⟩⟩⟩⟩⟩⟩⟩⟩⟩⟩
theorem lw_p16 : lw_okq (⟨"FeederRelaysModel", "receive", "(I)V"⟩, 37) := ⟨⟨by decide +kernel, by decide +kernel⟩, List.mem_of_getElem? (i := 471) (by decide +kernel), List.mem_of_getElem? (i := 634) (by decide +kernel), List.mem_of_getElem? (i := 635) (by decide +kernel)⟩
theorem lw_p17 : lw_okq (⟨"FeederRelaysModel", "breaker", "(I)V"⟩, 37) := ⟨⟨by decide +kernel, by decide +kernel⟩, List.mem_of_getElem? (i := 471) (by decide +kernel), List.mem_of_getElem? (i := 638) (by decide +kernel), List.mem_of_getElem? (i := 639) (by decide +kernel)⟩
theorem lw_p18 : lw_okq (⟨"FeederRelaysModel", "note", "(II)V"⟩, 37) := ⟨⟨by decide +kernel, by decide +kernel⟩, List.mem_of_getElem? (i := 471) (by decide +kernel), List.mem_of_getElem? (i := 642) (by decide +kernel), List.mem_of_getElem? (i := 643) (by decide +kernel)⟩
theorem lw_p19 : lw_okq (⟨"FeederRelaysModel", "measure", "(I)V"⟩, 37) := ⟨⟨by decide +kernel, by decide +kernel⟩, List.mem_of_getElem? (i := 471) (by decide +kernel), List.mem_of_getElem? (i := 646) (by decide +kernel), List.mem_of_getElem? (i := 647) (by decide +kernel)⟩
theorem lw_p20 : lw_okq (⟨"FeederRelaysModel", "flow", "(I)I"⟩, 37) := ⟨⟨by decide +kernel, by decide +kernel⟩, List.mem_of_getElem? (i := 471) (by decide +kernel), List.mem_of_getElem? (i := 650) (by decide +kernel), List.mem_of_getElem? (i := 651) (by decide +kernel)⟩
theorem lw_p21 : lw_okq (⟨"FeederRelaysModel", "root", "(I)I"⟩, 37) := ⟨⟨by decide +kernel, by decide +kernel⟩, List.mem_of_getElem? (i := 471) (by decide +kernel), List.mem_of_getElem? (i := 654) (by decide +kernel), List.mem_of_getElem? (i := 655) (by decide +kernel)⟩
theorem lw_p22 : lw_okq (⟨"FeederRelaysModel", "send", "(I)V"⟩, 37) := ⟨⟨by decide +kernel, by decide +kernel⟩, List.mem_of_getElem? (i := 471) (by decide +kernel), List.mem_of_getElem? (i := 661) (by decide +kernel), List.mem_of_getElem? (i := 662) (by decide +kernel)⟩
theorem lw_p23 : lw_okq (⟨"FeederRelaysModel", "trip", "(I)V"⟩, 37) := ⟨⟨by decide +kernel, by decide +kernel⟩, List.mem_of_getElem? (i := 471) (by decide +kernel), List.mem_of_getElem? (i := 665) (by decide +kernel), List.mem_of_getElem? (i := 666) (by decide +kernel)⟩
theorem lw_p24 : lw_okq (⟨"FeederRelaysModel", "blocked", "(I)Z"⟩, 37) := ⟨⟨by decide +kernel, by decide +kernel⟩, List.mem_of_getElem? (i := 471) (by decide +kernel), List.mem_of_getElem? (i := 669) (by decide +kernel), List.mem_of_getElem? (i := 670) (by decide +kernel)⟩
theorem lw_p25 : lw_okq (⟨"FeederRelaysModel", "give", "(II)V"⟩, 37) := ⟨⟨by decide +kernel, by decide +kernel⟩, List.mem_of_getElem? (i := 471) (by decide +kernel), List.mem_of_getElem? (i := 673) (by decide +kernel), List.mem_of_getElem? (i := 674) (by decide +kernel)⟩
theorem lw_p26 : lw_okq (⟨"FeederRelaysModel", "fail", "(I)V"⟩, 37) := ⟨⟨by decide +kernel, by decide +kernel⟩, List.mem_of_getElem? (i := 471) (by decide +kernel), List.mem_of_getElem? (i := 677) (by decide +kernel), List.mem_of_getElem? (i := 678) (by decide +kernel)⟩
def lw_privs_2 : List (MethodName × Nat) := [(⟨"FeederRelaysModel", "receive", "(I)V"⟩, 37), (⟨"FeederRelaysModel", "breaker", "(I)V"⟩, 37), (⟨"FeederRelaysModel", "note", "(II)V"⟩, 37), (⟨"FeederRelaysModel", "measure", "(I)V"⟩, 37), (⟨"FeederRelaysModel", "flow", "(I)I"⟩, 37), (⟨"FeederRelaysModel", "root", "(I)I"⟩, 37), (⟨"FeederRelaysModel", "send", "(I)V"⟩, 37), (⟨"FeederRelaysModel", "trip", "(I)V"⟩, 37), (⟨"FeederRelaysModel", "blocked", "(I)Z"⟩, 37), (⟨"FeederRelaysModel", "give", "(II)V"⟩, 37), (⟨"FeederRelaysModel", "fail", "(I)V"⟩, 37)]
theorem lw_r2 : ∀ q ∈ lw_privs_2, lw_okq q := List.forall_mem_cons.mpr ⟨lw_p16, List.forall_mem_cons.mpr ⟨lw_p17, List.forall_mem_cons.mpr ⟨lw_p18, List.forall_mem_cons.mpr ⟨lw_p19, List.forall_mem_cons.mpr ⟨lw_p20, List.forall_mem_cons.mpr ⟨lw_p21, List.forall_mem_cons.mpr ⟨lw_p22, List.forall_mem_cons.mpr ⟨lw_p23, List.forall_mem_cons.mpr ⟨lw_p24, List.forall_mem_cons.mpr ⟨lw_p25, List.forall_mem_cons.mpr ⟨lw_p26, fun _ h => absurd h List.not_mem_nil⟩⟩⟩⟩⟩⟩⟩⟩⟩⟩⟩
def lw_privs : List (MethodName × Nat) := lw_privs_1 ++ (lw_privs_2)
def lw_tbl : List Cond := k2_sels lw_privs ++ tables_1
theorem lw_privs_ok : ∀ q ∈ lw_privs, lw_okq q := by
  show ∀ q ∈ lw_privs_1 ++ (lw_privs_2), lw_okq q
  exact List.forall_mem_append.mpr ⟨lw_r1, lw_r2⟩
-- ===== end of PART A; then your names; then what follows =====
end
section
abbrev R_F : String := "FeederRelays"
abbrev R_J : String := "FeederRelays$Journal"
abbrev R_R : String := "FeederRelays$Relay"
abbrev R_M : String := "FeederRelays$Meter"
abbrev R_B : String := "FeederRelays$Breaker"
abbrev R_W : String := "FeederRelays$Wire"
abbrev R_O : String := "FeederRelaysModel"
abbrev R_L : String := "FeederRelaysLaw"
abbrev R_A : String := "java/util/Arrays"
def T_F : u_T := fun k => match k with
  | 0 => ("FeederRelays", "relays", "[LFeederRelays$Relay;", true)
  | 1 => ("FeederRelays", "flows", "[I", true)
  | 2 => ("FeederRelays", "fed", "[Z", true)
  | 3 => ("FeederRelays", "journal", "LFeederRelays$Journal;", true)
  | 4 => ("FeederRelays", "count", "I", false)
  | _ => ("FeederRelays", "now", "I", false)
def ty_F : Nat → FieldType := fun k => match k with
  | 0 => .array (.object "FeederRelays$Relay")
  | 1 => .array .int
  | 2 => .array .boolean
  | 3 => .object "FeederRelays$Journal"
  | 4 => .int
  | _ => .int
abbrev fr_q0 : vw_C := (R_F, T_F, 6)
theorem nm_F : ∀ a, a < 6 → ∀ b, b < 6 → a ≠ b → (T_F a).2.1 ≠ (T_F b).2.1 := by decide +kernel
theorem tk_F : ∀ k, k < 6 → parseFieldDescriptor (T_F k).2.2.1 = some (ty_F k) := by decide +kernel
def T_J : u_T := fun k => match k with
  | 0 => ("FeederRelays$Journal", "codes", "[I", true)
  | 1 => ("FeederRelays$Journal", "times", "[I", true)
  | 2 => ("FeederRelays$Journal", "recorded", "I", false)
  | _ => ("FeederRelays$Journal", "stored", "I", false)
def ty_J : Nat → FieldType := fun k => match k with
  | 0 => .array .int
  | 1 => .array .int
  | 2 => .int
  | _ => .int
abbrev fr_q1 : vw_C := (R_J, T_J, 4)
theorem nm_J : ∀ a, a < 4 → ∀ b, b < 4 → a ≠ b → (T_J a).2.1 ≠ (T_J b).2.1 := by decide +kernel
theorem tk_J : ∀ k, k < 4 → parseFieldDescriptor (T_J k).2.2.1 = some (ty_J k) := by decide +kernel
def T_R : u_T := fun k => match k with
  | 0 => ("FeederRelays$Relay", "above", "I", true)
  | 1 => ("FeederRelays$Relay", "meter", "LFeederRelays$Meter;", true)
  | 2 => ("FeederRelays$Relay", "breaker", "LFeederRelays$Breaker;", true)
  | 3 => ("FeederRelays$Relay", "wire", "LFeederRelays$Wire;", true)
  | 4 => ("FeederRelays$Relay", "held", "Z", false)
  | 5 => ("FeederRelays$Relay", "shots", "I", false)
  | 6 => ("FeederRelays$Relay", "patience", "I", false)
  | 7 => ("FeederRelays$Relay", "loadAmount", "I", false)
  | _ => ("FeederRelays$Relay", "faultAmount", "I", false)
def ty_R : Nat → FieldType := fun k => match k with
  | 0 => .int
  | 1 => .object "FeederRelays$Meter"
  | 2 => .object "FeederRelays$Breaker"
  | 3 => .object "FeederRelays$Wire"
  | 4 => .boolean
  | 5 => .int
  | 6 => .int
  | 7 => .int
  | _ => .int
abbrev fr_q2 : vw_C := (R_R, T_R, 9)
theorem nm_R : ∀ a, a < 9 → ∀ b, b < 9 → a ≠ b → (T_R a).2.1 ≠ (T_R b).2.1 := by decide +kernel
theorem tk_R : ∀ k, k < 9 → parseFieldDescriptor (T_R k).2.2.1 = some (ty_R k) := by decide +kernel
def T_M : u_T := fun k => match k with
  | 0 => ("FeederRelays$Meter", "samples", "[I", true)
  | 1 => ("FeederRelays$Meter", "oldest", "I", false)
  | 2 => ("FeederRelays$Meter", "kind", "I", false)
  | 3 => ("FeederRelays$Meter", "pickup", "I", false)
  | 4 => ("FeederRelays$Meter", "delay", "I", false)
  | 5 => ("FeederRelays$Meter", "effectiveNow", "I", false)
  | 6 => ("FeederRelays$Meter", "pickedUp", "Z", false)
  | _ => ("FeederRelays$Meter", "total", "J", false)
def ty_M : Nat → FieldType := fun k => match k with
  | 0 => .array .int
  | 1 => .int
  | 2 => .int
  | 3 => .int
  | 4 => .int
  | 5 => .int
  | 6 => .boolean
  | _ => .long
abbrev fr_q3 : vw_C := (R_M, T_M, 8)
theorem nm_M : ∀ a, a < 8 → ∀ b, b < 8 → a ≠ b → (T_M a).2.1 ≠ (T_M b).2.1 := by decide +kernel
theorem tk_M : ∀ k, k < 8 → parseFieldDescriptor (T_M k).2.2.1 = some (ty_M k) := by decide +kernel
def T_B : u_T := fun k => match k with
  | 0 => ("FeederRelays$Breaker", "closed", "Z", false)
  | 1 => ("FeederRelays$Breaker", "jammed", "Z", false)
  | 2 => ("FeederRelays$Breaker", "locked", "Z", false)
  | 3 => ("FeederRelays$Breaker", "failed", "Z", false)
  | 4 => ("FeederRelays$Breaker", "orderIsOwn", "Z", false)
  | 5 => ("FeederRelays$Breaker", "usedShots", "I", false)
  | 6 => ("FeederRelays$Breaker", "hasOrder", "Z", false)
  | 7 => ("FeederRelays$Breaker", "orderedAt", "I", false)
  | 8 => ("FeederRelays$Breaker", "waiting", "Z", false)
  | 9 => ("FeederRelays$Breaker", "closingAt", "I", false)
  | _ => ("FeederRelays$Breaker", "reclaimAt", "I", false)
def ty_B : Nat → FieldType := fun k => match k with
  | 0 => .boolean
  | 1 => .boolean
  | 2 => .boolean
  | 3 => .boolean
  | 4 => .boolean
  | 5 => .int
  | 6 => .boolean
  | 7 => .int
  | 8 => .boolean
  | 9 => .int
  | _ => .int
abbrev fr_q4 : vw_C := (R_B, T_B, 11)
theorem nm_B : ∀ a, a < 11 → ∀ b, b < 11 → a ≠ b → (T_B a).2.1 ≠ (T_B b).2.1 := by decide +kernel
theorem tk_B : ∀ k, k < 11 → parseFieldDescriptor (T_B k).2.2.1 = some (ty_B k) := by decide +kernel
def T_W : u_T := fun k => match k with
  | 0 => ("FeederRelays$Wire", "leadsUp", "Z", true)
  | 1 => ("FeederRelays$Wire", "messages", "[I", true)
  | 2 => ("FeederRelays$Wire", "comesAt", "[I", true)
  | 3 => ("FeederRelays$Wire", "lag", "I", false)
  | 4 => ("FeederRelays$Wire", "number", "I", false)
  | 5 => ("FeederRelays$Wire", "knownMessage", "I", false)
  | 6 => ("FeederRelays$Wire", "cameAt", "I", false)
  | 7 => ("FeederRelays$Wire", "gap", "I", false)
  | _ => ("FeederRelays$Wire", "dueAt", "I", false)
def ty_W : Nat → FieldType := fun k => match k with
  | 0 => .boolean
  | 1 => .array .int
  | 2 => .array .int
  | 3 => .int
  | 4 => .int
  | 5 => .int
  | 6 => .int
  | 7 => .int
  | _ => .int
abbrev fr_q5 : vw_C := (R_W, T_W, 9)
theorem nm_W : ∀ a, a < 9 → ∀ b, b < 9 → a ≠ b → (T_W a).2.1 ≠ (T_W b).2.1 := by decide +kernel
theorem tk_W : ∀ k, k < 9 → parseFieldDescriptor (T_W k).2.2.1 = some (ty_W k) := by decide +kernel
def T_O : u_T := fun k => match k with
  | 0 => ("FeederRelaysModel", "count", "I", false)
  | 1 => ("FeederRelaysModel", "time", "I", false)
  | 2 => ("FeederRelaysModel", "above", "[I", false)
  | 3 => ("FeederRelaysModel", "closed", "[Z", false)
  | 4 => ("FeederRelaysModel", "jammed", "[Z", false)
  | 5 => ("FeederRelaysModel", "load", "[I", false)
  | 6 => ("FeederRelaysModel", "fault", "[I", false)
  | 7 => ("FeederRelaysModel", "kind", "[I", false)
  | 8 => ("FeederRelaysModel", "pickup", "[I", false)
  | 9 => ("FeederRelaysModel", "delay", "[I", false)
  | 10 => ("FeederRelaysModel", "held", "[Z", false)
  | 11 => ("FeederRelaysModel", "shots", "[I", false)
  | 12 => ("FeederRelaysModel", "patience", "[I", false)
  | 13 => ("FeederRelaysModel", "lag", "[I", false)
  | 14 => ("FeederRelaysModel", "samples", "[I", false)
  | 15 => ("FeederRelaysModel", "total", "[J", false)
  | 16 => ("FeederRelaysModel", "picked", "[Z", false)
  | 17 => ("FeederRelaysModel", "number", "[I", false)
  | 18 => ("FeederRelaysModel", "due", "[I", false)
  | 19 => ("FeederRelaysModel", "gap", "[I", false)
  | 20 => ("FeederRelaysModel", "order", "[I", false)
  | 21 => ("FeederRelaysModel", "ordered", "[I", false)
  | 22 => ("FeederRelaysModel", "failed", "[Z", false)
  | 23 => ("FeederRelaysModel", "waiting", "[Z", false)
  | 24 => ("FeederRelaysModel", "until", "[I", false)
  | 25 => ("FeederRelaysModel", "locked", "[Z", false)
  | 26 => ("FeederRelaysModel", "used", "[I", false)
  | 27 => ("FeederRelaysModel", "reclaim", "[I", false)
  | 28 => ("FeederRelaysModel", "under", "[I", false)
  | 29 => ("FeederRelaysModel", "comes", "[I", false)
  | 30 => ("FeederRelaysModel", "bears", "[I", false)
  | 31 => ("FeederRelaysModel", "known", "[I", false)
  | 32 => ("FeederRelaysModel", "came", "[I", false)
  | 33 => ("FeederRelaysModel", "events", "I", false)
  | 34 => ("FeederRelaysModel", "stored", "I", false)
  | 35 => ("FeederRelaysModel", "what", "[I", false)
  | _ => ("FeederRelaysModel", "when", "[I", false)
def ty_O : Nat → FieldType := fun k => match k with
  | 0 => .int
  | 1 => .int
  | 2 => .array .int
  | 3 => .array .boolean
  | 4 => .array .boolean
  | 5 => .array .int
  | 6 => .array .int
  | 7 => .array .int
  | 8 => .array .int
  | 9 => .array .int
  | 10 => .array .boolean
  | 11 => .array .int
  | 12 => .array .int
  | 13 => .array .int
  | 14 => .array .int
  | 15 => .array .long
  | 16 => .array .boolean
  | 17 => .array .int
  | 18 => .array .int
  | 19 => .array .int
  | 20 => .array .int
  | 21 => .array .int
  | 22 => .array .boolean
  | 23 => .array .boolean
  | 24 => .array .int
  | 25 => .array .boolean
  | 26 => .array .int
  | 27 => .array .int
  | 28 => .array .int
  | 29 => .array .int
  | 30 => .array .int
  | 31 => .array .int
  | 32 => .array .int
  | 33 => .int
  | 34 => .int
  | 35 => .array .int
  | _ => .array .int
abbrev fr_q6 : vw_C := (R_O, T_O, 37)
theorem nm_O : ∀ a, a < 37 → ∀ b, b < 37 → a ≠ b → (T_O a).2.1 ≠ (T_O b).2.1 := by decide +kernel
theorem tk_O : ∀ k, k < 37 → parseFieldDescriptor (T_O k).2.2.1 = some (ty_O k) := by decide +kernel
def fr_cl : List vw_C := [fr_q0, fr_q1, fr_q2, fr_q3, fr_q4, fr_q5, fr_q6]
abbrev c_F_init : ByteArray := prog_1_method_1_code
abbrev y_F_init : MethodName := ⟨R_F, "<init>", "()V"⟩
abbrev c_F_relay : ByteArray := prog_1_method_2_code
abbrev y_F_relay : MethodName := ⟨R_F, "relay", "(I)I"⟩
abbrev c_F_settings : ByteArray := prog_1_method_3_code
abbrev y_F_settings : MethodName := ⟨R_F, "settings", "(IIII)Z"⟩
abbrev c_F_options : ByteArray := prog_1_method_4_code
abbrev y_F_options : MethodName := ⟨R_F, "options", "(IZII)Z"⟩
abbrev c_F_load : ByteArray := prog_1_method_5_code
abbrev y_F_load : MethodName := ⟨R_F, "load", "(II)Z"⟩
abbrev c_F_fault : ByteArray := prog_1_method_6_code
abbrev y_F_fault : MethodName := ⟨R_F, "fault", "(II)Z"⟩
abbrev c_F_jam : ByteArray := prog_1_method_7_code
abbrev y_F_jam : MethodName := ⟨R_F, "jam", "(IZ)Z"⟩
abbrev c_F_line : ByteArray := prog_1_method_8_code
abbrev y_F_line : MethodName := ⟨R_F, "line", "(II)Z"⟩
abbrev c_F_operate : ByteArray := prog_1_method_9_code
abbrev y_F_operate : MethodName := ⟨R_F, "operate", "(IZ)Z"⟩
abbrev c_F_run : ByteArray := prog_1_method_10_code
abbrev y_F_run : MethodName := ⟨R_F, "run", "(I)I"⟩
abbrev c_F_crash : ByteArray := prog_1_method_11_code
abbrev y_F_crash : MethodName := ⟨R_F, "crash", "()I"⟩
abbrev c_F_time : ByteArray := prog_1_method_12_code
abbrev y_F_time : MethodName := ⟨R_F, "time", "()I"⟩
abbrev c_F_current : ByteArray := prog_1_method_13_code
abbrev y_F_current : MethodName := ⟨R_F, "current", "(I)I"⟩
abbrev c_F_state : ByteArray := prog_1_method_14_code
abbrev y_F_state : MethodName := ⟨R_F, "state", "(I)I"⟩
abbrev c_F_sum : ByteArray := prog_1_method_15_code
abbrev y_F_sum : MethodName := ⟨R_F, "sum", "(I)J"⟩
abbrev c_F_used : ByteArray := prog_1_method_16_code
abbrev y_F_used : MethodName := ⟨R_F, "used", "(I)I"⟩
abbrev c_F_changes : ByteArray := prog_1_method_17_code
abbrev y_F_changes : MethodName := ⟨R_F, "changes", "(I)I"⟩
abbrev c_F_known : ByteArray := prog_1_method_18_code
abbrev y_F_known : MethodName := ⟨R_F, "known", "(I)I"⟩
abbrev c_F_effective : ByteArray := prog_1_method_19_code
abbrev y_F_effective : MethodName := ⟨R_F, "effective", "(I)I"⟩
abbrev c_F_events : ByteArray := prog_1_method_20_code
abbrev y_F_events : MethodName := ⟨R_F, "events", "()I"⟩
abbrev c_F_event : ByteArray := prog_1_method_21_code
abbrev y_F_event : MethodName := ⟨R_F, "event", "(I)I"⟩
abbrev c_F_when : ByteArray := prog_1_method_22_code
abbrev y_F_when : MethodName := ⟨R_F, "when", "(I)I"⟩
abbrev c_F_isWithin : ByteArray := prog_1_method_23_code
abbrev y_F_isWithin : MethodName := ⟨R_F, "isWithin", "(III)Z"⟩
abbrev c_F_isRelay : ByteArray := prog_1_method_24_code
abbrev y_F_isRelay : MethodName := ⟨R_F, "isRelay", "(I)Z"⟩
abbrev c_F_isPlaceFor : ByteArray := prog_1_method_25_code
abbrev y_F_isPlaceFor : MethodName := ⟨R_F, "isPlaceFor", "(I)Z"⟩
abbrev c_F_tick : ByteArray := prog_1_method_26_code
abbrev y_F_tick : MethodName := ⟨R_F, "tick", "()V"⟩
abbrev c_F_moveBreaker : ByteArray := prog_1_method_27_code
abbrev y_F_moveBreaker : MethodName := ⟨R_F, "moveBreaker", "(I)V"⟩
abbrev c_F_measureAll : ByteArray := prog_1_method_28_code
abbrev y_F_measureAll : MethodName := ⟨R_F, "measureAll", "()V"⟩
abbrev c_F_findFlows : ByteArray := prog_1_method_29_code
abbrev y_F_findFlows : MethodName := ⟨R_F, "findFlows", "()V"⟩
abbrev c_F_tripIfDue : ByteArray := prog_1_method_30_code
abbrev y_F_tripIfDue : MethodName := ⟨R_F, "tripIfDue", "(I)V"⟩
abbrev c_F_failIfDue : ByteArray := prog_1_method_31_code
abbrev y_F_failIfDue : MethodName := ⟨R_F, "failIfDue", "(I)V"⟩
abbrev c_F_isBlocked : ByteArray := prog_1_method_32_code
abbrev y_F_isBlocked : MethodName := ⟨R_F, "isBlocked", "(I)Z"⟩
abbrev c_O_init : ByteArray := prog_8_method_1_code
abbrev y_O_init : MethodName := ⟨R_O, "<init>", "()V"⟩
abbrev c_O_none : ByteArray := prog_8_method_2_code
abbrev y_O_none : MethodName := ⟨R_O, "none", "(I)Z"⟩
abbrev c_O_relay : ByteArray := prog_8_method_3_code
abbrev y_O_relay : MethodName := ⟨R_O, "relay", "(I)I"⟩
abbrev c_O_settings : ByteArray := prog_8_method_4_code
abbrev y_O_settings : MethodName := ⟨R_O, "settings", "(IIII)Z"⟩
abbrev c_O_options : ByteArray := prog_8_method_5_code
abbrev y_O_options : MethodName := ⟨R_O, "options", "(IZII)Z"⟩
abbrev c_O_load : ByteArray := prog_8_method_6_code
abbrev y_O_load : MethodName := ⟨R_O, "load", "(II)Z"⟩
abbrev c_O_fault : ByteArray := prog_8_method_7_code
abbrev y_O_fault : MethodName := ⟨R_O, "fault", "(II)Z"⟩
abbrev c_O_jam : ByteArray := prog_8_method_8_code
abbrev y_O_jam : MethodName := ⟨R_O, "jam", "(IZ)Z"⟩
abbrev c_O_line : ByteArray := prog_8_method_9_code
abbrev y_O_line : MethodName := ⟨R_O, "line", "(II)Z"⟩
abbrev c_O_operate : ByteArray := prog_8_method_10_code
abbrev y_O_operate : MethodName := ⟨R_O, "operate", "(IZ)Z"⟩
abbrev c_O_flow : ByteArray := prog_8_method_11_code
abbrev y_O_flow : MethodName := ⟨R_O, "flow", "(I)I"⟩
abbrev c_O_root : ByteArray := prog_8_method_12_code
abbrev y_O_root : MethodName := ⟨R_O, "root", "(I)I"⟩
abbrev c_O_note : ByteArray := prog_8_method_13_code
abbrev y_O_note : MethodName := ⟨R_O, "note", "(II)V"⟩
abbrev c_O_send : ByteArray := prog_8_method_14_code
abbrev y_O_send : MethodName := ⟨R_O, "send", "(I)V"⟩
abbrev c_O_receive : ByteArray := prog_8_method_15_code
abbrev y_O_receive : MethodName := ⟨R_O, "receive", "(I)V"⟩
abbrev c_O_blocked : ByteArray := prog_8_method_16_code
abbrev y_O_blocked : MethodName := ⟨R_O, "blocked", "(I)Z"⟩
abbrev c_O_breaker : ByteArray := prog_8_method_17_code
abbrev y_O_breaker : MethodName := ⟨R_O, "breaker", "(I)V"⟩
abbrev c_O_measure : ByteArray := prog_8_method_18_code
abbrev y_O_measure : MethodName := ⟨R_O, "measure", "(I)V"⟩
abbrev c_O_trip : ByteArray := prog_8_method_19_code
abbrev y_O_trip : MethodName := ⟨R_O, "trip", "(I)V"⟩
abbrev c_O_give : ByteArray := prog_8_method_20_code
abbrev y_O_give : MethodName := ⟨R_O, "give", "(II)V"⟩
abbrev c_O_fail : ByteArray := prog_8_method_21_code
abbrev y_O_fail : MethodName := ⟨R_O, "fail", "(I)V"⟩
abbrev c_O_tick : ByteArray := prog_8_method_22_code
abbrev y_O_tick : MethodName := ⟨R_O, "tick", "()V"⟩
abbrev c_O_run : ByteArray := prog_8_method_23_code
abbrev y_O_run : MethodName := ⟨R_O, "run", "(I)I"⟩
abbrev c_O_crash : ByteArray := prog_8_method_24_code
abbrev y_O_crash : MethodName := ⟨R_O, "crash", "()I"⟩
abbrev c_O_time : ByteArray := prog_8_method_25_code
abbrev y_O_time : MethodName := ⟨R_O, "time", "()I"⟩
abbrev c_O_current : ByteArray := prog_8_method_26_code
abbrev y_O_current : MethodName := ⟨R_O, "current", "(I)I"⟩
abbrev c_O_state : ByteArray := prog_8_method_27_code
abbrev y_O_state : MethodName := ⟨R_O, "state", "(I)I"⟩
abbrev c_O_sum : ByteArray := prog_8_method_28_code
abbrev y_O_sum : MethodName := ⟨R_O, "sum", "(I)J"⟩
abbrev c_O_used : ByteArray := prog_8_method_29_code
abbrev y_O_used : MethodName := ⟨R_O, "used", "(I)I"⟩
abbrev c_O_changes : ByteArray := prog_8_method_30_code
abbrev y_O_changes : MethodName := ⟨R_O, "changes", "(I)I"⟩
abbrev c_O_known : ByteArray := prog_8_method_31_code
abbrev y_O_known : MethodName := ⟨R_O, "known", "(I)I"⟩
abbrev c_O_effective : ByteArray := prog_8_method_32_code
abbrev y_O_effective : MethodName := ⟨R_O, "effective", "(I)I"⟩
abbrev c_O_events : ByteArray := prog_8_method_33_code
abbrev y_O_events : MethodName := ⟨R_O, "events", "()I"⟩
abbrev c_O_event : ByteArray := prog_8_method_34_code
abbrev y_O_event : MethodName := ⟨R_O, "event", "(I)I"⟩
abbrev c_O_when : ByteArray := prog_8_method_35_code
abbrev y_O_when : MethodName := ⟨R_O, "when", "(I)I"⟩
abbrev c_B_init : ByteArray := prog_2_method_1_code
abbrev y_B_init : MethodName := ⟨R_B, "<init>", "()V"⟩
abbrev c_B_takesOrder : ByteArray := prog_2_method_2_code
abbrev y_B_takesOrder : MethodName := ⟨R_B, "takesOrder", "()Z"⟩
abbrev c_B_giveOrder : ByteArray := prog_2_method_3_code
abbrev y_B_giveOrder : MethodName := ⟨R_B, "giveOrder", "(IZ)V"⟩
abbrev c_B_isOverdue : ByteArray := prog_2_method_4_code
abbrev y_B_isOverdue : MethodName := ⟨R_B, "isOverdue", "(II)Z"⟩
abbrev c_B_mustOpen : ByteArray := prog_2_method_5_code
abbrev y_B_mustOpen : MethodName := ⟨R_B, "mustOpen", "(I)Z"⟩
abbrev c_B_open : ByteArray := prog_2_method_6_code
abbrev y_B_open : MethodName := ⟨R_B, "open", "()V"⟩
abbrev c_B_awaitClosing : ByteArray := prog_2_method_7_code
abbrev y_B_awaitClosing : MethodName := ⟨R_B, "awaitClosing", "(I)V"⟩
abbrev c_B_mustClose : ByteArray := prog_2_method_8_code
abbrev y_B_mustClose : MethodName := ⟨R_B, "mustClose", "(I)Z"⟩
abbrev c_B_closeAgain : ByteArray := prog_2_method_9_code
abbrev y_B_closeAgain : MethodName := ⟨R_B, "closeAgain", "(I)V"⟩
abbrev c_B_mustReclaim : ByteArray := prog_2_method_10_code
abbrev y_B_mustReclaim : MethodName := ⟨R_B, "mustReclaim", "(I)Z"⟩
abbrev c_B_forget : ByteArray := prog_2_method_11_code
abbrev y_B_forget : MethodName := ⟨R_B, "forget", "()V"⟩
abbrev c_B_bits : ByteArray := prog_2_method_12_code
abbrev y_B_bits : MethodName := ⟨R_B, "bits", "()I"⟩
abbrev c_B_pauseAfter : ByteArray := prog_2_method_13_code
abbrev y_B_pauseAfter : MethodName := ⟨R_B, "pauseAfter", "(I)I"⟩
abbrev c_J_init : ByteArray := prog_3_method_1_code
abbrev y_J_init : MethodName := ⟨R_J, "<init>", "()V"⟩
abbrev c_J_add : ByteArray := prog_3_method_2_code
abbrev y_J_add : MethodName := ⟨R_J, "add", "(III)V"⟩
abbrev c_J_has : ByteArray := prog_3_method_3_code
abbrev y_J_has : MethodName := ⟨R_J, "has", "(I)Z"⟩
abbrev c_J_store : ByteArray := prog_3_method_4_code
abbrev y_J_store : MethodName := ⟨R_J, "store", "()V"⟩
abbrev c_J_dropUnstored : ByteArray := prog_3_method_5_code
abbrev y_J_dropUnstored : MethodName := ⟨R_J, "dropUnstored", "()I"⟩
abbrev c_M_init : ByteArray := prog_4_method_1_code
abbrev y_M_init : MethodName := ⟨R_M, "<init>", "()V"⟩
abbrev c_M_set : ByteArray := prog_4_method_2_code
abbrev y_M_set : MethodName := ⟨R_M, "set", "(III)V"⟩
abbrev c_M_measure : ByteArray := prog_4_method_3_code
abbrev y_M_measure : MethodName := ⟨R_M, "measure", "(I)V"⟩
abbrev c_M_isOverLimit : ByteArray := prog_4_method_4_code
abbrev y_M_isOverLimit : MethodName := ⟨R_M, "isOverLimit", "()Z"⟩
abbrev c_M_forget : ByteArray := prog_4_method_5_code
abbrev y_M_forget : MethodName := ⟨R_M, "forget", "()V"⟩
abbrev c_M_growth : ByteArray := prog_4_method_6_code
abbrev y_M_growth : MethodName := ⟨R_M, "growth", "()J"⟩
abbrev c_M_limit : ByteArray := prog_4_method_7_code
abbrev y_M_limit : MethodName := ⟨R_M, "limit", "()J"⟩
abbrev c_M_rootOfMeanSquare : ByteArray := prog_4_method_8_code
abbrev y_M_rootOfMeanSquare : MethodName := ⟨R_M, "rootOfMeanSquare", "()I"⟩
abbrev c_R_init : ByteArray := prog_5_method_1_code
abbrev y_R_init : MethodName := ⟨R_R, "<init>", "(I)V"⟩
abbrev c_W_init : ByteArray := prog_6_method_1_code
abbrev y_W_init : MethodName := ⟨R_W, "<init>", "(Z)V"⟩
abbrev c_W_deliver : ByteArray := prog_6_method_2_code
abbrev y_W_deliver : MethodName := ⟨R_W, "deliver", "(I)V"⟩
abbrev c_W_report : ByteArray := prog_6_method_3_code
abbrev y_W_report : MethodName := ⟨R_W, "report", "(IZZ)V"⟩
abbrev c_W_holdsBack : ByteArray := prog_6_method_4_code
abbrev y_W_holdsBack : MethodName := ⟨R_W, "holdsBack", "(I)Z"⟩
abbrev c_W_forget : ByteArray := prog_6_method_5_code
abbrev y_W_forget : MethodName := ⟨R_W, "forget", "()V"⟩
abbrev c_W_send : ByteArray := prog_6_method_6_code
abbrev y_W_send : MethodName := ⟨R_W, "send", "(II)V"⟩
abbrev c_W_learn : ByteArray := prog_6_method_7_code
abbrev y_W_learn : MethodName := ⟨R_W, "learn", "(II)V"⟩
abbrev c_W_placeOf : ByteArray := prog_6_method_8_code
abbrev y_W_placeOf : MethodName := ⟨R_W, "placeOf", "(I)I"⟩
abbrev c_L_law : ByteArray := code
abbrev y_L_law : MethodName := ⟨R_L, "law", "([I)Z"⟩
abbrev c_A_fill : ByteArray := prog_10_method_103_code
abbrev y_A_fill : MethodName := ⟨R_A, "fill", "([II)V"⟩
def fr_kd (k : Nat) : Nat ⊕ (FieldType × Nat) := match k with
  | 0 => .inl 0
  | 1 => .inr (.object R_R, 8)
  | 2 => .inr (.int, 8)
  | 3 => .inr (.boolean, 8)
  | 4 => .inl 1
  | 5 => .inr (.int, 200)
  | 6 => .inr (.int, 200)
  | 7 => .inl 2
  | 8 => .inl 3
  | 9 => .inr (.int, 4)
  | 10 => .inl 4
  | 11 => .inl 5
  | 12 => .inr (.int, 8)
  | 13 => .inr (.int, 8)
  | 20 => .inl 6
  | 42 => .inr (.int, 8)
  | 43 => .inr (.boolean, 8)
  | 44 => .inr (.boolean, 8)
  | 45 => .inr (.int, 8)
  | 46 => .inr (.int, 8)
  | 47 => .inr (.int, 8)
  | 48 => .inr (.int, 8)
  | 49 => .inr (.int, 8)
  | 50 => .inr (.boolean, 8)
  | 51 => .inr (.int, 8)
  | 52 => .inr (.int, 8)
  | 53 => .inr (.int, 8)
  | 54 => .inr (.int, 32)
  | 55 => .inr (.long, 8)
  | 56 => .inr (.boolean, 8)
  | 57 => .inr (.int, 8)
  | 58 => .inr (.int, 8)
  | 59 => .inr (.int, 8)
  | 60 => .inr (.int, 8)
  | 61 => .inr (.int, 8)
  | 62 => .inr (.boolean, 8)
  | 63 => .inr (.boolean, 8)
  | 64 => .inr (.int, 8)
  | 65 => .inr (.boolean, 8)
  | 66 => .inr (.int, 8)
  | 67 => .inr (.int, 8)
  | 68 => .inr (.int, 8)
  | 69 => .inr (.int, 128)
  | 70 => .inr (.int, 128)
  | 71 => .inr (.int, 8)
  | 72 => .inr (.int, 8)
  | 75 => .inr (.int, 200)
  | 76 => .inr (.int, 200)
  | _ => .inr (.int, 0)
def fr_s0 (j : Nat) : Nat := match j with
  | 0 => 2
  | 1 => 2
  | 2 => 2
  | 3 => 2
  | _ => 0
def fr_s4 (j : Nat) : Nat := match j with
  | 0 => 2
  | 1 => 2
  | _ => 0
def fr_s7 (j : Nat) : Nat := match j with
  | 1 => 2
  | 2 => 2
  | 3 => 2
  | _ => 0
def fr_s8 (j : Nat) : Nat := match j with
  | 0 => 2
  | 7 => 1
  | _ => 0
def fr_s10 (j : Nat) : Nat := match j with
  | _ => 0
def fr_s11 (j : Nat) : Nat := match j with
  | 1 => 2
  | 2 => 2
  | _ => 0
def fr_s20 (j : Nat) : Nat := match j with
  | 2 => 2
  | 3 => 2
  | 4 => 2
  | 5 => 2
  | 6 => 2
  | 7 => 2
  | 8 => 2
  | 9 => 2
  | 10 => 2
  | 11 => 2
  | 12 => 2
  | 13 => 2
  | 14 => 2
  | 15 => 2
  | 16 => 2
  | 17 => 2
  | 18 => 2
  | 19 => 2
  | 20 => 2
  | 21 => 2
  | 22 => 2
  | 23 => 2
  | 24 => 2
  | 25 => 2
  | 26 => 2
  | 27 => 2
  | 28 => 2
  | 29 => 2
  | 30 => 2
  | 31 => 2
  | 32 => 2
  | 35 => 2
  | 36 => 2
  | _ => 0
def fr_so (k j : Nat) : Nat := match k with
  | 0 => fr_s0 j
  | 1 => 2
  | 4 => fr_s4 j
  | 7 => fr_s7 j
  | 8 => fr_s8 j
  | 10 => fr_s10 j
  | 11 => fr_s11 j
  | 20 => fr_s20 j
  | 55 => 1
  | _ => 0
def fr_r0 (r j : Nat) : Option (Nat × Nat) := match j with
  | 0 => some (1, 0)
  | 1 => some (2, 0)
  | 2 => some (3, 0)
  | 3 => some (4, 0)
  | _ => none
def fr_r4 (r j : Nat) : Option (Nat × Nat) := match j with
  | 0 => some (5, 0)
  | 1 => some (6, 0)
  | _ => none
def fr_r7 (r j : Nat) : Option (Nat × Nat) := match j with
  | 1 => some (8, r)
  | 2 => some (10, r)
  | 3 => some (11, r)
  | _ => none
def fr_r8 (r j : Nat) : Option (Nat × Nat) := match j with
  | 0 => some (9, r)
  | _ => none
def fr_r11 (r j : Nat) : Option (Nat × Nat) := match j with
  | 1 => some (12, r)
  | 2 => some (13, r)
  | _ => none
def fr_r20 (r j : Nat) : Option (Nat × Nat) := match j with
  | 2 => some (42, 0)
  | 3 => some (43, 0)
  | 4 => some (44, 0)
  | 5 => some (45, 0)
  | 6 => some (46, 0)
  | 7 => some (47, 0)
  | 8 => some (48, 0)
  | 9 => some (49, 0)
  | 10 => some (50, 0)
  | 11 => some (51, 0)
  | 12 => some (52, 0)
  | 13 => some (53, 0)
  | 14 => some (54, 0)
  | 15 => some (55, 0)
  | 16 => some (56, 0)
  | 17 => some (57, 0)
  | 18 => some (58, 0)
  | 19 => some (59, 0)
  | 20 => some (60, 0)
  | 21 => some (61, 0)
  | 22 => some (62, 0)
  | 23 => some (63, 0)
  | 24 => some (64, 0)
  | 25 => some (65, 0)
  | 26 => some (66, 0)
  | 27 => some (67, 0)
  | 28 => some (68, 0)
  | 29 => some (69, 0)
  | 30 => some (70, 0)
  | 31 => some (71, 0)
  | 32 => some (72, 0)
  | 35 => some (75, 0)
  | 36 => some (76, 0)
  | _ => none
def fr_P0 (n : Nat) (k r j : Nat) : Option (Nat × Nat) := match k with
  | 0 => fr_r0 r j
  | 1 => if j < n then some (7, j) else none
  | 4 => fr_r4 r j
  | 7 => fr_r7 r j
  | 8 => fr_r8 r j
  | 11 => fr_r11 r j
  | 20 => fr_r20 r j
  | _ => none
def fr_rk (k : Nat) : Nat := match k with
  | 0 => 2
  | 1 => 2
  | 2 => 2
  | 3 => 2
  | 4 => 2
  | 5 => 2
  | 6 => 2
  | 7 => 1
  | 8 => 1
  | 9 => 1
  | 10 => 1
  | 11 => 1
  | 12 => 1
  | 13 => 1
  | 20 => 2
  | 42 => 2
  | 43 => 2
  | 44 => 2
  | 45 => 2
  | 46 => 2
  | 47 => 2
  | 48 => 2
  | 49 => 2
  | 50 => 2
  | 51 => 2
  | 52 => 2
  | 53 => 2
  | 54 => 2
  | 55 => 2
  | 56 => 2
  | 57 => 2
  | 58 => 2
  | 59 => 2
  | 60 => 2
  | 61 => 2
  | 62 => 2
  | 63 => 2
  | 64 => 2
  | 65 => 2
  | 66 => 2
  | 67 => 2
  | 68 => 2
  | 69 => 2
  | 70 => 2
  | 71 => 2
  | 72 => 2
  | 75 => 2
  | 76 => 2
  | _ => 0
def fr_lv (n k r : Nat) : Prop := (fr_rk k = 1 ∧ r < n) ∨ (fr_rk k = 2 ∧ r = 0)
def fr_of (k : Nat) : Nat := match k with
  | 0 => 0
  | 1 => 1
  | 2 => 2
  | 3 => 3
  | 4 => 4
  | 5 => 5
  | 6 => 6
  | 7 => 41
  | 8 => 42
  | 9 => 43
  | 10 => 44
  | 11 => 45
  | 12 => 46
  | 13 => 47
  | 20 => 7
  | 42 => 8
  | 43 => 9
  | 44 => 10
  | 45 => 11
  | 46 => 12
  | 47 => 13
  | 48 => 14
  | 49 => 15
  | 50 => 16
  | 51 => 17
  | 52 => 18
  | 53 => 19
  | 54 => 20
  | 55 => 21
  | 56 => 22
  | 57 => 23
  | 58 => 24
  | 59 => 25
  | 60 => 26
  | 61 => 27
  | 62 => 28
  | 63 => 29
  | 64 => 30
  | 65 => 31
  | 66 => 32
  | 67 => 33
  | 68 => 34
  | 69 => 35
  | 70 => 36
  | 71 => 37
  | 72 => 38
  | 75 => 39
  | 76 => 40
  | _ => 0
end
section
theorem d_F_init_0 : decode c_F_init 0 = .ok (.aload_n 0, 1) := by decide +kernel
theorem d_F_init_1 : decode c_F_init 1 = .ok (.invokespecial 1, 3) := by decide +kernel
theorem d_F_init_4 : decode c_F_init 4 = .ok (.aload_n 0, 1) := by decide +kernel
theorem d_F_init_5 : decode c_F_init 5 = .ok (.bipush 8, 2) := by decide +kernel
theorem d_F_init_7 : decode c_F_init 7 = .ok (.anewarray 9, 3) := by decide +kernel
theorem d_F_init_10 : decode c_F_init 10 = .ok (.putfield 11, 3) := by decide +kernel
theorem d_F_init_13 : decode c_F_init 13 = .ok (.aload_n 0, 1) := by decide +kernel
theorem d_F_init_14 : decode c_F_init 14 = .ok (.bipush 8, 2) := by decide +kernel
theorem d_F_init_16 : decode c_F_init 16 = .ok (.newarray .int, 2) := by decide +kernel
theorem d_F_init_18 : decode c_F_init 18 = .ok (.putfield 15, 3) := by decide +kernel
theorem d_F_init_21 : decode c_F_init 21 = .ok (.aload_n 0, 1) := by decide +kernel
theorem d_F_init_22 : decode c_F_init 22 = .ok (.bipush 8, 2) := by decide +kernel
theorem d_F_init_24 : decode c_F_init 24 = .ok (.newarray .boolean, 2) := by decide +kernel
theorem d_F_init_26 : decode c_F_init 26 = .ok (.putfield 19, 3) := by decide +kernel
theorem d_F_init_29 : decode c_F_init 29 = .ok (.aload_n 0, 1) := by decide +kernel
theorem d_F_init_30 : decode c_F_init 30 = .ok (.new 23, 3) := by decide +kernel
theorem d_F_init_33 : decode c_F_init 33 = .ok (.dup, 1) := by decide +kernel
theorem d_F_init_34 : decode c_F_init 34 = .ok (.invokespecial 25, 3) := by decide +kernel
theorem d_F_init_37 : decode c_F_init 37 = .ok (.putfield 26, 3) := by decide +kernel
theorem d_F_init_40 : decode c_F_init 40 = .ok (.return_, 1) := by decide +kernel
theorem d_F_relay_0 : decode c_F_relay 0 = .ok (.aload_n 0, 1) := by decide +kernel
theorem d_F_relay_1 : decode c_F_relay 1 = .ok (.getfield 30, 3) := by decide +kernel
theorem d_F_relay_4 : decode c_F_relay 4 = .ok (.bipush 8, 2) := by decide +kernel
theorem d_F_relay_6 : decode c_F_relay 6 = .ok (.if_icmp .ge 18, 3) := by decide +kernel
theorem d_F_relay_9 : decode c_F_relay 9 = .ok (.aload_n 0, 1) := by decide +kernel
theorem d_F_relay_10 : decode c_F_relay 10 = .ok (.getfield 34, 3) := by decide +kernel
theorem d_F_relay_13 : decode c_F_relay 13 = .ok (.ifCond .ne 11, 3) := by decide +kernel
theorem d_F_relay_16 : decode c_F_relay 16 = .ok (.aload_n 0, 1) := by decide +kernel
theorem d_F_relay_17 : decode c_F_relay 17 = .ok (.iload_n 1, 1) := by decide +kernel
theorem d_F_relay_18 : decode c_F_relay 18 = .ok (.invokevirtual 37, 3) := by decide +kernel
theorem d_F_relay_21 : decode c_F_relay 21 = .ok (.ifCond .ne 5, 3) := by decide +kernel
theorem d_F_relay_24 : decode c_F_relay 24 = .ok (.iconst (-1), 1) := by decide +kernel
theorem d_F_relay_25 : decode c_F_relay 25 = .ok (.ireturn, 1) := by decide +kernel
theorem d_F_relay_26 : decode c_F_relay 26 = .ok (.aload_n 0, 1) := by decide +kernel
theorem d_F_relay_27 : decode c_F_relay 27 = .ok (.getfield 11, 3) := by decide +kernel
theorem d_F_relay_30 : decode c_F_relay 30 = .ok (.aload_n 0, 1) := by decide +kernel
theorem d_F_relay_31 : decode c_F_relay 31 = .ok (.getfield 30, 3) := by decide +kernel
theorem d_F_relay_34 : decode c_F_relay 34 = .ok (.new 9, 3) := by decide +kernel
theorem d_F_relay_37 : decode c_F_relay 37 = .ok (.dup, 1) := by decide +kernel
theorem d_F_relay_38 : decode c_F_relay 38 = .ok (.iload_n 1, 1) := by decide +kernel
theorem d_F_relay_39 : decode c_F_relay 39 = .ok (.invokespecial 41, 3) := by decide +kernel
theorem d_F_relay_42 : decode c_F_relay 42 = .ok (.aastore, 1) := by decide +kernel
theorem d_F_relay_43 : decode c_F_relay 43 = .ok (.aload_n 0, 1) := by decide +kernel
theorem d_F_relay_44 : decode c_F_relay 44 = .ok (.dup, 1) := by decide +kernel
theorem d_F_relay_45 : decode c_F_relay 45 = .ok (.getfield 30, 3) := by decide +kernel
theorem d_F_relay_48 : decode c_F_relay 48 = .ok (.iconst 1, 1) := by decide +kernel
theorem d_F_relay_49 : decode c_F_relay 49 = .ok (.iadd, 1) := by decide +kernel
theorem d_F_relay_50 : decode c_F_relay 50 = .ok (.putfield 30, 3) := by decide +kernel
theorem d_F_relay_53 : decode c_F_relay 53 = .ok (.aload_n 0, 1) := by decide +kernel
theorem d_F_relay_54 : decode c_F_relay 54 = .ok (.getfield 30, 3) := by decide +kernel
theorem d_F_relay_57 : decode c_F_relay 57 = .ok (.iconst 1, 1) := by decide +kernel
theorem d_F_relay_58 : decode c_F_relay 58 = .ok (.isub, 1) := by decide +kernel
theorem d_F_relay_59 : decode c_F_relay 59 = .ok (.ireturn, 1) := by decide +kernel
theorem d_F_settings_0 : decode c_F_settings 0 = .ok (.aload_n 0, 1) := by decide +kernel
theorem d_F_settings_1 : decode c_F_settings 1 = .ok (.iload_n 1, 1) := by decide +kernel
theorem d_F_settings_2 : decode c_F_settings 2 = .ok (.invokevirtual 44, 3) := by decide +kernel
theorem d_F_settings_5 : decode c_F_settings 5 = .ok (.ifCond .eq 35, 3) := by decide +kernel
theorem d_F_settings_8 : decode c_F_settings 8 = .ok (.iload_n 2, 1) := by decide +kernel
theorem d_F_settings_9 : decode c_F_settings 9 = .ok (.iconst 0, 1) := by decide +kernel
theorem d_F_settings_10 : decode c_F_settings 10 = .ok (.iconst 2, 1) := by decide +kernel
theorem d_F_settings_11 : decode c_F_settings 11 = .ok (.invokestatic 47, 3) := by decide +kernel
theorem d_F_settings_14 : decode c_F_settings 14 = .ok (.ifCond .eq 26, 3) := by decide +kernel
theorem d_F_settings_17 : decode c_F_settings 17 = .ok (.iload_n 3, 1) := by decide +kernel
theorem d_F_settings_18 : decode c_F_settings 18 = .ok (.iconst 1, 1) := by decide +kernel
theorem d_F_settings_19 : decode c_F_settings 19 = .ok (.sipush 5000, 3) := by decide +kernel
theorem d_F_settings_22 : decode c_F_settings 22 = .ok (.invokestatic 47, 3) := by decide +kernel
theorem d_F_settings_25 : decode c_F_settings 25 = .ok (.ifCond .eq 15, 3) := by decide +kernel
theorem d_F_settings_28 : decode c_F_settings 28 = .ok (.iload 4, 2) := by decide +kernel
theorem d_F_settings_30 : decode c_F_settings 30 = .ok (.iconst 1, 1) := by decide +kernel
theorem d_F_settings_31 : decode c_F_settings 31 = .ok (.sipush 1000, 3) := by decide +kernel
theorem d_F_settings_34 : decode c_F_settings 34 = .ok (.invokestatic 47, 3) := by decide +kernel
theorem d_F_settings_37 : decode c_F_settings 37 = .ok (.ifCond .ne 5, 3) := by decide +kernel
theorem d_F_settings_40 : decode c_F_settings 40 = .ok (.iconst 0, 1) := by decide +kernel
theorem d_F_settings_41 : decode c_F_settings 41 = .ok (.ireturn, 1) := by decide +kernel
theorem d_F_settings_42 : decode c_F_settings 42 = .ok (.aload_n 0, 1) := by decide +kernel
theorem d_F_settings_43 : decode c_F_settings 43 = .ok (.getfield 11, 3) := by decide +kernel
theorem d_F_settings_46 : decode c_F_settings 46 = .ok (.iload_n 1, 1) := by decide +kernel
theorem d_F_settings_47 : decode c_F_settings 47 = .ok (.aaload, 1) := by decide +kernel
theorem d_F_settings_48 : decode c_F_settings 48 = .ok (.getfield 51, 3) := by decide +kernel
theorem d_F_settings_51 : decode c_F_settings 51 = .ok (.iload_n 2, 1) := by decide +kernel
theorem d_F_settings_52 : decode c_F_settings 52 = .ok (.iload_n 3, 1) := by decide +kernel
theorem d_F_settings_53 : decode c_F_settings 53 = .ok (.iload 4, 2) := by decide +kernel
theorem d_F_settings_55 : decode c_F_settings 55 = .ok (.invokevirtual 55, 3) := by decide +kernel
theorem d_F_settings_58 : decode c_F_settings 58 = .ok (.iconst 1, 1) := by decide +kernel
theorem d_F_settings_59 : decode c_F_settings 59 = .ok (.ireturn, 1) := by decide +kernel
theorem d_F_options_0 : decode c_F_options 0 = .ok (.aload_n 0, 1) := by decide +kernel
theorem d_F_options_1 : decode c_F_options 1 = .ok (.iload_n 1, 1) := by decide +kernel
theorem d_F_options_2 : decode c_F_options 2 = .ok (.invokevirtual 44, 3) := by decide +kernel
theorem d_F_options_5 : decode c_F_options 5 = .ok (.ifCond .eq 23, 3) := by decide +kernel
theorem d_F_options_8 : decode c_F_options 8 = .ok (.iload_n 3, 1) := by decide +kernel
theorem d_F_options_9 : decode c_F_options 9 = .ok (.iconst 0, 1) := by decide +kernel
theorem d_F_options_10 : decode c_F_options 10 = .ok (.iconst 3, 1) := by decide +kernel
theorem d_F_options_11 : decode c_F_options 11 = .ok (.invokestatic 47, 3) := by decide +kernel
theorem d_F_options_14 : decode c_F_options 14 = .ok (.ifCond .eq 14, 3) := by decide +kernel
theorem d_F_options_17 : decode c_F_options 17 = .ok (.iload 4, 2) := by decide +kernel
theorem d_F_options_19 : decode c_F_options 19 = .ok (.iconst 1, 1) := by decide +kernel
theorem d_F_options_20 : decode c_F_options 20 = .ok (.bipush 50, 2) := by decide +kernel
theorem d_F_options_22 : decode c_F_options 22 = .ok (.invokestatic 47, 3) := by decide +kernel
theorem d_F_options_25 : decode c_F_options 25 = .ok (.ifCond .ne 5, 3) := by decide +kernel
theorem d_F_options_28 : decode c_F_options 28 = .ok (.iconst 0, 1) := by decide +kernel
theorem d_F_options_29 : decode c_F_options 29 = .ok (.ireturn, 1) := by decide +kernel
theorem d_F_options_30 : decode c_F_options 30 = .ok (.aload_n 0, 1) := by decide +kernel
theorem d_F_options_31 : decode c_F_options 31 = .ok (.getfield 11, 3) := by decide +kernel
theorem d_F_options_34 : decode c_F_options 34 = .ok (.iload_n 1, 1) := by decide +kernel
theorem d_F_options_35 : decode c_F_options 35 = .ok (.aaload, 1) := by decide +kernel
theorem d_F_options_36 : decode c_F_options 36 = .ok (.astore 5, 2) := by decide +kernel
theorem d_F_options_38 : decode c_F_options 38 = .ok (.aload 5, 2) := by decide +kernel
theorem d_F_options_40 : decode c_F_options 40 = .ok (.iload_n 2, 1) := by decide +kernel
theorem d_F_options_41 : decode c_F_options 41 = .ok (.putfield 61, 3) := by decide +kernel
theorem d_F_options_44 : decode c_F_options 44 = .ok (.aload 5, 2) := by decide +kernel
theorem d_F_options_46 : decode c_F_options 46 = .ok (.iload_n 3, 1) := by decide +kernel
theorem d_F_options_47 : decode c_F_options 47 = .ok (.putfield 65, 3) := by decide +kernel
theorem d_F_options_50 : decode c_F_options 50 = .ok (.aload 5, 2) := by decide +kernel
theorem d_F_options_52 : decode c_F_options 52 = .ok (.iload 4, 2) := by decide +kernel
theorem d_F_options_54 : decode c_F_options 54 = .ok (.putfield 68, 3) := by decide +kernel
theorem d_F_options_57 : decode c_F_options 57 = .ok (.iconst 1, 1) := by decide +kernel
theorem d_F_options_58 : decode c_F_options 58 = .ok (.ireturn, 1) := by decide +kernel
theorem d_F_load_0 : decode c_F_load 0 = .ok (.aload_n 0, 1) := by decide +kernel
theorem d_F_load_1 : decode c_F_load 1 = .ok (.iload_n 1, 1) := by decide +kernel
theorem d_F_load_2 : decode c_F_load 2 = .ok (.invokevirtual 44, 3) := by decide +kernel
theorem d_F_load_5 : decode c_F_load 5 = .ok (.ifCond .eq 14, 3) := by decide +kernel
theorem d_F_load_8 : decode c_F_load 8 = .ok (.iload_n 2, 1) := by decide +kernel
theorem d_F_load_9 : decode c_F_load 9 = .ok (.iconst 0, 1) := by decide +kernel
theorem d_F_load_10 : decode c_F_load 10 = .ok (.sipush 2000, 3) := by decide +kernel
theorem d_F_load_13 : decode c_F_load 13 = .ok (.invokestatic 47, 3) := by decide +kernel
theorem d_F_load_16 : decode c_F_load 16 = .ok (.ifCond .ne 5, 3) := by decide +kernel
theorem d_F_load_19 : decode c_F_load 19 = .ok (.iconst 0, 1) := by decide +kernel
theorem d_F_load_20 : decode c_F_load 20 = .ok (.ireturn, 1) := by decide +kernel
theorem d_F_load_21 : decode c_F_load 21 = .ok (.aload_n 0, 1) := by decide +kernel
theorem d_F_load_22 : decode c_F_load 22 = .ok (.getfield 11, 3) := by decide +kernel
theorem d_F_load_25 : decode c_F_load 25 = .ok (.iload_n 1, 1) := by decide +kernel
theorem d_F_load_26 : decode c_F_load 26 = .ok (.aaload, 1) := by decide +kernel
theorem d_F_load_27 : decode c_F_load 27 = .ok (.iload_n 2, 1) := by decide +kernel
theorem d_F_load_28 : decode c_F_load 28 = .ok (.putfield 71, 3) := by decide +kernel
theorem d_F_load_31 : decode c_F_load 31 = .ok (.iconst 1, 1) := by decide +kernel
theorem d_F_load_32 : decode c_F_load 32 = .ok (.ireturn, 1) := by decide +kernel
theorem d_F_fault_0 : decode c_F_fault 0 = .ok (.aload_n 0, 1) := by decide +kernel
theorem d_F_fault_1 : decode c_F_fault 1 = .ok (.iload_n 1, 1) := by decide +kernel
theorem d_F_fault_2 : decode c_F_fault 2 = .ok (.invokevirtual 44, 3) := by decide +kernel
theorem d_F_fault_5 : decode c_F_fault 5 = .ok (.ifCond .eq 14, 3) := by decide +kernel
theorem d_F_fault_8 : decode c_F_fault 8 = .ok (.iload_n 2, 1) := by decide +kernel
theorem d_F_fault_9 : decode c_F_fault 9 = .ok (.iconst 0, 1) := by decide +kernel
theorem d_F_fault_10 : decode c_F_fault 10 = .ok (.sipush 20000, 3) := by decide +kernel
theorem d_F_fault_13 : decode c_F_fault 13 = .ok (.invokestatic 47, 3) := by decide +kernel
theorem d_F_fault_16 : decode c_F_fault 16 = .ok (.ifCond .ne 5, 3) := by decide +kernel
theorem d_F_fault_19 : decode c_F_fault 19 = .ok (.iconst 0, 1) := by decide +kernel
theorem d_F_fault_20 : decode c_F_fault 20 = .ok (.ireturn, 1) := by decide +kernel
theorem d_F_fault_21 : decode c_F_fault 21 = .ok (.aload_n 0, 1) := by decide +kernel
theorem d_F_fault_22 : decode c_F_fault 22 = .ok (.getfield 11, 3) := by decide +kernel
theorem d_F_fault_25 : decode c_F_fault 25 = .ok (.iload_n 1, 1) := by decide +kernel
theorem d_F_fault_26 : decode c_F_fault 26 = .ok (.aaload, 1) := by decide +kernel
theorem d_F_fault_27 : decode c_F_fault 27 = .ok (.iload_n 2, 1) := by decide +kernel
theorem d_F_fault_28 : decode c_F_fault 28 = .ok (.putfield 74, 3) := by decide +kernel
theorem d_F_fault_31 : decode c_F_fault 31 = .ok (.iconst 1, 1) := by decide +kernel
theorem d_F_fault_32 : decode c_F_fault 32 = .ok (.ireturn, 1) := by decide +kernel
theorem d_F_jam_0 : decode c_F_jam 0 = .ok (.aload_n 0, 1) := by decide +kernel
theorem d_F_jam_1 : decode c_F_jam 1 = .ok (.iload_n 1, 1) := by decide +kernel
theorem d_F_jam_2 : decode c_F_jam 2 = .ok (.invokevirtual 44, 3) := by decide +kernel
theorem d_F_jam_5 : decode c_F_jam 5 = .ok (.ifCond .ne 5, 3) := by decide +kernel
theorem d_F_jam_8 : decode c_F_jam 8 = .ok (.iconst 0, 1) := by decide +kernel
theorem d_F_jam_9 : decode c_F_jam 9 = .ok (.ireturn, 1) := by decide +kernel
theorem d_F_jam_10 : decode c_F_jam 10 = .ok (.aload_n 0, 1) := by decide +kernel
theorem d_F_jam_11 : decode c_F_jam 11 = .ok (.getfield 11, 3) := by decide +kernel
theorem d_F_jam_14 : decode c_F_jam 14 = .ok (.iload_n 1, 1) := by decide +kernel
theorem d_F_jam_15 : decode c_F_jam 15 = .ok (.aaload, 1) := by decide +kernel
theorem d_F_jam_16 : decode c_F_jam 16 = .ok (.getfield 77, 3) := by decide +kernel
theorem d_F_jam_19 : decode c_F_jam 19 = .ok (.iload_n 2, 1) := by decide +kernel
theorem d_F_jam_20 : decode c_F_jam 20 = .ok (.putfield 81, 3) := by decide +kernel
theorem d_F_jam_23 : decode c_F_jam 23 = .ok (.iconst 1, 1) := by decide +kernel
theorem d_F_jam_24 : decode c_F_jam 24 = .ok (.ireturn, 1) := by decide +kernel
theorem d_F_line_0 : decode c_F_line 0 = .ok (.aload_n 0, 1) := by decide +kernel
theorem d_F_line_1 : decode c_F_line 1 = .ok (.iload_n 1, 1) := by decide +kernel
theorem d_F_line_2 : decode c_F_line 2 = .ok (.invokevirtual 44, 3) := by decide +kernel
theorem d_F_line_5 : decode c_F_line 5 = .ok (.ifCond .eq 13, 3) := by decide +kernel
theorem d_F_line_8 : decode c_F_line 8 = .ok (.iload_n 2, 1) := by decide +kernel
theorem d_F_line_9 : decode c_F_line 9 = .ok (.iconst 0, 1) := by decide +kernel
theorem d_F_line_10 : decode c_F_line 10 = .ok (.bipush 8, 2) := by decide +kernel
theorem d_F_line_12 : decode c_F_line 12 = .ok (.invokestatic 47, 3) := by decide +kernel
theorem d_F_line_15 : decode c_F_line 15 = .ok (.ifCond .ne 5, 3) := by decide +kernel
theorem d_F_line_18 : decode c_F_line 18 = .ok (.iconst 0, 1) := by decide +kernel
theorem d_F_line_19 : decode c_F_line 19 = .ok (.ireturn, 1) := by decide +kernel
theorem d_F_line_20 : decode c_F_line 20 = .ok (.aload_n 0, 1) := by decide +kernel
theorem d_F_line_21 : decode c_F_line 21 = .ok (.getfield 11, 3) := by decide +kernel
theorem d_F_line_24 : decode c_F_line 24 = .ok (.iload_n 1, 1) := by decide +kernel
theorem d_F_line_25 : decode c_F_line 25 = .ok (.aaload, 1) := by decide +kernel
theorem d_F_line_26 : decode c_F_line 26 = .ok (.getfield 86, 3) := by decide +kernel
theorem d_F_line_29 : decode c_F_line 29 = .ok (.iload_n 2, 1) := by decide +kernel
theorem d_F_line_30 : decode c_F_line 30 = .ok (.putfield 90, 3) := by decide +kernel
theorem d_F_line_33 : decode c_F_line 33 = .ok (.iconst 1, 1) := by decide +kernel
theorem d_F_line_34 : decode c_F_line 34 = .ok (.ireturn, 1) := by decide +kernel
theorem d_F_operate_0 : decode c_F_operate 0 = .ok (.aload_n 0, 1) := by decide +kernel
theorem d_F_operate_1 : decode c_F_operate 1 = .ok (.iload_n 1, 1) := by decide +kernel
theorem d_F_operate_2 : decode c_F_operate 2 = .ok (.invokevirtual 44, 3) := by decide +kernel
theorem d_F_operate_5 : decode c_F_operate 5 = .ok (.ifCond .ne 5, 3) := by decide +kernel
theorem d_F_operate_8 : decode c_F_operate 8 = .ok (.iconst 0, 1) := by decide +kernel
theorem d_F_operate_9 : decode c_F_operate 9 = .ok (.ireturn, 1) := by decide +kernel
theorem d_F_operate_10 : decode c_F_operate 10 = .ok (.aload_n 0, 1) := by decide +kernel
theorem d_F_operate_11 : decode c_F_operate 11 = .ok (.getfield 11, 3) := by decide +kernel
theorem d_F_operate_14 : decode c_F_operate 14 = .ok (.iload_n 1, 1) := by decide +kernel
theorem d_F_operate_15 : decode c_F_operate 15 = .ok (.aaload, 1) := by decide +kernel
theorem d_F_operate_16 : decode c_F_operate 16 = .ok (.getfield 77, 3) := by decide +kernel
theorem d_F_operate_19 : decode c_F_operate 19 = .ok (.iload_n 2, 1) := by decide +kernel
theorem d_F_operate_20 : decode c_F_operate 20 = .ok (.putfield 95, 3) := by decide +kernel
theorem d_F_operate_23 : decode c_F_operate 23 = .ok (.aload_n 0, 1) := by decide +kernel
theorem d_F_operate_24 : decode c_F_operate 24 = .ok (.getfield 11, 3) := by decide +kernel
theorem d_F_operate_27 : decode c_F_operate 27 = .ok (.iload_n 1, 1) := by decide +kernel
theorem d_F_operate_28 : decode c_F_operate 28 = .ok (.aaload, 1) := by decide +kernel
theorem d_F_operate_29 : decode c_F_operate 29 = .ok (.getfield 77, 3) := by decide +kernel
theorem d_F_operate_32 : decode c_F_operate 32 = .ok (.invokevirtual 98, 3) := by decide +kernel
theorem d_F_operate_35 : decode c_F_operate 35 = .ok (.iconst 1, 1) := by decide +kernel
theorem d_F_operate_36 : decode c_F_operate 36 = .ok (.ireturn, 1) := by decide +kernel
theorem d_F_run_0 : decode c_F_run 0 = .ok (.iload_n 1, 1) := by decide +kernel
theorem d_F_run_1 : decode c_F_run 1 = .ok (.iconst 1, 1) := by decide +kernel
theorem d_F_run_2 : decode c_F_run 2 = .ok (.bipush 20, 2) := by decide +kernel
theorem d_F_run_4 : decode c_F_run 4 = .ok (.invokestatic 47, 3) := by decide +kernel
theorem d_F_run_7 : decode c_F_run 7 = .ok (.ifCond .ne 5, 3) := by decide +kernel
theorem d_F_run_10 : decode c_F_run 10 = .ok (.iconst (-1), 1) := by decide +kernel
theorem d_F_run_11 : decode c_F_run 11 = .ok (.ireturn, 1) := by decide +kernel
theorem d_F_run_12 : decode c_F_run 12 = .ok (.iconst 0, 1) := by decide +kernel
theorem d_F_run_13 : decode c_F_run 13 = .ok (.istore_n 2, 1) := by decide +kernel
theorem d_F_run_14 : decode c_F_run 14 = .ok (.iload_n 2, 1) := by decide +kernel
theorem d_F_run_15 : decode c_F_run 15 = .ok (.iload_n 1, 1) := by decide +kernel
theorem d_F_run_16 : decode c_F_run 16 = .ok (.if_icmp .ge 13, 3) := by decide +kernel
theorem d_F_run_19 : decode c_F_run 19 = .ok (.aload_n 0, 1) := by decide +kernel
theorem d_F_run_20 : decode c_F_run 20 = .ok (.invokevirtual 101, 3) := by decide +kernel
theorem d_F_run_23 : decode c_F_run 23 = .ok (.iinc 2 1, 3) := by decide +kernel
theorem d_F_run_26 : decode c_F_run 26 = .ok (.goto (-12), 3) := by decide +kernel
theorem d_F_run_29 : decode c_F_run 29 = .ok (.aload_n 0, 1) := by decide +kernel
theorem d_F_run_30 : decode c_F_run 30 = .ok (.getfield 34, 3) := by decide +kernel
theorem d_F_run_33 : decode c_F_run 33 = .ok (.ireturn, 1) := by decide +kernel
theorem d_F_crash_0 : decode c_F_crash 0 = .ok (.iconst 0, 1) := by decide +kernel
theorem d_F_crash_1 : decode c_F_crash 1 = .ok (.istore_n 1, 1) := by decide +kernel
theorem d_F_crash_2 : decode c_F_crash 2 = .ok (.iload_n 1, 1) := by decide +kernel
theorem d_F_crash_3 : decode c_F_crash 3 = .ok (.aload_n 0, 1) := by decide +kernel
theorem d_F_crash_4 : decode c_F_crash 4 = .ok (.getfield 30, 3) := by decide +kernel
theorem d_F_crash_7 : decode c_F_crash 7 = .ok (.if_icmp .ge 45, 3) := by decide +kernel
theorem d_F_crash_10 : decode c_F_crash 10 = .ok (.aload_n 0, 1) := by decide +kernel
theorem d_F_crash_11 : decode c_F_crash 11 = .ok (.getfield 11, 3) := by decide +kernel
theorem d_F_crash_14 : decode c_F_crash 14 = .ok (.iload_n 1, 1) := by decide +kernel
theorem d_F_crash_15 : decode c_F_crash 15 = .ok (.aaload, 1) := by decide +kernel
theorem d_F_crash_16 : decode c_F_crash 16 = .ok (.getfield 51, 3) := by decide +kernel
theorem d_F_crash_19 : decode c_F_crash 19 = .ok (.invokevirtual 104, 3) := by decide +kernel
theorem d_F_crash_22 : decode c_F_crash 22 = .ok (.aload_n 0, 1) := by decide +kernel
theorem d_F_crash_23 : decode c_F_crash 23 = .ok (.getfield 11, 3) := by decide +kernel
theorem d_F_crash_26 : decode c_F_crash 26 = .ok (.iload_n 1, 1) := by decide +kernel
theorem d_F_crash_27 : decode c_F_crash 27 = .ok (.aaload, 1) := by decide +kernel
theorem d_F_crash_28 : decode c_F_crash 28 = .ok (.getfield 86, 3) := by decide +kernel
theorem d_F_crash_31 : decode c_F_crash 31 = .ok (.invokevirtual 105, 3) := by decide +kernel
theorem d_F_crash_34 : decode c_F_crash 34 = .ok (.aload_n 0, 1) := by decide +kernel
theorem d_F_crash_35 : decode c_F_crash 35 = .ok (.getfield 11, 3) := by decide +kernel
theorem d_F_crash_38 : decode c_F_crash 38 = .ok (.iload_n 1, 1) := by decide +kernel
theorem d_F_crash_39 : decode c_F_crash 39 = .ok (.aaload, 1) := by decide +kernel
theorem d_F_crash_40 : decode c_F_crash 40 = .ok (.getfield 77, 3) := by decide +kernel
theorem d_F_crash_43 : decode c_F_crash 43 = .ok (.invokevirtual 98, 3) := by decide +kernel
theorem d_F_crash_46 : decode c_F_crash 46 = .ok (.iinc 1 1, 3) := by decide +kernel
theorem d_F_crash_49 : decode c_F_crash 49 = .ok (.goto (-47), 3) := by decide +kernel
theorem d_F_crash_52 : decode c_F_crash 52 = .ok (.aload_n 0, 1) := by decide +kernel
theorem d_F_crash_53 : decode c_F_crash 53 = .ok (.getfield 26, 3) := by decide +kernel
theorem d_F_crash_56 : decode c_F_crash 56 = .ok (.invokevirtual 106, 3) := by decide +kernel
theorem d_F_crash_59 : decode c_F_crash 59 = .ok (.ireturn, 1) := by decide +kernel
theorem d_F_time_0 : decode c_F_time 0 = .ok (.aload_n 0, 1) := by decide +kernel
theorem d_F_time_1 : decode c_F_time 1 = .ok (.getfield 34, 3) := by decide +kernel
theorem d_F_time_4 : decode c_F_time 4 = .ok (.ireturn, 1) := by decide +kernel
theorem d_F_current_0 : decode c_F_current 0 = .ok (.aload_n 0, 1) := by decide +kernel
theorem d_F_current_1 : decode c_F_current 1 = .ok (.iload_n 1, 1) := by decide +kernel
theorem d_F_current_2 : decode c_F_current 2 = .ok (.invokevirtual 44, 3) := by decide +kernel
theorem d_F_current_5 : decode c_F_current 5 = .ok (.ifCond .ne 5, 3) := by decide +kernel
theorem d_F_current_8 : decode c_F_current 8 = .ok (.iconst (-1), 1) := by decide +kernel
theorem d_F_current_9 : decode c_F_current 9 = .ok (.ireturn, 1) := by decide +kernel
theorem d_F_current_10 : decode c_F_current 10 = .ok (.aload_n 0, 1) := by decide +kernel
theorem d_F_current_11 : decode c_F_current 11 = .ok (.invokevirtual 110, 3) := by decide +kernel
theorem d_F_current_14 : decode c_F_current 14 = .ok (.aload_n 0, 1) := by decide +kernel
theorem d_F_current_15 : decode c_F_current 15 = .ok (.getfield 15, 3) := by decide +kernel
theorem d_F_current_18 : decode c_F_current 18 = .ok (.iload_n 1, 1) := by decide +kernel
theorem d_F_current_19 : decode c_F_current 19 = .ok (.iaload, 1) := by decide +kernel
theorem d_F_current_20 : decode c_F_current 20 = .ok (.ireturn, 1) := by decide +kernel
theorem d_F_state_0 : decode c_F_state 0 = .ok (.aload_n 0, 1) := by decide +kernel
theorem d_F_state_1 : decode c_F_state 1 = .ok (.iload_n 1, 1) := by decide +kernel
theorem d_F_state_2 : decode c_F_state 2 = .ok (.invokevirtual 44, 3) := by decide +kernel
theorem d_F_state_5 : decode c_F_state 5 = .ok (.ifCond .ne 5, 3) := by decide +kernel
theorem d_F_state_8 : decode c_F_state 8 = .ok (.iconst (-1), 1) := by decide +kernel
theorem d_F_state_9 : decode c_F_state 9 = .ok (.ireturn, 1) := by decide +kernel
theorem d_F_state_10 : decode c_F_state 10 = .ok (.aload_n 0, 1) := by decide +kernel
theorem d_F_state_11 : decode c_F_state 11 = .ok (.getfield 11, 3) := by decide +kernel
theorem d_F_state_14 : decode c_F_state 14 = .ok (.iload_n 1, 1) := by decide +kernel
theorem d_F_state_15 : decode c_F_state 15 = .ok (.aaload, 1) := by decide +kernel
theorem d_F_state_16 : decode c_F_state 16 = .ok (.getfield 77, 3) := by decide +kernel
theorem d_F_state_19 : decode c_F_state 19 = .ok (.invokevirtual 113, 3) := by decide +kernel
theorem d_F_state_22 : decode c_F_state 22 = .ok (.istore_n 2, 1) := by decide +kernel
theorem d_F_state_23 : decode c_F_state 23 = .ok (.aload_n 0, 1) := by decide +kernel
theorem d_F_state_24 : decode c_F_state 24 = .ok (.getfield 11, 3) := by decide +kernel
theorem d_F_state_27 : decode c_F_state 27 = .ok (.iload_n 1, 1) := by decide +kernel
theorem d_F_state_28 : decode c_F_state 28 = .ok (.aaload, 1) := by decide +kernel
theorem d_F_state_29 : decode c_F_state 29 = .ok (.getfield 51, 3) := by decide +kernel
theorem d_F_state_32 : decode c_F_state 32 = .ok (.getfield 116, 3) := by decide +kernel
theorem d_F_state_35 : decode c_F_state 35 = .ok (.ifCond .eq 6, 3) := by decide +kernel
theorem d_F_state_38 : decode c_F_state 38 = .ok (.iinc 2 2, 3) := by decide +kernel
theorem d_F_state_41 : decode c_F_state 41 = .ok (.aload_n 0, 1) := by decide +kernel
theorem d_F_state_42 : decode c_F_state 42 = .ok (.iload_n 1, 1) := by decide +kernel
theorem d_F_state_43 : decode c_F_state 43 = .ok (.invokevirtual 119, 3) := by decide +kernel
theorem d_F_state_46 : decode c_F_state 46 = .ok (.ifCond .eq 6, 3) := by decide +kernel
theorem d_F_state_49 : decode c_F_state 49 = .ok (.iinc 2 64, 3) := by decide +kernel
theorem d_F_state_52 : decode c_F_state 52 = .ok (.iload_n 2, 1) := by decide +kernel
theorem d_F_state_53 : decode c_F_state 53 = .ok (.ireturn, 1) := by decide +kernel
theorem d_F_sum_0 : decode c_F_sum 0 = .ok (.aload_n 0, 1) := by decide +kernel
theorem d_F_sum_1 : decode c_F_sum 1 = .ok (.iload_n 1, 1) := by decide +kernel
theorem d_F_sum_2 : decode c_F_sum 2 = .ok (.invokevirtual 44, 3) := by decide +kernel
theorem d_F_sum_5 : decode c_F_sum 5 = .ok (.ifCond .eq 18, 3) := by decide +kernel
theorem d_F_sum_8 : decode c_F_sum 8 = .ok (.aload_n 0, 1) := by decide +kernel
theorem d_F_sum_9 : decode c_F_sum 9 = .ok (.getfield 11, 3) := by decide +kernel
theorem d_F_sum_12 : decode c_F_sum 12 = .ok (.iload_n 1, 1) := by decide +kernel
theorem d_F_sum_13 : decode c_F_sum 13 = .ok (.aaload, 1) := by decide +kernel
theorem d_F_sum_14 : decode c_F_sum 14 = .ok (.getfield 51, 3) := by decide +kernel
theorem d_F_sum_17 : decode c_F_sum 17 = .ok (.getfield 122, 3) := by decide +kernel
theorem d_F_sum_20 : decode c_F_sum 20 = .ok (.goto 6, 3) := by decide +kernel
theorem d_F_sum_23 : decode c_F_sum 23 = .ok (.ldc2_w 126, 3) := by decide +kernel
theorem d_F_sum_26 : decode c_F_sum 26 = .ok (.lreturn, 1) := by decide +kernel
theorem d_F_used_0 : decode c_F_used 0 = .ok (.aload_n 0, 1) := by decide +kernel
theorem d_F_used_1 : decode c_F_used 1 = .ok (.iload_n 1, 1) := by decide +kernel
theorem d_F_used_2 : decode c_F_used 2 = .ok (.invokevirtual 44, 3) := by decide +kernel
theorem d_F_used_5 : decode c_F_used 5 = .ok (.ifCond .eq 18, 3) := by decide +kernel
theorem d_F_used_8 : decode c_F_used 8 = .ok (.aload_n 0, 1) := by decide +kernel
theorem d_F_used_9 : decode c_F_used 9 = .ok (.getfield 11, 3) := by decide +kernel
theorem d_F_used_12 : decode c_F_used 12 = .ok (.iload_n 1, 1) := by decide +kernel
theorem d_F_used_13 : decode c_F_used 13 = .ok (.aaload, 1) := by decide +kernel
theorem d_F_used_14 : decode c_F_used 14 = .ok (.getfield 77, 3) := by decide +kernel
theorem d_F_used_17 : decode c_F_used 17 = .ok (.getfield 128, 3) := by decide +kernel
theorem d_F_used_20 : decode c_F_used 20 = .ok (.goto 4, 3) := by decide +kernel
theorem d_F_used_23 : decode c_F_used 23 = .ok (.iconst (-1), 1) := by decide +kernel
theorem d_F_used_24 : decode c_F_used 24 = .ok (.ireturn, 1) := by decide +kernel
theorem d_F_changes_0 : decode c_F_changes 0 = .ok (.aload_n 0, 1) := by decide +kernel
theorem d_F_changes_1 : decode c_F_changes 1 = .ok (.iload_n 1, 1) := by decide +kernel
theorem d_F_changes_2 : decode c_F_changes 2 = .ok (.invokevirtual 44, 3) := by decide +kernel
theorem d_F_changes_5 : decode c_F_changes 5 = .ok (.ifCond .eq 18, 3) := by decide +kernel
theorem d_F_changes_8 : decode c_F_changes 8 = .ok (.aload_n 0, 1) := by decide +kernel
theorem d_F_changes_9 : decode c_F_changes 9 = .ok (.getfield 11, 3) := by decide +kernel
theorem d_F_changes_12 : decode c_F_changes 12 = .ok (.iload_n 1, 1) := by decide +kernel
theorem d_F_changes_13 : decode c_F_changes 13 = .ok (.aaload, 1) := by decide +kernel
theorem d_F_changes_14 : decode c_F_changes 14 = .ok (.getfield 86, 3) := by decide +kernel
theorem d_F_changes_17 : decode c_F_changes 17 = .ok (.getfield 131, 3) := by decide +kernel
theorem d_F_changes_20 : decode c_F_changes 20 = .ok (.goto 4, 3) := by decide +kernel
theorem d_F_changes_23 : decode c_F_changes 23 = .ok (.iconst (-1), 1) := by decide +kernel
theorem d_F_changes_24 : decode c_F_changes 24 = .ok (.ireturn, 1) := by decide +kernel
theorem d_F_known_0 : decode c_F_known 0 = .ok (.aload_n 0, 1) := by decide +kernel
theorem d_F_known_1 : decode c_F_known 1 = .ok (.iload_n 1, 1) := by decide +kernel
theorem d_F_known_2 : decode c_F_known 2 = .ok (.invokevirtual 44, 3) := by decide +kernel
theorem d_F_known_5 : decode c_F_known 5 = .ok (.ifCond .eq 31, 3) := by decide +kernel
theorem d_F_known_8 : decode c_F_known 8 = .ok (.aload_n 0, 1) := by decide +kernel
theorem d_F_known_9 : decode c_F_known 9 = .ok (.getfield 11, 3) := by decide +kernel
theorem d_F_known_12 : decode c_F_known 12 = .ok (.iload_n 1, 1) := by decide +kernel
theorem d_F_known_13 : decode c_F_known 13 = .ok (.aaload, 1) := by decide +kernel
theorem d_F_known_14 : decode c_F_known 14 = .ok (.getfield 134, 3) := by decide +kernel
theorem d_F_known_17 : decode c_F_known 17 = .ok (.iconst (-1), 1) := by decide +kernel
theorem d_F_known_18 : decode c_F_known 18 = .ok (.if_icmp .eq 18, 3) := by decide +kernel
theorem d_F_known_21 : decode c_F_known 21 = .ok (.aload_n 0, 1) := by decide +kernel
theorem d_F_known_22 : decode c_F_known 22 = .ok (.getfield 11, 3) := by decide +kernel
theorem d_F_known_25 : decode c_F_known 25 = .ok (.iload_n 1, 1) := by decide +kernel
theorem d_F_known_26 : decode c_F_known 26 = .ok (.aaload, 1) := by decide +kernel
theorem d_F_known_27 : decode c_F_known 27 = .ok (.getfield 86, 3) := by decide +kernel
theorem d_F_known_30 : decode c_F_known 30 = .ok (.getfield 137, 3) := by decide +kernel
theorem d_F_known_33 : decode c_F_known 33 = .ok (.goto 4, 3) := by decide +kernel
theorem d_F_known_36 : decode c_F_known 36 = .ok (.iconst (-1), 1) := by decide +kernel
theorem d_F_known_37 : decode c_F_known 37 = .ok (.ireturn, 1) := by decide +kernel
theorem d_F_effective_0 : decode c_F_effective 0 = .ok (.aload_n 0, 1) := by decide +kernel
theorem d_F_effective_1 : decode c_F_effective 1 = .ok (.iload_n 1, 1) := by decide +kernel
theorem d_F_effective_2 : decode c_F_effective 2 = .ok (.invokevirtual 44, 3) := by decide +kernel
theorem d_F_effective_5 : decode c_F_effective 5 = .ok (.ifCond .eq 18, 3) := by decide +kernel
theorem d_F_effective_8 : decode c_F_effective 8 = .ok (.aload_n 0, 1) := by decide +kernel
theorem d_F_effective_9 : decode c_F_effective 9 = .ok (.getfield 11, 3) := by decide +kernel
theorem d_F_effective_12 : decode c_F_effective 12 = .ok (.iload_n 1, 1) := by decide +kernel
theorem d_F_effective_13 : decode c_F_effective 13 = .ok (.aaload, 1) := by decide +kernel
theorem d_F_effective_14 : decode c_F_effective 14 = .ok (.getfield 51, 3) := by decide +kernel
theorem d_F_effective_17 : decode c_F_effective 17 = .ok (.getfield 140, 3) := by decide +kernel
theorem d_F_effective_20 : decode c_F_effective 20 = .ok (.goto 4, 3) := by decide +kernel
theorem d_F_effective_23 : decode c_F_effective 23 = .ok (.iconst (-1), 1) := by decide +kernel
theorem d_F_effective_24 : decode c_F_effective 24 = .ok (.ireturn, 1) := by decide +kernel
theorem d_F_events_0 : decode c_F_events 0 = .ok (.aload_n 0, 1) := by decide +kernel
theorem d_F_events_1 : decode c_F_events 1 = .ok (.getfield 26, 3) := by decide +kernel
theorem d_F_events_4 : decode c_F_events 4 = .ok (.getfield 143, 3) := by decide +kernel
theorem d_F_events_7 : decode c_F_events 7 = .ok (.ireturn, 1) := by decide +kernel
theorem d_F_event_0 : decode c_F_event 0 = .ok (.aload_n 0, 1) := by decide +kernel
theorem d_F_event_1 : decode c_F_event 1 = .ok (.getfield 26, 3) := by decide +kernel
theorem d_F_event_4 : decode c_F_event 4 = .ok (.iload_n 1, 1) := by decide +kernel
theorem d_F_event_5 : decode c_F_event 5 = .ok (.invokevirtual 146, 3) := by decide +kernel
theorem d_F_event_8 : decode c_F_event 8 = .ok (.ifCond .eq 15, 3) := by decide +kernel
theorem d_F_event_11 : decode c_F_event 11 = .ok (.aload_n 0, 1) := by decide +kernel
theorem d_F_event_12 : decode c_F_event 12 = .ok (.getfield 26, 3) := by decide +kernel
theorem d_F_event_15 : decode c_F_event 15 = .ok (.getfield 149, 3) := by decide +kernel
theorem d_F_event_18 : decode c_F_event 18 = .ok (.iload_n 1, 1) := by decide +kernel
theorem d_F_event_19 : decode c_F_event 19 = .ok (.iaload, 1) := by decide +kernel
theorem d_F_event_20 : decode c_F_event 20 = .ok (.goto 4, 3) := by decide +kernel
theorem d_F_event_23 : decode c_F_event 23 = .ok (.iconst (-1), 1) := by decide +kernel
theorem d_F_event_24 : decode c_F_event 24 = .ok (.ireturn, 1) := by decide +kernel
theorem d_F_when_0 : decode c_F_when 0 = .ok (.aload_n 0, 1) := by decide +kernel
theorem d_F_when_1 : decode c_F_when 1 = .ok (.getfield 26, 3) := by decide +kernel
theorem d_F_when_4 : decode c_F_when 4 = .ok (.iload_n 1, 1) := by decide +kernel
theorem d_F_when_5 : decode c_F_when 5 = .ok (.invokevirtual 146, 3) := by decide +kernel
theorem d_F_when_8 : decode c_F_when 8 = .ok (.ifCond .eq 15, 3) := by decide +kernel
theorem d_F_when_11 : decode c_F_when 11 = .ok (.aload_n 0, 1) := by decide +kernel
theorem d_F_when_12 : decode c_F_when 12 = .ok (.getfield 26, 3) := by decide +kernel
theorem d_F_when_15 : decode c_F_when 15 = .ok (.getfield 152, 3) := by decide +kernel
theorem d_F_when_18 : decode c_F_when 18 = .ok (.iload_n 1, 1) := by decide +kernel
theorem d_F_when_19 : decode c_F_when 19 = .ok (.iaload, 1) := by decide +kernel
theorem d_F_when_20 : decode c_F_when 20 = .ok (.goto 4, 3) := by decide +kernel
theorem d_F_when_23 : decode c_F_when 23 = .ok (.iconst (-1), 1) := by decide +kernel
theorem d_F_when_24 : decode c_F_when 24 = .ok (.ireturn, 1) := by decide +kernel
theorem d_F_isWithin_0 : decode c_F_isWithin 0 = .ok (.iload_n 0, 1) := by decide +kernel
theorem d_F_isWithin_1 : decode c_F_isWithin 1 = .ok (.iload_n 1, 1) := by decide +kernel
theorem d_F_isWithin_2 : decode c_F_isWithin 2 = .ok (.if_icmp .lt 12, 3) := by decide +kernel
theorem d_F_isWithin_5 : decode c_F_isWithin 5 = .ok (.iload_n 0, 1) := by decide +kernel
theorem d_F_isWithin_6 : decode c_F_isWithin 6 = .ok (.iload_n 2, 1) := by decide +kernel
theorem d_F_isWithin_7 : decode c_F_isWithin 7 = .ok (.if_icmp .gt 7, 3) := by decide +kernel
theorem d_F_isWithin_10 : decode c_F_isWithin 10 = .ok (.iconst 1, 1) := by decide +kernel
theorem d_F_isWithin_11 : decode c_F_isWithin 11 = .ok (.goto 4, 3) := by decide +kernel
theorem d_F_isWithin_14 : decode c_F_isWithin 14 = .ok (.iconst 0, 1) := by decide +kernel
theorem d_F_isWithin_15 : decode c_F_isWithin 15 = .ok (.ireturn, 1) := by decide +kernel
theorem d_F_isRelay_0 : decode c_F_isRelay 0 = .ok (.iload_n 1, 1) := by decide +kernel
theorem d_F_isRelay_1 : decode c_F_isRelay 1 = .ok (.ifCond .lt 15, 3) := by decide +kernel
theorem d_F_isRelay_4 : decode c_F_isRelay 4 = .ok (.iload_n 1, 1) := by decide +kernel
theorem d_F_isRelay_5 : decode c_F_isRelay 5 = .ok (.aload_n 0, 1) := by decide +kernel
theorem d_F_isRelay_6 : decode c_F_isRelay 6 = .ok (.getfield 30, 3) := by decide +kernel
theorem d_F_isRelay_9 : decode c_F_isRelay 9 = .ok (.if_icmp .ge 7, 3) := by decide +kernel
theorem d_F_isRelay_12 : decode c_F_isRelay 12 = .ok (.iconst 1, 1) := by decide +kernel
theorem d_F_isRelay_13 : decode c_F_isRelay 13 = .ok (.goto 4, 3) := by decide +kernel
theorem d_F_isRelay_16 : decode c_F_isRelay 16 = .ok (.iconst 0, 1) := by decide +kernel
theorem d_F_isRelay_17 : decode c_F_isRelay 17 = .ok (.ireturn, 1) := by decide +kernel
theorem d_F_isPlaceFor_0 : decode c_F_isPlaceFor 0 = .ok (.aload_n 0, 1) := by decide +kernel
theorem d_F_isPlaceFor_1 : decode c_F_isPlaceFor 1 = .ok (.getfield 30, 3) := by decide +kernel
theorem d_F_isPlaceFor_4 : decode c_F_isPlaceFor 4 = .ok (.ifCond .ne 16, 3) := by decide +kernel
theorem d_F_isPlaceFor_7 : decode c_F_isPlaceFor 7 = .ok (.iload_n 1, 1) := by decide +kernel
theorem d_F_isPlaceFor_8 : decode c_F_isPlaceFor 8 = .ok (.iconst (-1), 1) := by decide +kernel
theorem d_F_isPlaceFor_9 : decode c_F_isPlaceFor 9 = .ok (.if_icmp .ne 7, 3) := by decide +kernel
theorem d_F_isPlaceFor_12 : decode c_F_isPlaceFor 12 = .ok (.iconst 1, 1) := by decide +kernel
theorem d_F_isPlaceFor_13 : decode c_F_isPlaceFor 13 = .ok (.goto 12, 3) := by decide +kernel
theorem d_F_isPlaceFor_16 : decode c_F_isPlaceFor 16 = .ok (.iconst 0, 1) := by decide +kernel
theorem d_F_isPlaceFor_17 : decode c_F_isPlaceFor 17 = .ok (.goto 8, 3) := by decide +kernel
theorem d_F_isPlaceFor_20 : decode c_F_isPlaceFor 20 = .ok (.aload_n 0, 1) := by decide +kernel
theorem d_F_isPlaceFor_21 : decode c_F_isPlaceFor 21 = .ok (.iload_n 1, 1) := by decide +kernel
theorem d_F_isPlaceFor_22 : decode c_F_isPlaceFor 22 = .ok (.invokevirtual 44, 3) := by decide +kernel
theorem d_F_isPlaceFor_25 : decode c_F_isPlaceFor 25 = .ok (.ireturn, 1) := by decide +kernel
theorem d_F_tick_0 : decode c_F_tick 0 = .ok (.aload_n 0, 1) := by decide +kernel
theorem d_F_tick_1 : decode c_F_tick 1 = .ok (.dup, 1) := by decide +kernel
theorem d_F_tick_2 : decode c_F_tick 2 = .ok (.getfield 34, 3) := by decide +kernel
theorem d_F_tick_5 : decode c_F_tick 5 = .ok (.iconst 1, 1) := by decide +kernel
theorem d_F_tick_6 : decode c_F_tick 6 = .ok (.iadd, 1) := by decide +kernel
theorem d_F_tick_7 : decode c_F_tick 7 = .ok (.putfield 34, 3) := by decide +kernel
theorem d_F_tick_10 : decode c_F_tick 10 = .ok (.iconst 0, 1) := by decide +kernel
theorem d_F_tick_11 : decode c_F_tick 11 = .ok (.istore_n 1, 1) := by decide +kernel
theorem d_F_tick_12 : decode c_F_tick 12 = .ok (.iload_n 1, 1) := by decide +kernel
theorem d_F_tick_13 : decode c_F_tick 13 = .ok (.aload_n 0, 1) := by decide +kernel
theorem d_F_tick_14 : decode c_F_tick 14 = .ok (.getfield 30, 3) := by decide +kernel
theorem d_F_tick_17 : decode c_F_tick 17 = .ok (.if_icmp .ge 25, 3) := by decide +kernel
theorem d_F_tick_20 : decode c_F_tick 20 = .ok (.aload_n 0, 1) := by decide +kernel
theorem d_F_tick_21 : decode c_F_tick 21 = .ok (.getfield 11, 3) := by decide +kernel
theorem d_F_tick_24 : decode c_F_tick 24 = .ok (.iload_n 1, 1) := by decide +kernel
theorem d_F_tick_25 : decode c_F_tick 25 = .ok (.aaload, 1) := by decide +kernel
theorem d_F_tick_26 : decode c_F_tick 26 = .ok (.getfield 86, 3) := by decide +kernel
theorem d_F_tick_29 : decode c_F_tick 29 = .ok (.aload_n 0, 1) := by decide +kernel
theorem d_F_tick_30 : decode c_F_tick 30 = .ok (.getfield 34, 3) := by decide +kernel
theorem d_F_tick_33 : decode c_F_tick 33 = .ok (.invokevirtual 155, 3) := by decide +kernel
theorem d_F_tick_36 : decode c_F_tick 36 = .ok (.iinc 1 1, 3) := by decide +kernel
theorem d_F_tick_39 : decode c_F_tick 39 = .ok (.goto (-27), 3) := by decide +kernel
theorem d_F_tick_42 : decode c_F_tick 42 = .ok (.iconst 0, 1) := by decide +kernel
theorem d_F_tick_43 : decode c_F_tick 43 = .ok (.istore_n 1, 1) := by decide +kernel
theorem d_F_tick_44 : decode c_F_tick 44 = .ok (.iload_n 1, 1) := by decide +kernel
theorem d_F_tick_45 : decode c_F_tick 45 = .ok (.aload_n 0, 1) := by decide +kernel
theorem d_F_tick_46 : decode c_F_tick 46 = .ok (.getfield 30, 3) := by decide +kernel
theorem d_F_tick_49 : decode c_F_tick 49 = .ok (.if_icmp .ge 14, 3) := by decide +kernel
theorem d_F_tick_52 : decode c_F_tick 52 = .ok (.aload_n 0, 1) := by decide +kernel
theorem d_F_tick_53 : decode c_F_tick 53 = .ok (.iload_n 1, 1) := by decide +kernel
theorem d_F_tick_54 : decode c_F_tick 54 = .ok (.invokevirtual 158, 3) := by decide +kernel
theorem d_F_tick_57 : decode c_F_tick 57 = .ok (.iinc 1 1, 3) := by decide +kernel
theorem d_F_tick_60 : decode c_F_tick 60 = .ok (.goto (-16), 3) := by decide +kernel
theorem d_F_tick_63 : decode c_F_tick 63 = .ok (.aload_n 0, 1) := by decide +kernel
theorem d_F_tick_64 : decode c_F_tick 64 = .ok (.invokevirtual 161, 3) := by decide +kernel
theorem d_F_tick_67 : decode c_F_tick 67 = .ok (.iconst 0, 1) := by decide +kernel
theorem d_F_tick_68 : decode c_F_tick 68 = .ok (.istore_n 1, 1) := by decide +kernel
theorem d_F_tick_69 : decode c_F_tick 69 = .ok (.iload_n 1, 1) := by decide +kernel
theorem d_F_tick_70 : decode c_F_tick 70 = .ok (.aload_n 0, 1) := by decide +kernel
theorem d_F_tick_71 : decode c_F_tick 71 = .ok (.getfield 30, 3) := by decide +kernel
theorem d_F_tick_74 : decode c_F_tick 74 = .ok (.if_icmp .ge 14, 3) := by decide +kernel
theorem d_F_tick_77 : decode c_F_tick 77 = .ok (.aload_n 0, 1) := by decide +kernel
theorem d_F_tick_78 : decode c_F_tick 78 = .ok (.iload_n 1, 1) := by decide +kernel
theorem d_F_tick_79 : decode c_F_tick 79 = .ok (.invokevirtual 164, 3) := by decide +kernel
theorem d_F_tick_82 : decode c_F_tick 82 = .ok (.iinc 1 1, 3) := by decide +kernel
theorem d_F_tick_85 : decode c_F_tick 85 = .ok (.goto (-16), 3) := by decide +kernel
theorem d_F_tick_88 : decode c_F_tick 88 = .ok (.iconst 0, 1) := by decide +kernel
theorem d_F_tick_89 : decode c_F_tick 89 = .ok (.istore_n 1, 1) := by decide +kernel
theorem d_F_tick_90 : decode c_F_tick 90 = .ok (.iload_n 1, 1) := by decide +kernel
theorem d_F_tick_91 : decode c_F_tick 91 = .ok (.aload_n 0, 1) := by decide +kernel
theorem d_F_tick_92 : decode c_F_tick 92 = .ok (.getfield 30, 3) := by decide +kernel
theorem d_F_tick_95 : decode c_F_tick 95 = .ok (.if_icmp .ge 14, 3) := by decide +kernel
theorem d_F_tick_98 : decode c_F_tick 98 = .ok (.aload_n 0, 1) := by decide +kernel
theorem d_F_tick_99 : decode c_F_tick 99 = .ok (.iload_n 1, 1) := by decide +kernel
theorem d_F_tick_100 : decode c_F_tick 100 = .ok (.invokevirtual 167, 3) := by decide +kernel
theorem d_F_tick_103 : decode c_F_tick 103 = .ok (.iinc 1 1, 3) := by decide +kernel
theorem d_F_tick_106 : decode c_F_tick 106 = .ok (.goto (-16), 3) := by decide +kernel
theorem d_F_tick_109 : decode c_F_tick 109 = .ok (.aload_n 0, 1) := by decide +kernel
theorem d_F_tick_110 : decode c_F_tick 110 = .ok (.getfield 26, 3) := by decide +kernel
theorem d_F_tick_113 : decode c_F_tick 113 = .ok (.invokevirtual 170, 3) := by decide +kernel
theorem d_F_tick_116 : decode c_F_tick 116 = .ok (.return_, 1) := by decide +kernel
theorem d_F_moveBreaker_0 : decode c_F_moveBreaker 0 = .ok (.aload_n 0, 1) := by decide +kernel
theorem d_F_moveBreaker_1 : decode c_F_moveBreaker 1 = .ok (.getfield 11, 3) := by decide +kernel
theorem d_F_moveBreaker_4 : decode c_F_moveBreaker 4 = .ok (.iload_n 1, 1) := by decide +kernel
theorem d_F_moveBreaker_5 : decode c_F_moveBreaker 5 = .ok (.aaload, 1) := by decide +kernel
theorem d_F_moveBreaker_6 : decode c_F_moveBreaker 6 = .ok (.getfield 77, 3) := by decide +kernel
theorem d_F_moveBreaker_9 : decode c_F_moveBreaker 9 = .ok (.astore_n 2, 1) := by decide +kernel
theorem d_F_moveBreaker_10 : decode c_F_moveBreaker 10 = .ok (.aload_n 2, 1) := by decide +kernel
theorem d_F_moveBreaker_11 : decode c_F_moveBreaker 11 = .ok (.aload_n 0, 1) := by decide +kernel
theorem d_F_moveBreaker_12 : decode c_F_moveBreaker 12 = .ok (.getfield 34, 3) := by decide +kernel
theorem d_F_moveBreaker_15 : decode c_F_moveBreaker 15 = .ok (.invokevirtual 173, 3) := by decide +kernel
theorem d_F_moveBreaker_18 : decode c_F_moveBreaker 18 = .ok (.ifCond .eq 85, 3) := by decide +kernel
theorem d_F_moveBreaker_21 : decode c_F_moveBreaker 21 = .ok (.aload_n 2, 1) := by decide +kernel
theorem d_F_moveBreaker_22 : decode c_F_moveBreaker 22 = .ok (.getfield 176, 3) := by decide +kernel
theorem d_F_moveBreaker_25 : decode c_F_moveBreaker 25 = .ok (.ifCond .eq 23, 3) := by decide +kernel
theorem d_F_moveBreaker_28 : decode c_F_moveBreaker 28 = .ok (.aload_n 2, 1) := by decide +kernel
theorem d_F_moveBreaker_29 : decode c_F_moveBreaker 29 = .ok (.getfield 128, 3) := by decide +kernel
theorem d_F_moveBreaker_32 : decode c_F_moveBreaker 32 = .ok (.aload_n 0, 1) := by decide +kernel
theorem d_F_moveBreaker_33 : decode c_F_moveBreaker 33 = .ok (.getfield 11, 3) := by decide +kernel
theorem d_F_moveBreaker_36 : decode c_F_moveBreaker 36 = .ok (.iload_n 1, 1) := by decide +kernel
theorem d_F_moveBreaker_37 : decode c_F_moveBreaker 37 = .ok (.aaload, 1) := by decide +kernel
theorem d_F_moveBreaker_38 : decode c_F_moveBreaker 38 = .ok (.getfield 65, 3) := by decide +kernel
theorem d_F_moveBreaker_41 : decode c_F_moveBreaker 41 = .ok (.if_icmp .ge 7, 3) := by decide +kernel
theorem d_F_moveBreaker_44 : decode c_F_moveBreaker 44 = .ok (.iconst 1, 1) := by decide +kernel
theorem d_F_moveBreaker_45 : decode c_F_moveBreaker 45 = .ok (.goto 4, 3) := by decide +kernel
theorem d_F_moveBreaker_48 : decode c_F_moveBreaker 48 = .ok (.iconst 0, 1) := by decide +kernel
theorem d_F_moveBreaker_49 : decode c_F_moveBreaker 49 = .ok (.istore_n 3, 1) := by decide +kernel
theorem d_F_moveBreaker_50 : decode c_F_moveBreaker 50 = .ok (.aload_n 2, 1) := by decide +kernel
theorem d_F_moveBreaker_51 : decode c_F_moveBreaker 51 = .ok (.invokevirtual 179, 3) := by decide +kernel
theorem d_F_moveBreaker_54 : decode c_F_moveBreaker 54 = .ok (.aload_n 0, 1) := by decide +kernel
theorem d_F_moveBreaker_55 : decode c_F_moveBreaker 55 = .ok (.getfield 26, 3) := by decide +kernel
theorem d_F_moveBreaker_58 : decode c_F_moveBreaker 58 = .ok (.iconst 2, 1) := by decide +kernel
theorem d_F_moveBreaker_59 : decode c_F_moveBreaker 59 = .ok (.iload_n 1, 1) := by decide +kernel
theorem d_F_moveBreaker_60 : decode c_F_moveBreaker 60 = .ok (.aload_n 0, 1) := by decide +kernel
theorem d_F_moveBreaker_61 : decode c_F_moveBreaker 61 = .ok (.getfield 34, 3) := by decide +kernel
theorem d_F_moveBreaker_64 : decode c_F_moveBreaker 64 = .ok (.invokevirtual 182, 3) := by decide +kernel
theorem d_F_moveBreaker_67 : decode c_F_moveBreaker 67 = .ok (.iload_n 3, 1) := by decide +kernel
theorem d_F_moveBreaker_68 : decode c_F_moveBreaker 68 = .ok (.ifCond .eq 14, 3) := by decide +kernel
theorem d_F_moveBreaker_71 : decode c_F_moveBreaker 71 = .ok (.aload_n 2, 1) := by decide +kernel
theorem d_F_moveBreaker_72 : decode c_F_moveBreaker 72 = .ok (.aload_n 0, 1) := by decide +kernel
theorem d_F_moveBreaker_73 : decode c_F_moveBreaker 73 = .ok (.getfield 34, 3) := by decide +kernel
theorem d_F_moveBreaker_76 : decode c_F_moveBreaker 76 = .ok (.invokevirtual 185, 3) := by decide +kernel
theorem d_F_moveBreaker_79 : decode c_F_moveBreaker 79 = .ok (.goto 21, 3) := by decide +kernel
theorem d_F_moveBreaker_82 : decode c_F_moveBreaker 82 = .ok (.aload_n 2, 1) := by decide +kernel
theorem d_F_moveBreaker_83 : decode c_F_moveBreaker 83 = .ok (.iconst 1, 1) := by decide +kernel
theorem d_F_moveBreaker_84 : decode c_F_moveBreaker 84 = .ok (.putfield 188, 3) := by decide +kernel
theorem d_F_moveBreaker_87 : decode c_F_moveBreaker 87 = .ok (.aload_n 0, 1) := by decide +kernel
theorem d_F_moveBreaker_88 : decode c_F_moveBreaker 88 = .ok (.getfield 26, 3) := by decide +kernel
theorem d_F_moveBreaker_91 : decode c_F_moveBreaker 91 = .ok (.iconst 5, 1) := by decide +kernel
theorem d_F_moveBreaker_92 : decode c_F_moveBreaker 92 = .ok (.iload_n 1, 1) := by decide +kernel
theorem d_F_moveBreaker_93 : decode c_F_moveBreaker 93 = .ok (.aload_n 0, 1) := by decide +kernel
theorem d_F_moveBreaker_94 : decode c_F_moveBreaker 94 = .ok (.getfield 34, 3) := by decide +kernel
theorem d_F_moveBreaker_97 : decode c_F_moveBreaker 97 = .ok (.invokevirtual 182, 3) := by decide +kernel
theorem d_F_moveBreaker_100 : decode c_F_moveBreaker 100 = .ok (.goto 67, 3) := by decide +kernel
theorem d_F_moveBreaker_103 : decode c_F_moveBreaker 103 = .ok (.aload_n 2, 1) := by decide +kernel
theorem d_F_moveBreaker_104 : decode c_F_moveBreaker 104 = .ok (.aload_n 0, 1) := by decide +kernel
theorem d_F_moveBreaker_105 : decode c_F_moveBreaker 105 = .ok (.getfield 34, 3) := by decide +kernel
theorem d_F_moveBreaker_108 : decode c_F_moveBreaker 108 = .ok (.invokevirtual 191, 3) := by decide +kernel
theorem d_F_moveBreaker_111 : decode c_F_moveBreaker 111 = .ok (.ifCond .eq 27, 3) := by decide +kernel
theorem d_F_moveBreaker_114 : decode c_F_moveBreaker 114 = .ok (.aload_n 2, 1) := by decide +kernel
theorem d_F_moveBreaker_115 : decode c_F_moveBreaker 115 = .ok (.aload_n 0, 1) := by decide +kernel
theorem d_F_moveBreaker_116 : decode c_F_moveBreaker 116 = .ok (.getfield 34, 3) := by decide +kernel
theorem d_F_moveBreaker_119 : decode c_F_moveBreaker 119 = .ok (.invokevirtual 194, 3) := by decide +kernel
theorem d_F_moveBreaker_122 : decode c_F_moveBreaker 122 = .ok (.aload_n 0, 1) := by decide +kernel
theorem d_F_moveBreaker_123 : decode c_F_moveBreaker 123 = .ok (.getfield 26, 3) := by decide +kernel
theorem d_F_moveBreaker_126 : decode c_F_moveBreaker 126 = .ok (.iconst 3, 1) := by decide +kernel
theorem d_F_moveBreaker_127 : decode c_F_moveBreaker 127 = .ok (.iload_n 1, 1) := by decide +kernel
theorem d_F_moveBreaker_128 : decode c_F_moveBreaker 128 = .ok (.aload_n 0, 1) := by decide +kernel
theorem d_F_moveBreaker_129 : decode c_F_moveBreaker 129 = .ok (.getfield 34, 3) := by decide +kernel
theorem d_F_moveBreaker_132 : decode c_F_moveBreaker 132 = .ok (.invokevirtual 182, 3) := by decide +kernel
theorem d_F_moveBreaker_135 : decode c_F_moveBreaker 135 = .ok (.goto 32, 3) := by decide +kernel
theorem d_F_moveBreaker_138 : decode c_F_moveBreaker 138 = .ok (.aload_n 2, 1) := by decide +kernel
theorem d_F_moveBreaker_139 : decode c_F_moveBreaker 139 = .ok (.aload_n 0, 1) := by decide +kernel
theorem d_F_moveBreaker_140 : decode c_F_moveBreaker 140 = .ok (.getfield 34, 3) := by decide +kernel
theorem d_F_moveBreaker_143 : decode c_F_moveBreaker 143 = .ok (.invokevirtual 197, 3) := by decide +kernel
theorem d_F_moveBreaker_146 : decode c_F_moveBreaker 146 = .ok (.ifCond .eq 21, 3) := by decide +kernel
theorem d_F_moveBreaker_149 : decode c_F_moveBreaker 149 = .ok (.aload_n 2, 1) := by decide +kernel
theorem d_F_moveBreaker_150 : decode c_F_moveBreaker 150 = .ok (.iconst 0, 1) := by decide +kernel
theorem d_F_moveBreaker_151 : decode c_F_moveBreaker 151 = .ok (.putfield 128, 3) := by decide +kernel
theorem d_F_moveBreaker_154 : decode c_F_moveBreaker 154 = .ok (.aload_n 0, 1) := by decide +kernel
theorem d_F_moveBreaker_155 : decode c_F_moveBreaker 155 = .ok (.getfield 26, 3) := by decide +kernel
theorem d_F_moveBreaker_158 : decode c_F_moveBreaker 158 = .ok (.iconst 4, 1) := by decide +kernel
theorem d_F_moveBreaker_159 : decode c_F_moveBreaker 159 = .ok (.iload_n 1, 1) := by decide +kernel
theorem d_F_moveBreaker_160 : decode c_F_moveBreaker 160 = .ok (.aload_n 0, 1) := by decide +kernel
theorem d_F_moveBreaker_161 : decode c_F_moveBreaker 161 = .ok (.getfield 34, 3) := by decide +kernel
theorem d_F_moveBreaker_164 : decode c_F_moveBreaker 164 = .ok (.invokevirtual 182, 3) := by decide +kernel
theorem d_F_moveBreaker_167 : decode c_F_moveBreaker 167 = .ok (.return_, 1) := by decide +kernel
theorem d_F_measureAll_0 : decode c_F_measureAll 0 = .ok (.aload_n 0, 1) := by decide +kernel
theorem d_F_measureAll_1 : decode c_F_measureAll 1 = .ok (.invokevirtual 110, 3) := by decide +kernel
theorem d_F_measureAll_4 : decode c_F_measureAll 4 = .ok (.iconst 0, 1) := by decide +kernel
theorem d_F_measureAll_5 : decode c_F_measureAll 5 = .ok (.istore_n 1, 1) := by decide +kernel
theorem d_F_measureAll_6 : decode c_F_measureAll 6 = .ok (.iload_n 1, 1) := by decide +kernel
theorem d_F_measureAll_7 : decode c_F_measureAll 7 = .ok (.aload_n 0, 1) := by decide +kernel
theorem d_F_measureAll_8 : decode c_F_measureAll 8 = .ok (.getfield 30, 3) := by decide +kernel
theorem d_F_measureAll_11 : decode c_F_measureAll 11 = .ok (.if_icmp .ge 67, 3) := by decide +kernel
theorem d_F_measureAll_14 : decode c_F_measureAll 14 = .ok (.aload_n 0, 1) := by decide +kernel
theorem d_F_measureAll_15 : decode c_F_measureAll 15 = .ok (.getfield 11, 3) := by decide +kernel
theorem d_F_measureAll_18 : decode c_F_measureAll 18 = .ok (.iload_n 1, 1) := by decide +kernel
theorem d_F_measureAll_19 : decode c_F_measureAll 19 = .ok (.aaload, 1) := by decide +kernel
theorem d_F_measureAll_20 : decode c_F_measureAll 20 = .ok (.getfield 51, 3) := by decide +kernel
theorem d_F_measureAll_23 : decode c_F_measureAll 23 = .ok (.astore_n 2, 1) := by decide +kernel
theorem d_F_measureAll_24 : decode c_F_measureAll 24 = .ok (.aload_n 2, 1) := by decide +kernel
theorem d_F_measureAll_25 : decode c_F_measureAll 25 = .ok (.getfield 116, 3) := by decide +kernel
theorem d_F_measureAll_28 : decode c_F_measureAll 28 = .ok (.istore_n 3, 1) := by decide +kernel
theorem d_F_measureAll_29 : decode c_F_measureAll 29 = .ok (.aload_n 2, 1) := by decide +kernel
theorem d_F_measureAll_30 : decode c_F_measureAll 30 = .ok (.aload_n 0, 1) := by decide +kernel
theorem d_F_measureAll_31 : decode c_F_measureAll 31 = .ok (.getfield 15, 3) := by decide +kernel
theorem d_F_measureAll_34 : decode c_F_measureAll 34 = .ok (.iload_n 1, 1) := by decide +kernel
theorem d_F_measureAll_35 : decode c_F_measureAll 35 = .ok (.iaload, 1) := by decide +kernel
theorem d_F_measureAll_36 : decode c_F_measureAll 36 = .ok (.invokevirtual 200, 3) := by decide +kernel
theorem d_F_measureAll_39 : decode c_F_measureAll 39 = .ok (.aload_n 0, 1) := by decide +kernel
theorem d_F_measureAll_40 : decode c_F_measureAll 40 = .ok (.getfield 11, 3) := by decide +kernel
theorem d_F_measureAll_43 : decode c_F_measureAll 43 = .ok (.iload_n 1, 1) := by decide +kernel
theorem d_F_measureAll_44 : decode c_F_measureAll 44 = .ok (.aaload, 1) := by decide +kernel
theorem d_F_measureAll_45 : decode c_F_measureAll 45 = .ok (.getfield 86, 3) := by decide +kernel
theorem d_F_measureAll_48 : decode c_F_measureAll 48 = .ok (.aload_n 0, 1) := by decide +kernel
theorem d_F_measureAll_49 : decode c_F_measureAll 49 = .ok (.getfield 34, 3) := by decide +kernel
theorem d_F_measureAll_52 : decode c_F_measureAll 52 = .ok (.aload_n 2, 1) := by decide +kernel
theorem d_F_measureAll_53 : decode c_F_measureAll 53 = .ok (.getfield 116, 3) := by decide +kernel
theorem d_F_measureAll_56 : decode c_F_measureAll 56 = .ok (.aload_n 2, 1) := by decide +kernel
theorem d_F_measureAll_57 : decode c_F_measureAll 57 = .ok (.getfield 116, 3) := by decide +kernel
theorem d_F_measureAll_60 : decode c_F_measureAll 60 = .ok (.iload_n 3, 1) := by decide +kernel
theorem d_F_measureAll_61 : decode c_F_measureAll 61 = .ok (.if_icmp .eq 7, 3) := by decide +kernel
theorem d_F_measureAll_64 : decode c_F_measureAll 64 = .ok (.iconst 1, 1) := by decide +kernel
theorem d_F_measureAll_65 : decode c_F_measureAll 65 = .ok (.goto 4, 3) := by decide +kernel
theorem d_F_measureAll_68 : decode c_F_measureAll 68 = .ok (.iconst 0, 1) := by decide +kernel
theorem d_F_measureAll_69 : decode c_F_measureAll 69 = .ok (.invokevirtual 203, 3) := by decide +kernel
theorem d_F_measureAll_72 : decode c_F_measureAll 72 = .ok (.iinc 1 1, 3) := by decide +kernel
theorem d_F_measureAll_75 : decode c_F_measureAll 75 = .ok (.goto (-69), 3) := by decide +kernel
theorem d_F_measureAll_78 : decode c_F_measureAll 78 = .ok (.return_, 1) := by decide +kernel
theorem d_F_findFlows_0 : decode c_F_findFlows 0 = .ok (.iconst 0, 1) := by decide +kernel
theorem d_F_findFlows_1 : decode c_F_findFlows 1 = .ok (.istore_n 1, 1) := by decide +kernel
theorem d_F_findFlows_2 : decode c_F_findFlows 2 = .ok (.iload_n 1, 1) := by decide +kernel
theorem d_F_findFlows_3 : decode c_F_findFlows 3 = .ok (.aload_n 0, 1) := by decide +kernel
theorem d_F_findFlows_4 : decode c_F_findFlows 4 = .ok (.getfield 30, 3) := by decide +kernel
theorem d_F_findFlows_7 : decode c_F_findFlows 7 = .ok (.if_icmp .ge 85, 3) := by decide +kernel
theorem d_F_findFlows_10 : decode c_F_findFlows 10 = .ok (.aload_n 0, 1) := by decide +kernel
theorem d_F_findFlows_11 : decode c_F_findFlows 11 = .ok (.getfield 11, 3) := by decide +kernel
theorem d_F_findFlows_14 : decode c_F_findFlows 14 = .ok (.iload_n 1, 1) := by decide +kernel
theorem d_F_findFlows_15 : decode c_F_findFlows 15 = .ok (.aaload, 1) := by decide +kernel
theorem d_F_findFlows_16 : decode c_F_findFlows 16 = .ok (.astore_n 2, 1) := by decide +kernel
theorem d_F_findFlows_17 : decode c_F_findFlows 17 = .ok (.aload_n 0, 1) := by decide +kernel
theorem d_F_findFlows_18 : decode c_F_findFlows 18 = .ok (.getfield 19, 3) := by decide +kernel
theorem d_F_findFlows_21 : decode c_F_findFlows 21 = .ok (.iload_n 1, 1) := by decide +kernel
theorem d_F_findFlows_22 : decode c_F_findFlows 22 = .ok (.aload_n 2, 1) := by decide +kernel
theorem d_F_findFlows_23 : decode c_F_findFlows 23 = .ok (.getfield 77, 3) := by decide +kernel
theorem d_F_findFlows_26 : decode c_F_findFlows 26 = .ok (.getfield 95, 3) := by decide +kernel
theorem d_F_findFlows_29 : decode c_F_findFlows 29 = .ok (.ifCond .eq 27, 3) := by decide +kernel
theorem d_F_findFlows_32 : decode c_F_findFlows 32 = .ok (.aload_n 2, 1) := by decide +kernel
theorem d_F_findFlows_33 : decode c_F_findFlows 33 = .ok (.getfield 134, 3) := by decide +kernel
theorem d_F_findFlows_36 : decode c_F_findFlows 36 = .ok (.iconst (-1), 1) := by decide +kernel
theorem d_F_findFlows_37 : decode c_F_findFlows 37 = .ok (.if_icmp .eq 15, 3) := by decide +kernel
theorem d_F_findFlows_40 : decode c_F_findFlows 40 = .ok (.aload_n 0, 1) := by decide +kernel
theorem d_F_findFlows_41 : decode c_F_findFlows 41 = .ok (.getfield 19, 3) := by decide +kernel
theorem d_F_findFlows_44 : decode c_F_findFlows 44 = .ok (.aload_n 2, 1) := by decide +kernel
theorem d_F_findFlows_45 : decode c_F_findFlows 45 = .ok (.getfield 134, 3) := by decide +kernel
theorem d_F_findFlows_48 : decode c_F_findFlows 48 = .ok (.baload, 1) := by decide +kernel
theorem d_F_findFlows_49 : decode c_F_findFlows 49 = .ok (.ifCond .eq 7, 3) := by decide +kernel
theorem d_F_findFlows_52 : decode c_F_findFlows 52 = .ok (.iconst 1, 1) := by decide +kernel
theorem d_F_findFlows_53 : decode c_F_findFlows 53 = .ok (.goto 4, 3) := by decide +kernel
theorem d_F_findFlows_56 : decode c_F_findFlows 56 = .ok (.iconst 0, 1) := by decide +kernel
theorem d_F_findFlows_57 : decode c_F_findFlows 57 = .ok (.bastore, 1) := by decide +kernel
theorem d_F_findFlows_58 : decode c_F_findFlows 58 = .ok (.aload_n 0, 1) := by decide +kernel
theorem d_F_findFlows_59 : decode c_F_findFlows 59 = .ok (.getfield 15, 3) := by decide +kernel
theorem d_F_findFlows_62 : decode c_F_findFlows 62 = .ok (.iload_n 1, 1) := by decide +kernel
theorem d_F_findFlows_63 : decode c_F_findFlows 63 = .ok (.aload_n 0, 1) := by decide +kernel
theorem d_F_findFlows_64 : decode c_F_findFlows 64 = .ok (.getfield 19, 3) := by decide +kernel
theorem d_F_findFlows_67 : decode c_F_findFlows 67 = .ok (.iload_n 1, 1) := by decide +kernel
theorem d_F_findFlows_68 : decode c_F_findFlows 68 = .ok (.baload, 1) := by decide +kernel
theorem d_F_findFlows_69 : decode c_F_findFlows 69 = .ok (.ifCond .eq 15, 3) := by decide +kernel
theorem d_F_findFlows_72 : decode c_F_findFlows 72 = .ok (.aload_n 2, 1) := by decide +kernel
theorem d_F_findFlows_73 : decode c_F_findFlows 73 = .ok (.getfield 71, 3) := by decide +kernel
theorem d_F_findFlows_76 : decode c_F_findFlows 76 = .ok (.aload_n 2, 1) := by decide +kernel
theorem d_F_findFlows_77 : decode c_F_findFlows 77 = .ok (.getfield 74, 3) := by decide +kernel
theorem d_F_findFlows_80 : decode c_F_findFlows 80 = .ok (.iadd, 1) := by decide +kernel
theorem d_F_findFlows_81 : decode c_F_findFlows 81 = .ok (.goto 4, 3) := by decide +kernel
theorem d_F_findFlows_84 : decode c_F_findFlows 84 = .ok (.iconst 0, 1) := by decide +kernel
theorem d_F_findFlows_85 : decode c_F_findFlows 85 = .ok (.iastore, 1) := by decide +kernel
theorem d_F_findFlows_86 : decode c_F_findFlows 86 = .ok (.iinc 1 1, 3) := by decide +kernel
theorem d_F_findFlows_89 : decode c_F_findFlows 89 = .ok (.goto (-87), 3) := by decide +kernel
theorem d_F_findFlows_92 : decode c_F_findFlows 92 = .ok (.aload_n 0, 1) := by decide +kernel
theorem d_F_findFlows_93 : decode c_F_findFlows 93 = .ok (.getfield 30, 3) := by decide +kernel
theorem d_F_findFlows_96 : decode c_F_findFlows 96 = .ok (.iconst 1, 1) := by decide +kernel
theorem d_F_findFlows_97 : decode c_F_findFlows 97 = .ok (.isub, 1) := by decide +kernel
theorem d_F_findFlows_98 : decode c_F_findFlows 98 = .ok (.istore_n 1, 1) := by decide +kernel
theorem d_F_findFlows_99 : decode c_F_findFlows 99 = .ok (.iload_n 1, 1) := by decide +kernel
theorem d_F_findFlows_100 : decode c_F_findFlows 100 = .ok (.ifCond .le 32, 3) := by decide +kernel
theorem d_F_findFlows_103 : decode c_F_findFlows 103 = .ok (.aload_n 0, 1) := by decide +kernel
theorem d_F_findFlows_104 : decode c_F_findFlows 104 = .ok (.getfield 15, 3) := by decide +kernel
theorem d_F_findFlows_107 : decode c_F_findFlows 107 = .ok (.aload_n 0, 1) := by decide +kernel
theorem d_F_findFlows_108 : decode c_F_findFlows 108 = .ok (.getfield 11, 3) := by decide +kernel
theorem d_F_findFlows_111 : decode c_F_findFlows 111 = .ok (.iload_n 1, 1) := by decide +kernel
theorem d_F_findFlows_112 : decode c_F_findFlows 112 = .ok (.aaload, 1) := by decide +kernel
theorem d_F_findFlows_113 : decode c_F_findFlows 113 = .ok (.getfield 134, 3) := by decide +kernel
theorem d_F_findFlows_116 : decode c_F_findFlows 116 = .ok (.dup2, 1) := by decide +kernel
theorem d_F_findFlows_117 : decode c_F_findFlows 117 = .ok (.iaload, 1) := by decide +kernel
theorem d_F_findFlows_118 : decode c_F_findFlows 118 = .ok (.aload_n 0, 1) := by decide +kernel
theorem d_F_findFlows_119 : decode c_F_findFlows 119 = .ok (.getfield 15, 3) := by decide +kernel
theorem d_F_findFlows_122 : decode c_F_findFlows 122 = .ok (.iload_n 1, 1) := by decide +kernel
theorem d_F_findFlows_123 : decode c_F_findFlows 123 = .ok (.iaload, 1) := by decide +kernel
theorem d_F_findFlows_124 : decode c_F_findFlows 124 = .ok (.iadd, 1) := by decide +kernel
theorem d_F_findFlows_125 : decode c_F_findFlows 125 = .ok (.iastore, 1) := by decide +kernel
theorem d_F_findFlows_126 : decode c_F_findFlows 126 = .ok (.iinc 1 (-1), 3) := by decide +kernel
theorem d_F_findFlows_129 : decode c_F_findFlows 129 = .ok (.goto (-30), 3) := by decide +kernel
theorem d_F_findFlows_132 : decode c_F_findFlows 132 = .ok (.return_, 1) := by decide +kernel
theorem d_F_tripIfDue_0 : decode c_F_tripIfDue 0 = .ok (.aload_n 0, 1) := by decide +kernel
theorem d_F_tripIfDue_1 : decode c_F_tripIfDue 1 = .ok (.getfield 11, 3) := by decide +kernel
theorem d_F_tripIfDue_4 : decode c_F_tripIfDue 4 = .ok (.iload_n 1, 1) := by decide +kernel
theorem d_F_tripIfDue_5 : decode c_F_tripIfDue 5 = .ok (.aaload, 1) := by decide +kernel
theorem d_F_tripIfDue_6 : decode c_F_tripIfDue 6 = .ok (.getfield 77, 3) := by decide +kernel
theorem d_F_tripIfDue_9 : decode c_F_tripIfDue 9 = .ok (.astore_n 2, 1) := by decide +kernel
theorem d_F_tripIfDue_10 : decode c_F_tripIfDue 10 = .ok (.aload_n 0, 1) := by decide +kernel
theorem d_F_tripIfDue_11 : decode c_F_tripIfDue 11 = .ok (.getfield 11, 3) := by decide +kernel
theorem d_F_tripIfDue_14 : decode c_F_tripIfDue 14 = .ok (.iload_n 1, 1) := by decide +kernel
theorem d_F_tripIfDue_15 : decode c_F_tripIfDue 15 = .ok (.aaload, 1) := by decide +kernel
theorem d_F_tripIfDue_16 : decode c_F_tripIfDue 16 = .ok (.getfield 51, 3) := by decide +kernel
theorem d_F_tripIfDue_19 : decode c_F_tripIfDue 19 = .ok (.invokevirtual 207, 3) := by decide +kernel
theorem d_F_tripIfDue_22 : decode c_F_tripIfDue 22 = .ok (.ifCond .eq 40, 3) := by decide +kernel
theorem d_F_tripIfDue_25 : decode c_F_tripIfDue 25 = .ok (.aload_n 2, 1) := by decide +kernel
theorem d_F_tripIfDue_26 : decode c_F_tripIfDue 26 = .ok (.invokevirtual 211, 3) := by decide +kernel
theorem d_F_tripIfDue_29 : decode c_F_tripIfDue 29 = .ok (.ifCond .eq 33, 3) := by decide +kernel
theorem d_F_tripIfDue_32 : decode c_F_tripIfDue 32 = .ok (.aload_n 0, 1) := by decide +kernel
theorem d_F_tripIfDue_33 : decode c_F_tripIfDue 33 = .ok (.iload_n 1, 1) := by decide +kernel
theorem d_F_tripIfDue_34 : decode c_F_tripIfDue 34 = .ok (.invokevirtual 119, 3) := by decide +kernel
theorem d_F_tripIfDue_37 : decode c_F_tripIfDue 37 = .ok (.ifCond .ne 25, 3) := by decide +kernel
theorem d_F_tripIfDue_40 : decode c_F_tripIfDue 40 = .ok (.aload_n 2, 1) := by decide +kernel
theorem d_F_tripIfDue_41 : decode c_F_tripIfDue 41 = .ok (.aload_n 0, 1) := by decide +kernel
theorem d_F_tripIfDue_42 : decode c_F_tripIfDue 42 = .ok (.getfield 34, 3) := by decide +kernel
theorem d_F_tripIfDue_45 : decode c_F_tripIfDue 45 = .ok (.iconst 1, 1) := by decide +kernel
theorem d_F_tripIfDue_46 : decode c_F_tripIfDue 46 = .ok (.invokevirtual 214, 3) := by decide +kernel
theorem d_F_tripIfDue_49 : decode c_F_tripIfDue 49 = .ok (.aload_n 0, 1) := by decide +kernel
theorem d_F_tripIfDue_50 : decode c_F_tripIfDue 50 = .ok (.getfield 26, 3) := by decide +kernel
theorem d_F_tripIfDue_53 : decode c_F_tripIfDue 53 = .ok (.iconst 1, 1) := by decide +kernel
theorem d_F_tripIfDue_54 : decode c_F_tripIfDue 54 = .ok (.iload_n 1, 1) := by decide +kernel
theorem d_F_tripIfDue_55 : decode c_F_tripIfDue 55 = .ok (.aload_n 0, 1) := by decide +kernel
theorem d_F_tripIfDue_56 : decode c_F_tripIfDue 56 = .ok (.getfield 34, 3) := by decide +kernel
theorem d_F_tripIfDue_59 : decode c_F_tripIfDue 59 = .ok (.invokevirtual 182, 3) := by decide +kernel
theorem d_F_tripIfDue_62 : decode c_F_tripIfDue 62 = .ok (.return_, 1) := by decide +kernel
theorem d_F_failIfDue_0 : decode c_F_failIfDue 0 = .ok (.aload_n 0, 1) := by decide +kernel
theorem d_F_failIfDue_1 : decode c_F_failIfDue 1 = .ok (.getfield 11, 3) := by decide +kernel
theorem d_F_failIfDue_4 : decode c_F_failIfDue 4 = .ok (.iload_n 1, 1) := by decide +kernel
theorem d_F_failIfDue_5 : decode c_F_failIfDue 5 = .ok (.aaload, 1) := by decide +kernel
theorem d_F_failIfDue_6 : decode c_F_failIfDue 6 = .ok (.astore_n 2, 1) := by decide +kernel
theorem d_F_failIfDue_7 : decode c_F_failIfDue 7 = .ok (.aload_n 2, 1) := by decide +kernel
theorem d_F_failIfDue_8 : decode c_F_failIfDue 8 = .ok (.getfield 51, 3) := by decide +kernel
theorem d_F_failIfDue_11 : decode c_F_failIfDue 11 = .ok (.getfield 116, 3) := by decide +kernel
theorem d_F_failIfDue_14 : decode c_F_failIfDue 14 = .ok (.ifCond .eq 21, 3) := by decide +kernel
theorem d_F_failIfDue_17 : decode c_F_failIfDue 17 = .ok (.aload_n 2, 1) := by decide +kernel
theorem d_F_failIfDue_18 : decode c_F_failIfDue 18 = .ok (.getfield 77, 3) := by decide +kernel
theorem d_F_failIfDue_21 : decode c_F_failIfDue 21 = .ok (.aload_n 0, 1) := by decide +kernel
theorem d_F_failIfDue_22 : decode c_F_failIfDue 22 = .ok (.getfield 34, 3) := by decide +kernel
theorem d_F_failIfDue_25 : decode c_F_failIfDue 25 = .ok (.aload_n 2, 1) := by decide +kernel
theorem d_F_failIfDue_26 : decode c_F_failIfDue 26 = .ok (.getfield 68, 3) := by decide +kernel
theorem d_F_failIfDue_29 : decode c_F_failIfDue 29 = .ok (.invokevirtual 218, 3) := by decide +kernel
theorem d_F_failIfDue_32 : decode c_F_failIfDue 32 = .ok (.ifCond .ne 4, 3) := by decide +kernel
theorem d_F_failIfDue_35 : decode c_F_failIfDue 35 = .ok (.return_, 1) := by decide +kernel
theorem d_F_failIfDue_36 : decode c_F_failIfDue 36 = .ok (.aload_n 2, 1) := by decide +kernel
theorem d_F_failIfDue_37 : decode c_F_failIfDue 37 = .ok (.getfield 77, 3) := by decide +kernel
theorem d_F_failIfDue_40 : decode c_F_failIfDue 40 = .ok (.iconst 1, 1) := by decide +kernel
theorem d_F_failIfDue_41 : decode c_F_failIfDue 41 = .ok (.putfield 222, 3) := by decide +kernel
theorem d_F_failIfDue_44 : decode c_F_failIfDue 44 = .ok (.aload_n 0, 1) := by decide +kernel
theorem d_F_failIfDue_45 : decode c_F_failIfDue 45 = .ok (.getfield 26, 3) := by decide +kernel
theorem d_F_failIfDue_48 : decode c_F_failIfDue 48 = .ok (.bipush 6, 2) := by decide +kernel
theorem d_F_failIfDue_50 : decode c_F_failIfDue 50 = .ok (.iload_n 1, 1) := by decide +kernel
theorem d_F_failIfDue_51 : decode c_F_failIfDue 51 = .ok (.aload_n 0, 1) := by decide +kernel
theorem d_F_failIfDue_52 : decode c_F_failIfDue 52 = .ok (.getfield 34, 3) := by decide +kernel
theorem d_F_failIfDue_55 : decode c_F_failIfDue 55 = .ok (.invokevirtual 182, 3) := by decide +kernel
theorem d_F_failIfDue_58 : decode c_F_failIfDue 58 = .ok (.aload_n 2, 1) := by decide +kernel
theorem d_F_failIfDue_59 : decode c_F_failIfDue 59 = .ok (.getfield 134, 3) := by decide +kernel
theorem d_F_failIfDue_62 : decode c_F_failIfDue 62 = .ok (.istore_n 3, 1) := by decide +kernel
theorem d_F_failIfDue_63 : decode c_F_failIfDue 63 = .ok (.iload_n 3, 1) := by decide +kernel
theorem d_F_failIfDue_64 : decode c_F_failIfDue 64 = .ok (.iconst (-1), 1) := by decide +kernel
theorem d_F_failIfDue_65 : decode c_F_failIfDue 65 = .ok (.if_icmp .eq 49, 3) := by decide +kernel
theorem d_F_failIfDue_68 : decode c_F_failIfDue 68 = .ok (.aload_n 0, 1) := by decide +kernel
theorem d_F_failIfDue_69 : decode c_F_failIfDue 69 = .ok (.getfield 11, 3) := by decide +kernel
theorem d_F_failIfDue_72 : decode c_F_failIfDue 72 = .ok (.iload_n 3, 1) := by decide +kernel
theorem d_F_failIfDue_73 : decode c_F_failIfDue 73 = .ok (.aaload, 1) := by decide +kernel
theorem d_F_failIfDue_74 : decode c_F_failIfDue 74 = .ok (.getfield 77, 3) := by decide +kernel
theorem d_F_failIfDue_77 : decode c_F_failIfDue 77 = .ok (.invokevirtual 211, 3) := by decide +kernel
theorem d_F_failIfDue_80 : decode c_F_failIfDue 80 = .ok (.ifCond .eq 34, 3) := by decide +kernel
theorem d_F_failIfDue_83 : decode c_F_failIfDue 83 = .ok (.aload_n 0, 1) := by decide +kernel
theorem d_F_failIfDue_84 : decode c_F_failIfDue 84 = .ok (.getfield 11, 3) := by decide +kernel
theorem d_F_failIfDue_87 : decode c_F_failIfDue 87 = .ok (.iload_n 3, 1) := by decide +kernel
theorem d_F_failIfDue_88 : decode c_F_failIfDue 88 = .ok (.aaload, 1) := by decide +kernel
theorem d_F_failIfDue_89 : decode c_F_failIfDue 89 = .ok (.getfield 77, 3) := by decide +kernel
theorem d_F_failIfDue_92 : decode c_F_failIfDue 92 = .ok (.aload_n 0, 1) := by decide +kernel
theorem d_F_failIfDue_93 : decode c_F_failIfDue 93 = .ok (.getfield 34, 3) := by decide +kernel
theorem d_F_failIfDue_96 : decode c_F_failIfDue 96 = .ok (.iconst 0, 1) := by decide +kernel
theorem d_F_failIfDue_97 : decode c_F_failIfDue 97 = .ok (.invokevirtual 214, 3) := by decide +kernel
theorem d_F_failIfDue_100 : decode c_F_failIfDue 100 = .ok (.aload_n 0, 1) := by decide +kernel
theorem d_F_failIfDue_101 : decode c_F_failIfDue 101 = .ok (.getfield 26, 3) := by decide +kernel
theorem d_F_failIfDue_104 : decode c_F_failIfDue 104 = .ok (.bipush 7, 2) := by decide +kernel
theorem d_F_failIfDue_106 : decode c_F_failIfDue 106 = .ok (.iload_n 3, 1) := by decide +kernel
theorem d_F_failIfDue_107 : decode c_F_failIfDue 107 = .ok (.aload_n 0, 1) := by decide +kernel
theorem d_F_failIfDue_108 : decode c_F_failIfDue 108 = .ok (.getfield 34, 3) := by decide +kernel
theorem d_F_failIfDue_111 : decode c_F_failIfDue 111 = .ok (.invokevirtual 182, 3) := by decide +kernel
theorem d_F_failIfDue_114 : decode c_F_failIfDue 114 = .ok (.return_, 1) := by decide +kernel
theorem d_F_isBlocked_0 : decode c_F_isBlocked 0 = .ok (.aload_n 0, 1) := by decide +kernel
theorem d_F_isBlocked_1 : decode c_F_isBlocked 1 = .ok (.getfield 11, 3) := by decide +kernel
theorem d_F_isBlocked_4 : decode c_F_isBlocked 4 = .ok (.iload_n 1, 1) := by decide +kernel
theorem d_F_isBlocked_5 : decode c_F_isBlocked 5 = .ok (.aaload, 1) := by decide +kernel
theorem d_F_isBlocked_6 : decode c_F_isBlocked 6 = .ok (.getfield 61, 3) := by decide +kernel
theorem d_F_isBlocked_9 : decode c_F_isBlocked 9 = .ok (.ifCond .ne 5, 3) := by decide +kernel
theorem d_F_isBlocked_12 : decode c_F_isBlocked 12 = .ok (.iconst 0, 1) := by decide +kernel
theorem d_F_isBlocked_13 : decode c_F_isBlocked 13 = .ok (.ireturn, 1) := by decide +kernel
theorem d_F_isBlocked_14 : decode c_F_isBlocked 14 = .ok (.iload_n 1, 1) := by decide +kernel
theorem d_F_isBlocked_15 : decode c_F_isBlocked 15 = .ok (.iconst 1, 1) := by decide +kernel
theorem d_F_isBlocked_16 : decode c_F_isBlocked 16 = .ok (.iadd, 1) := by decide +kernel
theorem d_F_isBlocked_17 : decode c_F_isBlocked 17 = .ok (.istore_n 2, 1) := by decide +kernel
theorem d_F_isBlocked_18 : decode c_F_isBlocked 18 = .ok (.iload_n 2, 1) := by decide +kernel
theorem d_F_isBlocked_19 : decode c_F_isBlocked 19 = .ok (.aload_n 0, 1) := by decide +kernel
theorem d_F_isBlocked_20 : decode c_F_isBlocked 20 = .ok (.getfield 30, 3) := by decide +kernel
theorem d_F_isBlocked_23 : decode c_F_isBlocked 23 = .ok (.if_icmp .ge 43, 3) := by decide +kernel
theorem d_F_isBlocked_26 : decode c_F_isBlocked 26 = .ok (.aload_n 0, 1) := by decide +kernel
theorem d_F_isBlocked_27 : decode c_F_isBlocked 27 = .ok (.getfield 11, 3) := by decide +kernel
theorem d_F_isBlocked_30 : decode c_F_isBlocked 30 = .ok (.iload_n 2, 1) := by decide +kernel
theorem d_F_isBlocked_31 : decode c_F_isBlocked 31 = .ok (.aaload, 1) := by decide +kernel
theorem d_F_isBlocked_32 : decode c_F_isBlocked 32 = .ok (.getfield 134, 3) := by decide +kernel
theorem d_F_isBlocked_35 : decode c_F_isBlocked 35 = .ok (.iload_n 1, 1) := by decide +kernel
theorem d_F_isBlocked_36 : decode c_F_isBlocked 36 = .ok (.if_icmp .ne 24, 3) := by decide +kernel
theorem d_F_isBlocked_39 : decode c_F_isBlocked 39 = .ok (.aload_n 0, 1) := by decide +kernel
theorem d_F_isBlocked_40 : decode c_F_isBlocked 40 = .ok (.getfield 11, 3) := by decide +kernel
theorem d_F_isBlocked_43 : decode c_F_isBlocked 43 = .ok (.iload_n 2, 1) := by decide +kernel
theorem d_F_isBlocked_44 : decode c_F_isBlocked 44 = .ok (.aaload, 1) := by decide +kernel
theorem d_F_isBlocked_45 : decode c_F_isBlocked 45 = .ok (.getfield 86, 3) := by decide +kernel
theorem d_F_isBlocked_48 : decode c_F_isBlocked 48 = .ok (.aload_n 0, 1) := by decide +kernel
theorem d_F_isBlocked_49 : decode c_F_isBlocked 49 = .ok (.getfield 34, 3) := by decide +kernel
theorem d_F_isBlocked_52 : decode c_F_isBlocked 52 = .ok (.invokevirtual 225, 3) := by decide +kernel
theorem d_F_isBlocked_55 : decode c_F_isBlocked 55 = .ok (.ifCond .eq 5, 3) := by decide +kernel
theorem d_F_isBlocked_58 : decode c_F_isBlocked 58 = .ok (.iconst 1, 1) := by decide +kernel
theorem d_F_isBlocked_59 : decode c_F_isBlocked 59 = .ok (.ireturn, 1) := by decide +kernel
theorem d_F_isBlocked_60 : decode c_F_isBlocked 60 = .ok (.iinc 2 1, 3) := by decide +kernel
theorem d_F_isBlocked_63 : decode c_F_isBlocked 63 = .ok (.goto (-45), 3) := by decide +kernel
theorem d_F_isBlocked_66 : decode c_F_isBlocked 66 = .ok (.iconst 0, 1) := by decide +kernel
theorem d_F_isBlocked_67 : decode c_F_isBlocked 67 = .ok (.ireturn, 1) := by decide +kernel
theorem d_B_init_0 : decode c_B_init 0 = .ok (.aload_n 0, 1) := by decide +kernel
theorem d_B_init_1 : decode c_B_init 1 = .ok (.invokespecial 1, 3) := by decide +kernel
theorem d_B_init_4 : decode c_B_init 4 = .ok (.aload_n 0, 1) := by decide +kernel
theorem d_B_init_5 : decode c_B_init 5 = .ok (.iconst 1, 1) := by decide +kernel
theorem d_B_init_6 : decode c_B_init 6 = .ok (.putfield 7, 3) := by decide +kernel
theorem d_B_init_9 : decode c_B_init 9 = .ok (.return_, 1) := by decide +kernel
theorem d_B_takesOrder_0 : decode c_B_takesOrder 0 = .ok (.aload_n 0, 1) := by decide +kernel
theorem d_B_takesOrder_1 : decode c_B_takesOrder 1 = .ok (.getfield 7, 3) := by decide +kernel
theorem d_B_takesOrder_4 : decode c_B_takesOrder 4 = .ok (.ifCond .eq 14, 3) := by decide +kernel
theorem d_B_takesOrder_7 : decode c_B_takesOrder 7 = .ok (.aload_n 0, 1) := by decide +kernel
theorem d_B_takesOrder_8 : decode c_B_takesOrder 8 = .ok (.getfield 13, 3) := by decide +kernel
theorem d_B_takesOrder_11 : decode c_B_takesOrder 11 = .ok (.ifCond .ne 7, 3) := by decide +kernel
theorem d_B_takesOrder_14 : decode c_B_takesOrder 14 = .ok (.iconst 1, 1) := by decide +kernel
theorem d_B_takesOrder_15 : decode c_B_takesOrder 15 = .ok (.goto 4, 3) := by decide +kernel
theorem d_B_takesOrder_18 : decode c_B_takesOrder 18 = .ok (.iconst 0, 1) := by decide +kernel
theorem d_B_takesOrder_19 : decode c_B_takesOrder 19 = .ok (.ireturn, 1) := by decide +kernel
theorem d_B_giveOrder_0 : decode c_B_giveOrder 0 = .ok (.aload_n 0, 1) := by decide +kernel
theorem d_B_giveOrder_1 : decode c_B_giveOrder 1 = .ok (.iconst 1, 1) := by decide +kernel
theorem d_B_giveOrder_2 : decode c_B_giveOrder 2 = .ok (.putfield 13, 3) := by decide +kernel
theorem d_B_giveOrder_5 : decode c_B_giveOrder 5 = .ok (.aload_n 0, 1) := by decide +kernel
theorem d_B_giveOrder_6 : decode c_B_giveOrder 6 = .ok (.iload_n 2, 1) := by decide +kernel
theorem d_B_giveOrder_7 : decode c_B_giveOrder 7 = .ok (.putfield 16, 3) := by decide +kernel
theorem d_B_giveOrder_10 : decode c_B_giveOrder 10 = .ok (.aload_n 0, 1) := by decide +kernel
theorem d_B_giveOrder_11 : decode c_B_giveOrder 11 = .ok (.iload_n 1, 1) := by decide +kernel
theorem d_B_giveOrder_12 : decode c_B_giveOrder 12 = .ok (.putfield 19, 3) := by decide +kernel
theorem d_B_giveOrder_15 : decode c_B_giveOrder 15 = .ok (.aload_n 0, 1) := by decide +kernel
theorem d_B_giveOrder_16 : decode c_B_giveOrder 16 = .ok (.iconst 0, 1) := by decide +kernel
theorem d_B_giveOrder_17 : decode c_B_giveOrder 17 = .ok (.putfield 23, 3) := by decide +kernel
theorem d_B_giveOrder_20 : decode c_B_giveOrder 20 = .ok (.return_, 1) := by decide +kernel
theorem d_B_isOverdue_0 : decode c_B_isOverdue 0 = .ok (.aload_n 0, 1) := by decide +kernel
theorem d_B_isOverdue_1 : decode c_B_isOverdue 1 = .ok (.getfield 13, 3) := by decide +kernel
theorem d_B_isOverdue_4 : decode c_B_isOverdue 4 = .ok (.ifCond .eq 24, 3) := by decide +kernel
theorem d_B_isOverdue_7 : decode c_B_isOverdue 7 = .ok (.aload_n 0, 1) := by decide +kernel
theorem d_B_isOverdue_8 : decode c_B_isOverdue 8 = .ok (.getfield 23, 3) := by decide +kernel
theorem d_B_isOverdue_11 : decode c_B_isOverdue 11 = .ok (.ifCond .ne 17, 3) := by decide +kernel
theorem d_B_isOverdue_14 : decode c_B_isOverdue 14 = .ok (.iload_n 1, 1) := by decide +kernel
theorem d_B_isOverdue_15 : decode c_B_isOverdue 15 = .ok (.aload_n 0, 1) := by decide +kernel
theorem d_B_isOverdue_16 : decode c_B_isOverdue 16 = .ok (.getfield 19, 3) := by decide +kernel
theorem d_B_isOverdue_19 : decode c_B_isOverdue 19 = .ok (.isub, 1) := by decide +kernel
theorem d_B_isOverdue_20 : decode c_B_isOverdue 20 = .ok (.iload_n 2, 1) := by decide +kernel
theorem d_B_isOverdue_21 : decode c_B_isOverdue 21 = .ok (.if_icmp .lt 7, 3) := by decide +kernel
theorem d_B_isOverdue_24 : decode c_B_isOverdue 24 = .ok (.iconst 1, 1) := by decide +kernel
theorem d_B_isOverdue_25 : decode c_B_isOverdue 25 = .ok (.goto 4, 3) := by decide +kernel
theorem d_B_isOverdue_28 : decode c_B_isOverdue 28 = .ok (.iconst 0, 1) := by decide +kernel
theorem d_B_isOverdue_29 : decode c_B_isOverdue 29 = .ok (.ireturn, 1) := by decide +kernel
theorem d_B_mustOpen_0 : decode c_B_mustOpen 0 = .ok (.aload_n 0, 1) := by decide +kernel
theorem d_B_mustOpen_1 : decode c_B_mustOpen 1 = .ok (.getfield 13, 3) := by decide +kernel
theorem d_B_mustOpen_4 : decode c_B_mustOpen 4 = .ok (.ifCond .eq 24, 3) := by decide +kernel
theorem d_B_mustOpen_7 : decode c_B_mustOpen 7 = .ok (.aload_n 0, 1) := by decide +kernel
theorem d_B_mustOpen_8 : decode c_B_mustOpen 8 = .ok (.getfield 26, 3) := by decide +kernel
theorem d_B_mustOpen_11 : decode c_B_mustOpen 11 = .ok (.ifCond .ne 17, 3) := by decide +kernel
theorem d_B_mustOpen_14 : decode c_B_mustOpen 14 = .ok (.iload_n 1, 1) := by decide +kernel
theorem d_B_mustOpen_15 : decode c_B_mustOpen 15 = .ok (.aload_n 0, 1) := by decide +kernel
theorem d_B_mustOpen_16 : decode c_B_mustOpen 16 = .ok (.getfield 19, 3) := by decide +kernel
theorem d_B_mustOpen_19 : decode c_B_mustOpen 19 = .ok (.isub, 1) := by decide +kernel
theorem d_B_mustOpen_20 : decode c_B_mustOpen 20 = .ok (.iconst 2, 1) := by decide +kernel
theorem d_B_mustOpen_21 : decode c_B_mustOpen 21 = .ok (.if_icmp .lt 7, 3) := by decide +kernel
theorem d_B_mustOpen_24 : decode c_B_mustOpen 24 = .ok (.iconst 1, 1) := by decide +kernel
theorem d_B_mustOpen_25 : decode c_B_mustOpen 25 = .ok (.goto 4, 3) := by decide +kernel
theorem d_B_mustOpen_28 : decode c_B_mustOpen 28 = .ok (.iconst 0, 1) := by decide +kernel
theorem d_B_mustOpen_29 : decode c_B_mustOpen 29 = .ok (.ireturn, 1) := by decide +kernel
theorem d_B_open_0 : decode c_B_open 0 = .ok (.aload_n 0, 1) := by decide +kernel
theorem d_B_open_1 : decode c_B_open 1 = .ok (.iconst 0, 1) := by decide +kernel
theorem d_B_open_2 : decode c_B_open 2 = .ok (.putfield 7, 3) := by decide +kernel
theorem d_B_open_5 : decode c_B_open 5 = .ok (.aload_n 0, 1) := by decide +kernel
theorem d_B_open_6 : decode c_B_open 6 = .ok (.iconst 0, 1) := by decide +kernel
theorem d_B_open_7 : decode c_B_open 7 = .ok (.putfield 13, 3) := by decide +kernel
theorem d_B_open_10 : decode c_B_open 10 = .ok (.return_, 1) := by decide +kernel
theorem d_B_awaitClosing_0 : decode c_B_awaitClosing 0 = .ok (.aload_n 0, 1) := by decide +kernel
theorem d_B_awaitClosing_1 : decode c_B_awaitClosing 1 = .ok (.iconst 1, 1) := by decide +kernel
theorem d_B_awaitClosing_2 : decode c_B_awaitClosing 2 = .ok (.putfield 29, 3) := by decide +kernel
theorem d_B_awaitClosing_5 : decode c_B_awaitClosing 5 = .ok (.aload_n 0, 1) := by decide +kernel
theorem d_B_awaitClosing_6 : decode c_B_awaitClosing 6 = .ok (.iload_n 1, 1) := by decide +kernel
theorem d_B_awaitClosing_7 : decode c_B_awaitClosing 7 = .ok (.aload_n 0, 1) := by decide +kernel
theorem d_B_awaitClosing_8 : decode c_B_awaitClosing 8 = .ok (.getfield 32, 3) := by decide +kernel
theorem d_B_awaitClosing_11 : decode c_B_awaitClosing 11 = .ok (.invokestatic 35, 3) := by decide +kernel
theorem d_B_awaitClosing_14 : decode c_B_awaitClosing 14 = .ok (.iadd, 1) := by decide +kernel
theorem d_B_awaitClosing_15 : decode c_B_awaitClosing 15 = .ok (.putfield 39, 3) := by decide +kernel
theorem d_B_awaitClosing_18 : decode c_B_awaitClosing 18 = .ok (.return_, 1) := by decide +kernel
theorem d_B_mustClose_0 : decode c_B_mustClose 0 = .ok (.aload_n 0, 1) := by decide +kernel
theorem d_B_mustClose_1 : decode c_B_mustClose 1 = .ok (.getfield 29, 3) := by decide +kernel
theorem d_B_mustClose_4 : decode c_B_mustClose 4 = .ok (.ifCond .eq 15, 3) := by decide +kernel
theorem d_B_mustClose_7 : decode c_B_mustClose 7 = .ok (.iload_n 1, 1) := by decide +kernel
theorem d_B_mustClose_8 : decode c_B_mustClose 8 = .ok (.aload_n 0, 1) := by decide +kernel
theorem d_B_mustClose_9 : decode c_B_mustClose 9 = .ok (.getfield 39, 3) := by decide +kernel
theorem d_B_mustClose_12 : decode c_B_mustClose 12 = .ok (.if_icmp .lt 7, 3) := by decide +kernel
theorem d_B_mustClose_15 : decode c_B_mustClose 15 = .ok (.iconst 1, 1) := by decide +kernel
theorem d_B_mustClose_16 : decode c_B_mustClose 16 = .ok (.goto 4, 3) := by decide +kernel
theorem d_B_mustClose_19 : decode c_B_mustClose 19 = .ok (.iconst 0, 1) := by decide +kernel
theorem d_B_mustClose_20 : decode c_B_mustClose 20 = .ok (.ireturn, 1) := by decide +kernel
theorem d_B_closeAgain_0 : decode c_B_closeAgain 0 = .ok (.aload_n 0, 1) := by decide +kernel
theorem d_B_closeAgain_1 : decode c_B_closeAgain 1 = .ok (.iconst 1, 1) := by decide +kernel
theorem d_B_closeAgain_2 : decode c_B_closeAgain 2 = .ok (.putfield 7, 3) := by decide +kernel
theorem d_B_closeAgain_5 : decode c_B_closeAgain 5 = .ok (.aload_n 0, 1) := by decide +kernel
theorem d_B_closeAgain_6 : decode c_B_closeAgain 6 = .ok (.iconst 0, 1) := by decide +kernel
theorem d_B_closeAgain_7 : decode c_B_closeAgain 7 = .ok (.putfield 29, 3) := by decide +kernel
theorem d_B_closeAgain_10 : decode c_B_closeAgain 10 = .ok (.aload_n 0, 1) := by decide +kernel
theorem d_B_closeAgain_11 : decode c_B_closeAgain 11 = .ok (.dup, 1) := by decide +kernel
theorem d_B_closeAgain_12 : decode c_B_closeAgain 12 = .ok (.getfield 32, 3) := by decide +kernel
theorem d_B_closeAgain_15 : decode c_B_closeAgain 15 = .ok (.iconst 1, 1) := by decide +kernel
theorem d_B_closeAgain_16 : decode c_B_closeAgain 16 = .ok (.iadd, 1) := by decide +kernel
theorem d_B_closeAgain_17 : decode c_B_closeAgain 17 = .ok (.putfield 32, 3) := by decide +kernel
theorem d_B_closeAgain_20 : decode c_B_closeAgain 20 = .ok (.aload_n 0, 1) := by decide +kernel
theorem d_B_closeAgain_21 : decode c_B_closeAgain 21 = .ok (.iload_n 1, 1) := by decide +kernel
theorem d_B_closeAgain_22 : decode c_B_closeAgain 22 = .ok (.bipush 30, 2) := by decide +kernel
theorem d_B_closeAgain_24 : decode c_B_closeAgain 24 = .ok (.iadd, 1) := by decide +kernel
theorem d_B_closeAgain_25 : decode c_B_closeAgain 25 = .ok (.putfield 42, 3) := by decide +kernel
theorem d_B_closeAgain_28 : decode c_B_closeAgain 28 = .ok (.return_, 1) := by decide +kernel
theorem d_B_mustReclaim_0 : decode c_B_mustReclaim 0 = .ok (.aload_n 0, 1) := by decide +kernel
theorem d_B_mustReclaim_1 : decode c_B_mustReclaim 1 = .ok (.getfield 32, 3) := by decide +kernel
theorem d_B_mustReclaim_4 : decode c_B_mustReclaim 4 = .ok (.ifCond .le 29, 3) := by decide +kernel
theorem d_B_mustReclaim_7 : decode c_B_mustReclaim 7 = .ok (.aload_n 0, 1) := by decide +kernel
theorem d_B_mustReclaim_8 : decode c_B_mustReclaim 8 = .ok (.getfield 7, 3) := by decide +kernel
theorem d_B_mustReclaim_11 : decode c_B_mustReclaim 11 = .ok (.ifCond .eq 22, 3) := by decide +kernel
theorem d_B_mustReclaim_14 : decode c_B_mustReclaim 14 = .ok (.aload_n 0, 1) := by decide +kernel
theorem d_B_mustReclaim_15 : decode c_B_mustReclaim 15 = .ok (.getfield 13, 3) := by decide +kernel
theorem d_B_mustReclaim_18 : decode c_B_mustReclaim 18 = .ok (.ifCond .ne 15, 3) := by decide +kernel
theorem d_B_mustReclaim_21 : decode c_B_mustReclaim 21 = .ok (.iload_n 1, 1) := by decide +kernel
theorem d_B_mustReclaim_22 : decode c_B_mustReclaim 22 = .ok (.aload_n 0, 1) := by decide +kernel
theorem d_B_mustReclaim_23 : decode c_B_mustReclaim 23 = .ok (.getfield 42, 3) := by decide +kernel
theorem d_B_mustReclaim_26 : decode c_B_mustReclaim 26 = .ok (.if_icmp .lt 7, 3) := by decide +kernel
theorem d_B_mustReclaim_29 : decode c_B_mustReclaim 29 = .ok (.iconst 1, 1) := by decide +kernel
theorem d_B_mustReclaim_30 : decode c_B_mustReclaim 30 = .ok (.goto 4, 3) := by decide +kernel
theorem d_B_mustReclaim_33 : decode c_B_mustReclaim 33 = .ok (.iconst 0, 1) := by decide +kernel
theorem d_B_mustReclaim_34 : decode c_B_mustReclaim 34 = .ok (.ireturn, 1) := by decide +kernel
theorem d_B_forget_0 : decode c_B_forget 0 = .ok (.aload_n 0, 1) := by decide +kernel
theorem d_B_forget_1 : decode c_B_forget 1 = .ok (.iconst 0, 1) := by decide +kernel
theorem d_B_forget_2 : decode c_B_forget 2 = .ok (.putfield 13, 3) := by decide +kernel
theorem d_B_forget_5 : decode c_B_forget 5 = .ok (.aload_n 0, 1) := by decide +kernel
theorem d_B_forget_6 : decode c_B_forget 6 = .ok (.iconst 0, 1) := by decide +kernel
theorem d_B_forget_7 : decode c_B_forget 7 = .ok (.putfield 29, 3) := by decide +kernel
theorem d_B_forget_10 : decode c_B_forget 10 = .ok (.aload_n 0, 1) := by decide +kernel
theorem d_B_forget_11 : decode c_B_forget 11 = .ok (.iconst 0, 1) := by decide +kernel
theorem d_B_forget_12 : decode c_B_forget 12 = .ok (.putfield 32, 3) := by decide +kernel
theorem d_B_forget_15 : decode c_B_forget 15 = .ok (.aload_n 0, 1) := by decide +kernel
theorem d_B_forget_16 : decode c_B_forget 16 = .ok (.aload_n 0, 1) := by decide +kernel
theorem d_B_forget_17 : decode c_B_forget 17 = .ok (.getfield 7, 3) := by decide +kernel
theorem d_B_forget_20 : decode c_B_forget 20 = .ok (.ifCond .ne 7, 3) := by decide +kernel
theorem d_B_forget_23 : decode c_B_forget 23 = .ok (.iconst 1, 1) := by decide +kernel
theorem d_B_forget_24 : decode c_B_forget 24 = .ok (.goto 4, 3) := by decide +kernel
theorem d_B_forget_27 : decode c_B_forget 27 = .ok (.iconst 0, 1) := by decide +kernel
theorem d_B_forget_28 : decode c_B_forget 28 = .ok (.putfield 45, 3) := by decide +kernel
theorem d_B_forget_31 : decode c_B_forget 31 = .ok (.return_, 1) := by decide +kernel
theorem d_B_bits_0 : decode c_B_bits 0 = .ok (.aload_n 0, 1) := by decide +kernel
theorem d_B_bits_1 : decode c_B_bits 1 = .ok (.getfield 7, 3) := by decide +kernel
theorem d_B_bits_4 : decode c_B_bits 4 = .ok (.ifCond .eq 7, 3) := by decide +kernel
theorem d_B_bits_7 : decode c_B_bits 7 = .ok (.iconst 1, 1) := by decide +kernel
theorem d_B_bits_8 : decode c_B_bits 8 = .ok (.goto 4, 3) := by decide +kernel
theorem d_B_bits_11 : decode c_B_bits 11 = .ok (.iconst 0, 1) := by decide +kernel
theorem d_B_bits_12 : decode c_B_bits 12 = .ok (.istore_n 1, 1) := by decide +kernel
theorem d_B_bits_13 : decode c_B_bits 13 = .ok (.iload_n 1, 1) := by decide +kernel
theorem d_B_bits_14 : decode c_B_bits 14 = .ok (.aload_n 0, 1) := by decide +kernel
theorem d_B_bits_15 : decode c_B_bits 15 = .ok (.getfield 13, 3) := by decide +kernel
theorem d_B_bits_18 : decode c_B_bits 18 = .ok (.ifCond .eq 7, 3) := by decide +kernel
theorem d_B_bits_21 : decode c_B_bits 21 = .ok (.iconst 4, 1) := by decide +kernel
theorem d_B_bits_22 : decode c_B_bits 22 = .ok (.goto 4, 3) := by decide +kernel
theorem d_B_bits_25 : decode c_B_bits 25 = .ok (.iconst 0, 1) := by decide +kernel
theorem d_B_bits_26 : decode c_B_bits 26 = .ok (.iadd, 1) := by decide +kernel
theorem d_B_bits_27 : decode c_B_bits 27 = .ok (.istore_n 1, 1) := by decide +kernel
theorem d_B_bits_28 : decode c_B_bits 28 = .ok (.iload_n 1, 1) := by decide +kernel
theorem d_B_bits_29 : decode c_B_bits 29 = .ok (.aload_n 0, 1) := by decide +kernel
theorem d_B_bits_30 : decode c_B_bits 30 = .ok (.getfield 29, 3) := by decide +kernel
theorem d_B_bits_33 : decode c_B_bits 33 = .ok (.ifCond .eq 8, 3) := by decide +kernel
theorem d_B_bits_36 : decode c_B_bits 36 = .ok (.bipush 8, 2) := by decide +kernel
theorem d_B_bits_38 : decode c_B_bits 38 = .ok (.goto 4, 3) := by decide +kernel
theorem d_B_bits_41 : decode c_B_bits 41 = .ok (.iconst 0, 1) := by decide +kernel
theorem d_B_bits_42 : decode c_B_bits 42 = .ok (.iadd, 1) := by decide +kernel
theorem d_B_bits_43 : decode c_B_bits 43 = .ok (.istore_n 1, 1) := by decide +kernel
theorem d_B_bits_44 : decode c_B_bits 44 = .ok (.iload_n 1, 1) := by decide +kernel
theorem d_B_bits_45 : decode c_B_bits 45 = .ok (.aload_n 0, 1) := by decide +kernel
theorem d_B_bits_46 : decode c_B_bits 46 = .ok (.getfield 45, 3) := by decide +kernel
theorem d_B_bits_49 : decode c_B_bits 49 = .ok (.ifCond .eq 8, 3) := by decide +kernel
theorem d_B_bits_52 : decode c_B_bits 52 = .ok (.bipush 16, 2) := by decide +kernel
theorem d_B_bits_54 : decode c_B_bits 54 = .ok (.goto 4, 3) := by decide +kernel
theorem d_B_bits_57 : decode c_B_bits 57 = .ok (.iconst 0, 1) := by decide +kernel
theorem d_B_bits_58 : decode c_B_bits 58 = .ok (.iadd, 1) := by decide +kernel
theorem d_B_bits_59 : decode c_B_bits 59 = .ok (.istore_n 1, 1) := by decide +kernel
theorem d_B_bits_60 : decode c_B_bits 60 = .ok (.iload_n 1, 1) := by decide +kernel
theorem d_B_bits_61 : decode c_B_bits 61 = .ok (.aload_n 0, 1) := by decide +kernel
theorem d_B_bits_62 : decode c_B_bits 62 = .ok (.getfield 26, 3) := by decide +kernel
theorem d_B_bits_65 : decode c_B_bits 65 = .ok (.ifCond .eq 8, 3) := by decide +kernel
theorem d_B_bits_68 : decode c_B_bits 68 = .ok (.bipush 32, 2) := by decide +kernel
theorem d_B_bits_70 : decode c_B_bits 70 = .ok (.goto 4, 3) := by decide +kernel
theorem d_B_bits_73 : decode c_B_bits 73 = .ok (.iconst 0, 1) := by decide +kernel
theorem d_B_bits_74 : decode c_B_bits 74 = .ok (.iadd, 1) := by decide +kernel
theorem d_B_bits_75 : decode c_B_bits 75 = .ok (.istore_n 1, 1) := by decide +kernel
theorem d_B_bits_76 : decode c_B_bits 76 = .ok (.iload_n 1, 1) := by decide +kernel
theorem d_B_bits_77 : decode c_B_bits 77 = .ok (.ireturn, 1) := by decide +kernel
theorem d_B_pauseAfter_0 : decode c_B_pauseAfter 0 = .ok (.iload_n 0, 1) := by decide +kernel
theorem d_B_pauseAfter_1 : decode c_B_pauseAfter 1 = .ok (.ifCond .ne 5, 3) := by decide +kernel
theorem d_B_pauseAfter_4 : decode c_B_pauseAfter 4 = .ok (.iconst 5, 1) := by decide +kernel
theorem d_B_pauseAfter_5 : decode c_B_pauseAfter 5 = .ok (.ireturn, 1) := by decide +kernel
theorem d_B_pauseAfter_6 : decode c_B_pauseAfter 6 = .ok (.iload_n 0, 1) := by decide +kernel
theorem d_B_pauseAfter_7 : decode c_B_pauseAfter 7 = .ok (.iconst 1, 1) := by decide +kernel
theorem d_B_pauseAfter_8 : decode c_B_pauseAfter 8 = .ok (.if_icmp .ne 8, 3) := by decide +kernel
theorem d_B_pauseAfter_11 : decode c_B_pauseAfter 11 = .ok (.bipush 20, 2) := by decide +kernel
theorem d_B_pauseAfter_13 : decode c_B_pauseAfter 13 = .ok (.goto 5, 3) := by decide +kernel
theorem d_B_pauseAfter_16 : decode c_B_pauseAfter 16 = .ok (.bipush 50, 2) := by decide +kernel
theorem d_B_pauseAfter_18 : decode c_B_pauseAfter 18 = .ok (.ireturn, 1) := by decide +kernel
theorem d_J_init_0 : decode c_J_init 0 = .ok (.aload_n 0, 1) := by decide +kernel
theorem d_J_init_1 : decode c_J_init 1 = .ok (.invokespecial 1, 3) := by decide +kernel
theorem d_J_init_4 : decode c_J_init 4 = .ok (.aload_n 0, 1) := by decide +kernel
theorem d_J_init_5 : decode c_J_init 5 = .ok (.sipush 200, 3) := by decide +kernel
theorem d_J_init_8 : decode c_J_init 8 = .ok (.newarray .int, 2) := by decide +kernel
theorem d_J_init_10 : decode c_J_init 10 = .ok (.putfield 9, 3) := by decide +kernel
theorem d_J_init_13 : decode c_J_init 13 = .ok (.aload_n 0, 1) := by decide +kernel
theorem d_J_init_14 : decode c_J_init 14 = .ok (.sipush 200, 3) := by decide +kernel
theorem d_J_init_17 : decode c_J_init 17 = .ok (.newarray .int, 2) := by decide +kernel
theorem d_J_init_19 : decode c_J_init 19 = .ok (.putfield 13, 3) := by decide +kernel
theorem d_J_init_22 : decode c_J_init 22 = .ok (.return_, 1) := by decide +kernel
theorem d_J_add_0 : decode c_J_add 0 = .ok (.aload_n 0, 1) := by decide +kernel
theorem d_J_add_1 : decode c_J_add 1 = .ok (.getfield 16, 3) := by decide +kernel
theorem d_J_add_4 : decode c_J_add 4 = .ok (.sipush 200, 3) := by decide +kernel
theorem d_J_add_7 : decode c_J_add 7 = .ok (.if_icmp .ge 38, 3) := by decide +kernel
theorem d_J_add_10 : decode c_J_add 10 = .ok (.aload_n 0, 1) := by decide +kernel
theorem d_J_add_11 : decode c_J_add 11 = .ok (.getfield 9, 3) := by decide +kernel
theorem d_J_add_14 : decode c_J_add 14 = .ok (.aload_n 0, 1) := by decide +kernel
theorem d_J_add_15 : decode c_J_add 15 = .ok (.getfield 16, 3) := by decide +kernel
theorem d_J_add_18 : decode c_J_add 18 = .ok (.iload_n 1, 1) := by decide +kernel
theorem d_J_add_19 : decode c_J_add 19 = .ok (.bipush 8, 2) := by decide +kernel
theorem d_J_add_21 : decode c_J_add 21 = .ok (.iload_n 2, 1) := by decide +kernel
theorem d_J_add_22 : decode c_J_add 22 = .ok (.imul, 1) := by decide +kernel
theorem d_J_add_23 : decode c_J_add 23 = .ok (.iadd, 1) := by decide +kernel
theorem d_J_add_24 : decode c_J_add 24 = .ok (.iastore, 1) := by decide +kernel
theorem d_J_add_25 : decode c_J_add 25 = .ok (.aload_n 0, 1) := by decide +kernel
theorem d_J_add_26 : decode c_J_add 26 = .ok (.getfield 13, 3) := by decide +kernel
theorem d_J_add_29 : decode c_J_add 29 = .ok (.aload_n 0, 1) := by decide +kernel
theorem d_J_add_30 : decode c_J_add 30 = .ok (.getfield 16, 3) := by decide +kernel
theorem d_J_add_33 : decode c_J_add 33 = .ok (.iload_n 3, 1) := by decide +kernel
theorem d_J_add_34 : decode c_J_add 34 = .ok (.iastore, 1) := by decide +kernel
theorem d_J_add_35 : decode c_J_add 35 = .ok (.aload_n 0, 1) := by decide +kernel
theorem d_J_add_36 : decode c_J_add 36 = .ok (.dup, 1) := by decide +kernel
theorem d_J_add_37 : decode c_J_add 37 = .ok (.getfield 16, 3) := by decide +kernel
theorem d_J_add_40 : decode c_J_add 40 = .ok (.iconst 1, 1) := by decide +kernel
theorem d_J_add_41 : decode c_J_add 41 = .ok (.iadd, 1) := by decide +kernel
theorem d_J_add_42 : decode c_J_add 42 = .ok (.putfield 16, 3) := by decide +kernel
theorem d_J_add_45 : decode c_J_add 45 = .ok (.return_, 1) := by decide +kernel
theorem d_J_has_0 : decode c_J_has 0 = .ok (.iload_n 1, 1) := by decide +kernel
theorem d_J_has_1 : decode c_J_has 1 = .ok (.ifCond .lt 15, 3) := by decide +kernel
theorem d_J_has_4 : decode c_J_has 4 = .ok (.iload_n 1, 1) := by decide +kernel
theorem d_J_has_5 : decode c_J_has 5 = .ok (.aload_n 0, 1) := by decide +kernel
theorem d_J_has_6 : decode c_J_has 6 = .ok (.getfield 16, 3) := by decide +kernel
theorem d_J_has_9 : decode c_J_has 9 = .ok (.if_icmp .ge 7, 3) := by decide +kernel
theorem d_J_has_12 : decode c_J_has 12 = .ok (.iconst 1, 1) := by decide +kernel
theorem d_J_has_13 : decode c_J_has 13 = .ok (.goto 4, 3) := by decide +kernel
theorem d_J_has_16 : decode c_J_has 16 = .ok (.iconst 0, 1) := by decide +kernel
theorem d_J_has_17 : decode c_J_has 17 = .ok (.ireturn, 1) := by decide +kernel
theorem d_J_store_0 : decode c_J_store 0 = .ok (.aload_n 0, 1) := by decide +kernel
theorem d_J_store_1 : decode c_J_store 1 = .ok (.aload_n 0, 1) := by decide +kernel
theorem d_J_store_2 : decode c_J_store 2 = .ok (.getfield 20, 3) := by decide +kernel
theorem d_J_store_5 : decode c_J_store 5 = .ok (.iconst 2, 1) := by decide +kernel
theorem d_J_store_6 : decode c_J_store 6 = .ok (.iadd, 1) := by decide +kernel
theorem d_J_store_7 : decode c_J_store 7 = .ok (.aload_n 0, 1) := by decide +kernel
theorem d_J_store_8 : decode c_J_store 8 = .ok (.getfield 16, 3) := by decide +kernel
theorem d_J_store_11 : decode c_J_store 11 = .ok (.invokestatic 23, 3) := by decide +kernel
theorem d_J_store_14 : decode c_J_store 14 = .ok (.putfield 20, 3) := by decide +kernel
theorem d_J_store_17 : decode c_J_store 17 = .ok (.return_, 1) := by decide +kernel
theorem d_J_dropUnstored_0 : decode c_J_dropUnstored 0 = .ok (.aload_n 0, 1) := by decide +kernel
theorem d_J_dropUnstored_1 : decode c_J_dropUnstored 1 = .ok (.getfield 16, 3) := by decide +kernel
theorem d_J_dropUnstored_4 : decode c_J_dropUnstored 4 = .ok (.aload_n 0, 1) := by decide +kernel
theorem d_J_dropUnstored_5 : decode c_J_dropUnstored 5 = .ok (.getfield 20, 3) := by decide +kernel
theorem d_J_dropUnstored_8 : decode c_J_dropUnstored 8 = .ok (.isub, 1) := by decide +kernel
theorem d_J_dropUnstored_9 : decode c_J_dropUnstored 9 = .ok (.istore_n 1, 1) := by decide +kernel
theorem d_J_dropUnstored_10 : decode c_J_dropUnstored 10 = .ok (.aload_n 0, 1) := by decide +kernel
theorem d_J_dropUnstored_11 : decode c_J_dropUnstored 11 = .ok (.aload_n 0, 1) := by decide +kernel
theorem d_J_dropUnstored_12 : decode c_J_dropUnstored 12 = .ok (.getfield 20, 3) := by decide +kernel
theorem d_J_dropUnstored_15 : decode c_J_dropUnstored 15 = .ok (.putfield 16, 3) := by decide +kernel
theorem d_J_dropUnstored_18 : decode c_J_dropUnstored 18 = .ok (.iload_n 1, 1) := by decide +kernel
theorem d_J_dropUnstored_19 : decode c_J_dropUnstored 19 = .ok (.ireturn, 1) := by decide +kernel
theorem d_M_init_0 : decode c_M_init 0 = .ok (.aload_n 0, 1) := by decide +kernel
theorem d_M_init_1 : decode c_M_init 1 = .ok (.invokespecial 1, 3) := by decide +kernel
theorem d_M_init_4 : decode c_M_init 4 = .ok (.aload_n 0, 1) := by decide +kernel
theorem d_M_init_5 : decode c_M_init 5 = .ok (.iconst 4, 1) := by decide +kernel
theorem d_M_init_6 : decode c_M_init 6 = .ok (.newarray .int, 2) := by decide +kernel
theorem d_M_init_8 : decode c_M_init 8 = .ok (.putfield 9, 3) := by decide +kernel
theorem d_M_init_11 : decode c_M_init 11 = .ok (.aload_n 0, 1) := by decide +kernel
theorem d_M_init_12 : decode c_M_init 12 = .ok (.bipush 100, 2) := by decide +kernel
theorem d_M_init_14 : decode c_M_init 14 = .ok (.putfield 13, 3) := by decide +kernel
theorem d_M_init_17 : decode c_M_init 17 = .ok (.aload_n 0, 1) := by decide +kernel
theorem d_M_init_18 : decode c_M_init 18 = .ok (.iconst 5, 1) := by decide +kernel
theorem d_M_init_19 : decode c_M_init 19 = .ok (.putfield 17, 3) := by decide +kernel
theorem d_M_init_22 : decode c_M_init 22 = .ok (.return_, 1) := by decide +kernel
theorem d_M_set_0 : decode c_M_set 0 = .ok (.aload_n 0, 1) := by decide +kernel
theorem d_M_set_1 : decode c_M_set 1 = .ok (.iload_n 1, 1) := by decide +kernel
theorem d_M_set_2 : decode c_M_set 2 = .ok (.putfield 20, 3) := by decide +kernel
theorem d_M_set_5 : decode c_M_set 5 = .ok (.aload_n 0, 1) := by decide +kernel
theorem d_M_set_6 : decode c_M_set 6 = .ok (.iload_n 2, 1) := by decide +kernel
theorem d_M_set_7 : decode c_M_set 7 = .ok (.putfield 13, 3) := by decide +kernel
theorem d_M_set_10 : decode c_M_set 10 = .ok (.aload_n 0, 1) := by decide +kernel
theorem d_M_set_11 : decode c_M_set 11 = .ok (.iload_n 3, 1) := by decide +kernel
theorem d_M_set_12 : decode c_M_set 12 = .ok (.putfield 17, 3) := by decide +kernel
theorem d_M_set_15 : decode c_M_set 15 = .ok (.return_, 1) := by decide +kernel
theorem d_M_measure_0 : decode c_M_measure 0 = .ok (.aload_n 0, 1) := by decide +kernel
theorem d_M_measure_1 : decode c_M_measure 1 = .ok (.getfield 9, 3) := by decide +kernel
theorem d_M_measure_4 : decode c_M_measure 4 = .ok (.aload_n 0, 1) := by decide +kernel
theorem d_M_measure_5 : decode c_M_measure 5 = .ok (.getfield 23, 3) := by decide +kernel
theorem d_M_measure_8 : decode c_M_measure 8 = .ok (.iload_n 1, 1) := by decide +kernel
theorem d_M_measure_9 : decode c_M_measure 9 = .ok (.iastore, 1) := by decide +kernel
theorem d_M_measure_10 : decode c_M_measure 10 = .ok (.aload_n 0, 1) := by decide +kernel
theorem d_M_measure_11 : decode c_M_measure 11 = .ok (.aload_n 0, 1) := by decide +kernel
theorem d_M_measure_12 : decode c_M_measure 12 = .ok (.getfield 23, 3) := by decide +kernel
theorem d_M_measure_15 : decode c_M_measure 15 = .ok (.iconst 1, 1) := by decide +kernel
theorem d_M_measure_16 : decode c_M_measure 16 = .ok (.iadd, 1) := by decide +kernel
theorem d_M_measure_17 : decode c_M_measure 17 = .ok (.iconst 4, 1) := by decide +kernel
theorem d_M_measure_18 : decode c_M_measure 18 = .ok (.irem, 1) := by decide +kernel
theorem d_M_measure_19 : decode c_M_measure 19 = .ok (.putfield 23, 3) := by decide +kernel
theorem d_M_measure_22 : decode c_M_measure 22 = .ok (.aload_n 0, 1) := by decide +kernel
theorem d_M_measure_23 : decode c_M_measure 23 = .ok (.aload_n 0, 1) := by decide +kernel
theorem d_M_measure_24 : decode c_M_measure 24 = .ok (.invokevirtual 26, 3) := by decide +kernel
theorem d_M_measure_27 : decode c_M_measure 27 = .ok (.putfield 30, 3) := by decide +kernel
theorem d_M_measure_30 : decode c_M_measure 30 = .ok (.aload_n 0, 1) := by decide +kernel
theorem d_M_measure_31 : decode c_M_measure 31 = .ok (.aload_n 0, 1) := by decide +kernel
theorem d_M_measure_32 : decode c_M_measure 32 = .ok (.getfield 30, 3) := by decide +kernel
theorem d_M_measure_35 : decode c_M_measure 35 = .ok (.aload_n 0, 1) := by decide +kernel
theorem d_M_measure_36 : decode c_M_measure 36 = .ok (.getfield 13, 3) := by decide +kernel
theorem d_M_measure_39 : decode c_M_measure 39 = .ok (.if_icmp .le 7, 3) := by decide +kernel
theorem d_M_measure_42 : decode c_M_measure 42 = .ok (.iconst 1, 1) := by decide +kernel
theorem d_M_measure_43 : decode c_M_measure 43 = .ok (.goto 4, 3) := by decide +kernel
theorem d_M_measure_46 : decode c_M_measure 46 = .ok (.iconst 0, 1) := by decide +kernel
theorem d_M_measure_47 : decode c_M_measure 47 = .ok (.putfield 33, 3) := by decide +kernel
theorem d_M_measure_50 : decode c_M_measure 50 = .ok (.aload_n 0, 1) := by decide +kernel
theorem d_M_measure_51 : decode c_M_measure 51 = .ok (.aload_n 0, 1) := by decide +kernel
theorem d_M_measure_52 : decode c_M_measure 52 = .ok (.getfield 33, 3) := by decide +kernel
theorem d_M_measure_55 : decode c_M_measure 55 = .ok (.ifCond .eq 15, 3) := by decide +kernel
theorem d_M_measure_58 : decode c_M_measure 58 = .ok (.aload_n 0, 1) := by decide +kernel
theorem d_M_measure_59 : decode c_M_measure 59 = .ok (.getfield 37, 3) := by decide +kernel
theorem d_M_measure_62 : decode c_M_measure 62 = .ok (.aload_n 0, 1) := by decide +kernel
theorem d_M_measure_63 : decode c_M_measure 63 = .ok (.invokevirtual 41, 3) := by decide +kernel
theorem d_M_measure_66 : decode c_M_measure 66 = .ok (.ladd, 1) := by decide +kernel
theorem d_M_measure_67 : decode c_M_measure 67 = .ok (.goto 4, 3) := by decide +kernel
theorem d_M_measure_70 : decode c_M_measure 70 = .ok (.lconst 0, 1) := by decide +kernel
theorem d_M_measure_71 : decode c_M_measure 71 = .ok (.putfield 37, 3) := by decide +kernel
theorem d_M_measure_74 : decode c_M_measure 74 = .ok (.return_, 1) := by decide +kernel
theorem d_M_isOverLimit_0 : decode c_M_isOverLimit 0 = .ok (.aload_n 0, 1) := by decide +kernel
theorem d_M_isOverLimit_1 : decode c_M_isOverLimit 1 = .ok (.getfield 33, 3) := by decide +kernel
theorem d_M_isOverLimit_4 : decode c_M_isOverLimit 4 = .ok (.ifCond .eq 19, 3) := by decide +kernel
theorem d_M_isOverLimit_7 : decode c_M_isOverLimit 7 = .ok (.aload_n 0, 1) := by decide +kernel
theorem d_M_isOverLimit_8 : decode c_M_isOverLimit 8 = .ok (.getfield 37, 3) := by decide +kernel
theorem d_M_isOverLimit_11 : decode c_M_isOverLimit 11 = .ok (.aload_n 0, 1) := by decide +kernel
theorem d_M_isOverLimit_12 : decode c_M_isOverLimit 12 = .ok (.invokevirtual 45, 3) := by decide +kernel
theorem d_M_isOverLimit_15 : decode c_M_isOverLimit 15 = .ok (.lcmp, 1) := by decide +kernel
theorem d_M_isOverLimit_16 : decode c_M_isOverLimit 16 = .ok (.ifCond .lt 7, 3) := by decide +kernel
theorem d_M_isOverLimit_19 : decode c_M_isOverLimit 19 = .ok (.iconst 1, 1) := by decide +kernel
theorem d_M_isOverLimit_20 : decode c_M_isOverLimit 20 = .ok (.goto 4, 3) := by decide +kernel
theorem d_M_isOverLimit_23 : decode c_M_isOverLimit 23 = .ok (.iconst 0, 1) := by decide +kernel
theorem d_M_isOverLimit_24 : decode c_M_isOverLimit 24 = .ok (.ireturn, 1) := by decide +kernel
theorem d_M_forget_0 : decode c_M_forget 0 = .ok (.aload_n 0, 1) := by decide +kernel
theorem d_M_forget_1 : decode c_M_forget 1 = .ok (.getfield 9, 3) := by decide +kernel
theorem d_M_forget_4 : decode c_M_forget 4 = .ok (.iconst 0, 1) := by decide +kernel
theorem d_M_forget_5 : decode c_M_forget 5 = .ok (.invokestatic 48, 3) := by decide +kernel
theorem d_M_forget_8 : decode c_M_forget 8 = .ok (.aload_n 0, 1) := by decide +kernel
theorem d_M_forget_9 : decode c_M_forget 9 = .ok (.iconst 0, 1) := by decide +kernel
theorem d_M_forget_10 : decode c_M_forget 10 = .ok (.putfield 30, 3) := by decide +kernel
theorem d_M_forget_13 : decode c_M_forget 13 = .ok (.aload_n 0, 1) := by decide +kernel
theorem d_M_forget_14 : decode c_M_forget 14 = .ok (.iconst 0, 1) := by decide +kernel
theorem d_M_forget_15 : decode c_M_forget 15 = .ok (.putfield 33, 3) := by decide +kernel
theorem d_M_forget_18 : decode c_M_forget 18 = .ok (.aload_n 0, 1) := by decide +kernel
theorem d_M_forget_19 : decode c_M_forget 19 = .ok (.lconst 0, 1) := by decide +kernel
theorem d_M_forget_20 : decode c_M_forget 20 = .ok (.putfield 37, 3) := by decide +kernel
theorem d_M_forget_23 : decode c_M_forget 23 = .ok (.return_, 1) := by decide +kernel
theorem d_M_growth_0 : decode c_M_growth 0 = .ok (.aload_n 0, 1) := by decide +kernel
theorem d_M_growth_1 : decode c_M_growth 1 = .ok (.getfield 20, 3) := by decide +kernel
theorem d_M_growth_4 : decode c_M_growth 4 = .ok (.ifCond .ne 5, 3) := by decide +kernel
theorem d_M_growth_7 : decode c_M_growth 7 = .ok (.lconst 1, 1) := by decide +kernel
theorem d_M_growth_8 : decode c_M_growth 8 = .ok (.lreturn, 1) := by decide +kernel
theorem d_M_growth_9 : decode c_M_growth 9 = .ok (.aload_n 0, 1) := by decide +kernel
theorem d_M_growth_10 : decode c_M_growth 10 = .ok (.getfield 20, 3) := by decide +kernel
theorem d_M_growth_13 : decode c_M_growth 13 = .ok (.iconst 1, 1) := by decide +kernel
theorem d_M_growth_14 : decode c_M_growth 14 = .ok (.if_icmp .ne 14, 3) := by decide +kernel
theorem d_M_growth_17 : decode c_M_growth 17 = .ok (.aload_n 0, 1) := by decide +kernel
theorem d_M_growth_18 : decode c_M_growth 18 = .ok (.getfield 30, 3) := by decide +kernel
theorem d_M_growth_21 : decode c_M_growth 21 = .ok (.aload_n 0, 1) := by decide +kernel
theorem d_M_growth_22 : decode c_M_growth 22 = .ok (.getfield 13, 3) := by decide +kernel
theorem d_M_growth_25 : decode c_M_growth 25 = .ok (.isub, 1) := by decide +kernel
theorem d_M_growth_26 : decode c_M_growth 26 = .ok (.i2l, 1) := by decide +kernel
theorem d_M_growth_27 : decode c_M_growth 27 = .ok (.lreturn, 1) := by decide +kernel
theorem d_M_growth_28 : decode c_M_growth 28 = .ok (.aload_n 0, 1) := by decide +kernel
theorem d_M_growth_29 : decode c_M_growth 29 = .ok (.getfield 30, 3) := by decide +kernel
theorem d_M_growth_32 : decode c_M_growth 32 = .ok (.i2l, 1) := by decide +kernel
theorem d_M_growth_33 : decode c_M_growth 33 = .ok (.aload_n 0, 1) := by decide +kernel
theorem d_M_growth_34 : decode c_M_growth 34 = .ok (.getfield 30, 3) := by decide +kernel
theorem d_M_growth_37 : decode c_M_growth 37 = .ok (.i2l, 1) := by decide +kernel
theorem d_M_growth_38 : decode c_M_growth 38 = .ok (.lmul, 1) := by decide +kernel
theorem d_M_growth_39 : decode c_M_growth 39 = .ok (.aload_n 0, 1) := by decide +kernel
theorem d_M_growth_40 : decode c_M_growth 40 = .ok (.getfield 13, 3) := by decide +kernel
theorem d_M_growth_43 : decode c_M_growth 43 = .ok (.i2l, 1) := by decide +kernel
theorem d_M_growth_44 : decode c_M_growth 44 = .ok (.aload_n 0, 1) := by decide +kernel
theorem d_M_growth_45 : decode c_M_growth 45 = .ok (.getfield 13, 3) := by decide +kernel
theorem d_M_growth_48 : decode c_M_growth 48 = .ok (.i2l, 1) := by decide +kernel
theorem d_M_growth_49 : decode c_M_growth 49 = .ok (.lmul, 1) := by decide +kernel
theorem d_M_growth_50 : decode c_M_growth 50 = .ok (.lsub, 1) := by decide +kernel
theorem d_M_growth_51 : decode c_M_growth 51 = .ok (.lreturn, 1) := by decide +kernel
theorem d_M_limit_0 : decode c_M_limit 0 = .ok (.aload_n 0, 1) := by decide +kernel
theorem d_M_limit_1 : decode c_M_limit 1 = .ok (.getfield 20, 3) := by decide +kernel
theorem d_M_limit_4 : decode c_M_limit 4 = .ok (.ifCond .ne 9, 3) := by decide +kernel
theorem d_M_limit_7 : decode c_M_limit 7 = .ok (.aload_n 0, 1) := by decide +kernel
theorem d_M_limit_8 : decode c_M_limit 8 = .ok (.getfield 17, 3) := by decide +kernel
theorem d_M_limit_11 : decode c_M_limit 11 = .ok (.i2l, 1) := by decide +kernel
theorem d_M_limit_12 : decode c_M_limit 12 = .ok (.lreturn, 1) := by decide +kernel
theorem d_M_limit_13 : decode c_M_limit 13 = .ok (.aload_n 0, 1) := by decide +kernel
theorem d_M_limit_14 : decode c_M_limit 14 = .ok (.getfield 20, 3) := by decide +kernel
theorem d_M_limit_17 : decode c_M_limit 17 = .ok (.iconst 1, 1) := by decide +kernel
theorem d_M_limit_18 : decode c_M_limit 18 = .ok (.if_icmp .ne 15, 3) := by decide +kernel
theorem d_M_limit_21 : decode c_M_limit 21 = .ok (.aload_n 0, 1) := by decide +kernel
theorem d_M_limit_22 : decode c_M_limit 22 = .ok (.getfield 17, 3) := by decide +kernel
theorem d_M_limit_25 : decode c_M_limit 25 = .ok (.i2l, 1) := by decide +kernel
theorem d_M_limit_26 : decode c_M_limit 26 = .ok (.aload_n 0, 1) := by decide +kernel
theorem d_M_limit_27 : decode c_M_limit 27 = .ok (.getfield 13, 3) := by decide +kernel
theorem d_M_limit_30 : decode c_M_limit 30 = .ok (.i2l, 1) := by decide +kernel
theorem d_M_limit_31 : decode c_M_limit 31 = .ok (.lmul, 1) := by decide +kernel
theorem d_M_limit_32 : decode c_M_limit 32 = .ok (.lreturn, 1) := by decide +kernel
theorem d_M_limit_33 : decode c_M_limit 33 = .ok (.aload_n 0, 1) := by decide +kernel
theorem d_M_limit_34 : decode c_M_limit 34 = .ok (.getfield 17, 3) := by decide +kernel
theorem d_M_limit_37 : decode c_M_limit 37 = .ok (.i2l, 1) := by decide +kernel
theorem d_M_limit_38 : decode c_M_limit 38 = .ok (.aload_n 0, 1) := by decide +kernel
theorem d_M_limit_39 : decode c_M_limit 39 = .ok (.getfield 13, 3) := by decide +kernel
theorem d_M_limit_42 : decode c_M_limit 42 = .ok (.i2l, 1) := by decide +kernel
theorem d_M_limit_43 : decode c_M_limit 43 = .ok (.lmul, 1) := by decide +kernel
theorem d_M_limit_44 : decode c_M_limit 44 = .ok (.aload_n 0, 1) := by decide +kernel
theorem d_M_limit_45 : decode c_M_limit 45 = .ok (.getfield 13, 3) := by decide +kernel
theorem d_M_limit_48 : decode c_M_limit 48 = .ok (.i2l, 1) := by decide +kernel
theorem d_M_limit_49 : decode c_M_limit 49 = .ok (.lmul, 1) := by decide +kernel
theorem d_M_limit_50 : decode c_M_limit 50 = .ok (.lreturn, 1) := by decide +kernel
theorem d_M_rootOfMeanSquare_0 : decode c_M_rootOfMeanSquare 0 = .ok (.lconst 0, 1) := by decide +kernel
theorem d_M_rootOfMeanSquare_1 : decode c_M_rootOfMeanSquare 1 = .ok (.lstore_n 1, 1) := by decide +kernel
theorem d_M_rootOfMeanSquare_2 : decode c_M_rootOfMeanSquare 2 = .ok (.iconst 0, 1) := by decide +kernel
theorem d_M_rootOfMeanSquare_3 : decode c_M_rootOfMeanSquare 3 = .ok (.istore_n 3, 1) := by decide +kernel
theorem d_M_rootOfMeanSquare_4 : decode c_M_rootOfMeanSquare 4 = .ok (.iload_n 3, 1) := by decide +kernel
theorem d_M_rootOfMeanSquare_5 : decode c_M_rootOfMeanSquare 5 = .ok (.iconst 4, 1) := by decide +kernel
theorem d_M_rootOfMeanSquare_6 : decode c_M_rootOfMeanSquare 6 = .ok (.if_icmp .ge 27, 3) := by decide +kernel
theorem d_M_rootOfMeanSquare_9 : decode c_M_rootOfMeanSquare 9 = .ok (.lload_n 1, 1) := by decide +kernel
theorem d_M_rootOfMeanSquare_10 : decode c_M_rootOfMeanSquare 10 = .ok (.aload_n 0, 1) := by decide +kernel
theorem d_M_rootOfMeanSquare_11 : decode c_M_rootOfMeanSquare 11 = .ok (.getfield 9, 3) := by decide +kernel
theorem d_M_rootOfMeanSquare_14 : decode c_M_rootOfMeanSquare 14 = .ok (.iload_n 3, 1) := by decide +kernel
theorem d_M_rootOfMeanSquare_15 : decode c_M_rootOfMeanSquare 15 = .ok (.iaload, 1) := by decide +kernel
theorem d_M_rootOfMeanSquare_16 : decode c_M_rootOfMeanSquare 16 = .ok (.i2l, 1) := by decide +kernel
theorem d_M_rootOfMeanSquare_17 : decode c_M_rootOfMeanSquare 17 = .ok (.aload_n 0, 1) := by decide +kernel
theorem d_M_rootOfMeanSquare_18 : decode c_M_rootOfMeanSquare 18 = .ok (.getfield 9, 3) := by decide +kernel
theorem d_M_rootOfMeanSquare_21 : decode c_M_rootOfMeanSquare 21 = .ok (.iload_n 3, 1) := by decide +kernel
theorem d_M_rootOfMeanSquare_22 : decode c_M_rootOfMeanSquare 22 = .ok (.iaload, 1) := by decide +kernel
theorem d_M_rootOfMeanSquare_23 : decode c_M_rootOfMeanSquare 23 = .ok (.i2l, 1) := by decide +kernel
theorem d_M_rootOfMeanSquare_24 : decode c_M_rootOfMeanSquare 24 = .ok (.lmul, 1) := by decide +kernel
theorem d_M_rootOfMeanSquare_25 : decode c_M_rootOfMeanSquare 25 = .ok (.ladd, 1) := by decide +kernel
theorem d_M_rootOfMeanSquare_26 : decode c_M_rootOfMeanSquare 26 = .ok (.lstore_n 1, 1) := by decide +kernel
theorem d_M_rootOfMeanSquare_27 : decode c_M_rootOfMeanSquare 27 = .ok (.iinc 3 1, 3) := by decide +kernel
theorem d_M_rootOfMeanSquare_30 : decode c_M_rootOfMeanSquare 30 = .ok (.goto (-26), 3) := by decide +kernel
theorem d_M_rootOfMeanSquare_33 : decode c_M_rootOfMeanSquare 33 = .ok (.lload_n 1, 1) := by decide +kernel
theorem d_M_rootOfMeanSquare_34 : decode c_M_rootOfMeanSquare 34 = .ok (.ldc2_w 54, 3) := by decide +kernel
theorem d_M_rootOfMeanSquare_37 : decode c_M_rootOfMeanSquare 37 = .ok (.ldiv, 1) := by decide +kernel
theorem d_M_rootOfMeanSquare_38 : decode c_M_rootOfMeanSquare 38 = .ok (.lstore_n 3, 1) := by decide +kernel
theorem d_M_rootOfMeanSquare_39 : decode c_M_rootOfMeanSquare 39 = .ok (.iconst 0, 1) := by decide +kernel
theorem d_M_rootOfMeanSquare_40 : decode c_M_rootOfMeanSquare 40 = .ok (.istore 5, 2) := by decide +kernel
theorem d_M_rootOfMeanSquare_42 : decode c_M_rootOfMeanSquare 42 = .ok (.ldc 56, 2) := by decide +kernel
theorem d_M_rootOfMeanSquare_44 : decode c_M_rootOfMeanSquare 44 = .ok (.istore 6, 2) := by decide +kernel
theorem d_M_rootOfMeanSquare_46 : decode c_M_rootOfMeanSquare 46 = .ok (.iload 6, 2) := by decide +kernel
theorem d_M_rootOfMeanSquare_48 : decode c_M_rootOfMeanSquare 48 = .ok (.ifCond .le 37, 3) := by decide +kernel
theorem d_M_rootOfMeanSquare_51 : decode c_M_rootOfMeanSquare 51 = .ok (.iload 5, 2) := by decide +kernel
theorem d_M_rootOfMeanSquare_53 : decode c_M_rootOfMeanSquare 53 = .ok (.iload 6, 2) := by decide +kernel
theorem d_M_rootOfMeanSquare_55 : decode c_M_rootOfMeanSquare 55 = .ok (.iadd, 1) := by decide +kernel
theorem d_M_rootOfMeanSquare_56 : decode c_M_rootOfMeanSquare 56 = .ok (.i2l, 1) := by decide +kernel
theorem d_M_rootOfMeanSquare_57 : decode c_M_rootOfMeanSquare 57 = .ok (.lstore 7, 2) := by decide +kernel
theorem d_M_rootOfMeanSquare_59 : decode c_M_rootOfMeanSquare 59 = .ok (.lload 7, 2) := by decide +kernel
theorem d_M_rootOfMeanSquare_61 : decode c_M_rootOfMeanSquare 61 = .ok (.lload 7, 2) := by decide +kernel
theorem d_M_rootOfMeanSquare_63 : decode c_M_rootOfMeanSquare 63 = .ok (.lmul, 1) := by decide +kernel
theorem d_M_rootOfMeanSquare_64 : decode c_M_rootOfMeanSquare 64 = .ok (.lload_n 3, 1) := by decide +kernel
theorem d_M_rootOfMeanSquare_65 : decode c_M_rootOfMeanSquare 65 = .ok (.lcmp, 1) := by decide +kernel
theorem d_M_rootOfMeanSquare_66 : decode c_M_rootOfMeanSquare 66 = .ok (.ifCond .gt 10, 3) := by decide +kernel
theorem d_M_rootOfMeanSquare_69 : decode c_M_rootOfMeanSquare 69 = .ok (.iload 5, 2) := by decide +kernel
theorem d_M_rootOfMeanSquare_71 : decode c_M_rootOfMeanSquare 71 = .ok (.iload 6, 2) := by decide +kernel
theorem d_M_rootOfMeanSquare_73 : decode c_M_rootOfMeanSquare 73 = .ok (.iadd, 1) := by decide +kernel
theorem d_M_rootOfMeanSquare_74 : decode c_M_rootOfMeanSquare 74 = .ok (.istore 5, 2) := by decide +kernel
theorem d_M_rootOfMeanSquare_76 : decode c_M_rootOfMeanSquare 76 = .ok (.iload 6, 2) := by decide +kernel
theorem d_M_rootOfMeanSquare_78 : decode c_M_rootOfMeanSquare 78 = .ok (.iconst 1, 1) := by decide +kernel
theorem d_M_rootOfMeanSquare_79 : decode c_M_rootOfMeanSquare 79 = .ok (.ishr, 1) := by decide +kernel
theorem d_M_rootOfMeanSquare_80 : decode c_M_rootOfMeanSquare 80 = .ok (.istore 6, 2) := by decide +kernel
theorem d_M_rootOfMeanSquare_82 : decode c_M_rootOfMeanSquare 82 = .ok (.goto (-36), 3) := by decide +kernel
theorem d_M_rootOfMeanSquare_85 : decode c_M_rootOfMeanSquare 85 = .ok (.iload 5, 2) := by decide +kernel
theorem d_M_rootOfMeanSquare_87 : decode c_M_rootOfMeanSquare 87 = .ok (.ireturn, 1) := by decide +kernel
theorem d_R_init_0 : decode c_R_init 0 = .ok (.aload_n 0, 1) := by decide +kernel
theorem d_R_init_1 : decode c_R_init 1 = .ok (.invokespecial 3, 3) := by decide +kernel
theorem d_R_init_4 : decode c_R_init 4 = .ok (.aload_n 0, 1) := by decide +kernel
theorem d_R_init_5 : decode c_R_init 5 = .ok (.new 9, 3) := by decide +kernel
theorem d_R_init_8 : decode c_R_init 8 = .ok (.dup, 1) := by decide +kernel
theorem d_R_init_9 : decode c_R_init 9 = .ok (.invokespecial 11, 3) := by decide +kernel
theorem d_R_init_12 : decode c_R_init 12 = .ok (.putfield 12, 3) := by decide +kernel
theorem d_R_init_15 : decode c_R_init 15 = .ok (.aload_n 0, 1) := by decide +kernel
theorem d_R_init_16 : decode c_R_init 16 = .ok (.new 18, 3) := by decide +kernel
theorem d_R_init_19 : decode c_R_init 19 = .ok (.dup, 1) := by decide +kernel
theorem d_R_init_20 : decode c_R_init 20 = .ok (.invokespecial 20, 3) := by decide +kernel
theorem d_R_init_23 : decode c_R_init 23 = .ok (.putfield 21, 3) := by decide +kernel
theorem d_R_init_26 : decode c_R_init 26 = .ok (.aload_n 0, 1) := by decide +kernel
theorem d_R_init_27 : decode c_R_init 27 = .ok (.bipush 10, 2) := by decide +kernel
theorem d_R_init_29 : decode c_R_init 29 = .ok (.putfield 25, 3) := by decide +kernel
theorem d_R_init_32 : decode c_R_init 32 = .ok (.aload_n 0, 1) := by decide +kernel
theorem d_R_init_33 : decode c_R_init 33 = .ok (.iload_n 1, 1) := by decide +kernel
theorem d_R_init_34 : decode c_R_init 34 = .ok (.putfield 29, 3) := by decide +kernel
theorem d_R_init_37 : decode c_R_init 37 = .ok (.aload_n 0, 1) := by decide +kernel
theorem d_R_init_38 : decode c_R_init 38 = .ok (.new 32, 3) := by decide +kernel
theorem d_R_init_41 : decode c_R_init 41 = .ok (.dup, 1) := by decide +kernel
theorem d_R_init_42 : decode c_R_init 42 = .ok (.iload_n 1, 1) := by decide +kernel
theorem d_R_init_43 : decode c_R_init 43 = .ok (.iconst (-1), 1) := by decide +kernel
theorem d_R_init_44 : decode c_R_init 44 = .ok (.if_icmp .eq 7, 3) := by decide +kernel
theorem d_R_init_47 : decode c_R_init 47 = .ok (.iconst 1, 1) := by decide +kernel
theorem d_R_init_48 : decode c_R_init 48 = .ok (.goto 4, 3) := by decide +kernel
theorem d_R_init_51 : decode c_R_init 51 = .ok (.iconst 0, 1) := by decide +kernel
theorem d_R_init_52 : decode c_R_init 52 = .ok (.invokespecial 34, 3) := by decide +kernel
theorem d_R_init_55 : decode c_R_init 55 = .ok (.putfield 37, 3) := by decide +kernel
theorem d_R_init_58 : decode c_R_init 58 = .ok (.return_, 1) := by decide +kernel
theorem d_W_init_0 : decode c_W_init 0 = .ok (.aload_n 0, 1) := by decide +kernel
theorem d_W_init_1 : decode c_W_init 1 = .ok (.invokespecial 1, 3) := by decide +kernel
theorem d_W_init_4 : decode c_W_init 4 = .ok (.aload_n 0, 1) := by decide +kernel
theorem d_W_init_5 : decode c_W_init 5 = .ok (.bipush 8, 2) := by decide +kernel
theorem d_W_init_7 : decode c_W_init 7 = .ok (.newarray .int, 2) := by decide +kernel
theorem d_W_init_9 : decode c_W_init 9 = .ok (.putfield 9, 3) := by decide +kernel
theorem d_W_init_12 : decode c_W_init 12 = .ok (.aload_n 0, 1) := by decide +kernel
theorem d_W_init_13 : decode c_W_init 13 = .ok (.bipush 8, 2) := by decide +kernel
theorem d_W_init_15 : decode c_W_init 15 = .ok (.newarray .int, 2) := by decide +kernel
theorem d_W_init_17 : decode c_W_init 17 = .ok (.putfield 13, 3) := by decide +kernel
theorem d_W_init_20 : decode c_W_init 20 = .ok (.aload_n 0, 1) := by decide +kernel
theorem d_W_init_21 : decode c_W_init 21 = .ok (.iconst 1, 1) := by decide +kernel
theorem d_W_init_22 : decode c_W_init 22 = .ok (.putfield 16, 3) := by decide +kernel
theorem d_W_init_25 : decode c_W_init 25 = .ok (.aload_n 0, 1) := by decide +kernel
theorem d_W_init_26 : decode c_W_init 26 = .ok (.iconst 0, 1) := by decide +kernel
theorem d_W_init_27 : decode c_W_init 27 = .ok (.putfield 20, 3) := by decide +kernel
theorem d_W_init_30 : decode c_W_init 30 = .ok (.aload_n 0, 1) := by decide +kernel
theorem d_W_init_31 : decode c_W_init 31 = .ok (.iload_n 1, 1) := by decide +kernel
theorem d_W_init_32 : decode c_W_init 32 = .ok (.putfield 23, 3) := by decide +kernel
theorem d_W_init_35 : decode c_W_init 35 = .ok (.return_, 1) := by decide +kernel
theorem d_W_deliver_0 : decode c_W_deliver 0 = .ok (.iconst 0, 1) := by decide +kernel
theorem d_W_deliver_1 : decode c_W_deliver 1 = .ok (.istore_n 2, 1) := by decide +kernel
theorem d_W_deliver_2 : decode c_W_deliver 2 = .ok (.iload_n 2, 1) := by decide +kernel
theorem d_W_deliver_3 : decode c_W_deliver 3 = .ok (.bipush 8, 2) := by decide +kernel
theorem d_W_deliver_5 : decode c_W_deliver 5 = .ok (.if_icmp .ge 37, 3) := by decide +kernel
theorem d_W_deliver_8 : decode c_W_deliver 8 = .ok (.iload_n 1, 1) := by decide +kernel
theorem d_W_deliver_9 : decode c_W_deliver 9 = .ok (.iload_n 2, 1) := by decide +kernel
theorem d_W_deliver_10 : decode c_W_deliver 10 = .ok (.iadd, 1) := by decide +kernel
theorem d_W_deliver_11 : decode c_W_deliver 11 = .ok (.invokestatic 27, 3) := by decide +kernel
theorem d_W_deliver_14 : decode c_W_deliver 14 = .ok (.istore_n 3, 1) := by decide +kernel
theorem d_W_deliver_15 : decode c_W_deliver 15 = .ok (.aload_n 0, 1) := by decide +kernel
theorem d_W_deliver_16 : decode c_W_deliver 16 = .ok (.getfield 13, 3) := by decide +kernel
theorem d_W_deliver_19 : decode c_W_deliver 19 = .ok (.iload_n 3, 1) := by decide +kernel
theorem d_W_deliver_20 : decode c_W_deliver 20 = .ok (.iaload, 1) := by decide +kernel
theorem d_W_deliver_21 : decode c_W_deliver 21 = .ok (.iload_n 1, 1) := by decide +kernel
theorem d_W_deliver_22 : decode c_W_deliver 22 = .ok (.if_icmp .ne 14, 3) := by decide +kernel
theorem d_W_deliver_25 : decode c_W_deliver 25 = .ok (.aload_n 0, 1) := by decide +kernel
theorem d_W_deliver_26 : decode c_W_deliver 26 = .ok (.aload_n 0, 1) := by decide +kernel
theorem d_W_deliver_27 : decode c_W_deliver 27 = .ok (.getfield 9, 3) := by decide +kernel
theorem d_W_deliver_30 : decode c_W_deliver 30 = .ok (.iload_n 3, 1) := by decide +kernel
theorem d_W_deliver_31 : decode c_W_deliver 31 = .ok (.iaload, 1) := by decide +kernel
theorem d_W_deliver_32 : decode c_W_deliver 32 = .ok (.iload_n 1, 1) := by decide +kernel
theorem d_W_deliver_33 : decode c_W_deliver 33 = .ok (.invokevirtual 31, 3) := by decide +kernel
theorem d_W_deliver_36 : decode c_W_deliver 36 = .ok (.iinc 2 1, 3) := by decide +kernel
theorem d_W_deliver_39 : decode c_W_deliver 39 = .ok (.goto (-37), 3) := by decide +kernel
theorem d_W_deliver_42 : decode c_W_deliver 42 = .ok (.return_, 1) := by decide +kernel
theorem d_W_report_0 : decode c_W_report 0 = .ok (.iload_n 3, 1) := by decide +kernel
theorem d_W_report_1 : decode c_W_report 1 = .ok (.ifCond .eq 21, 3) := by decide +kernel
theorem d_W_report_4 : decode c_W_report 4 = .ok (.aload_n 0, 1) := by decide +kernel
theorem d_W_report_5 : decode c_W_report 5 = .ok (.dup, 1) := by decide +kernel
theorem d_W_report_6 : decode c_W_report 6 = .ok (.getfield 35, 3) := by decide +kernel
theorem d_W_report_9 : decode c_W_report 9 = .ok (.iconst 1, 1) := by decide +kernel
theorem d_W_report_10 : decode c_W_report 10 = .ok (.iadd, 1) := by decide +kernel
theorem d_W_report_11 : decode c_W_report 11 = .ok (.putfield 35, 3) := by decide +kernel
theorem d_W_report_14 : decode c_W_report 14 = .ok (.aload_n 0, 1) := by decide +kernel
theorem d_W_report_15 : decode c_W_report 15 = .ok (.iconst 1, 1) := by decide +kernel
theorem d_W_report_16 : decode c_W_report 16 = .ok (.putfield 38, 3) := by decide +kernel
theorem d_W_report_19 : decode c_W_report 19 = .ok (.goto 37, 3) := by decide +kernel
theorem d_W_report_22 : decode c_W_report 22 = .ok (.aload_n 0, 1) := by decide +kernel
theorem d_W_report_23 : decode c_W_report 23 = .ok (.getfield 20, 3) := by decide +kernel
theorem d_W_report_26 : decode c_W_report 26 = .ok (.ifCond .eq 29, 3) := by decide +kernel
theorem d_W_report_29 : decode c_W_report 29 = .ok (.iload_n 1, 1) := by decide +kernel
theorem d_W_report_30 : decode c_W_report 30 = .ok (.aload_n 0, 1) := by decide +kernel
theorem d_W_report_31 : decode c_W_report 31 = .ok (.getfield 20, 3) := by decide +kernel
theorem d_W_report_34 : decode c_W_report 34 = .ok (.if_icmp .lt 21, 3) := by decide +kernel
theorem d_W_report_37 : decode c_W_report 37 = .ok (.aload_n 0, 1) := by decide +kernel
theorem d_W_report_38 : decode c_W_report 38 = .ok (.iconst 2, 1) := by decide +kernel
theorem d_W_report_39 : decode c_W_report 39 = .ok (.aload_n 0, 1) := by decide +kernel
theorem d_W_report_40 : decode c_W_report 40 = .ok (.getfield 38, 3) := by decide +kernel
theorem d_W_report_43 : decode c_W_report 43 = .ok (.imul, 1) := by decide +kernel
theorem d_W_report_44 : decode c_W_report 44 = .ok (.bipush 8, 2) := by decide +kernel
theorem d_W_report_46 : decode c_W_report 46 = .ok (.invokestatic 41, 3) := by decide +kernel
theorem d_W_report_49 : decode c_W_report 49 = .ok (.putfield 38, 3) := by decide +kernel
theorem d_W_report_52 : decode c_W_report 52 = .ok (.goto 4, 3) := by decide +kernel
theorem d_W_report_55 : decode c_W_report 55 = .ok (.return_, 1) := by decide +kernel
theorem d_W_report_56 : decode c_W_report 56 = .ok (.aload_n 0, 1) := by decide +kernel
theorem d_W_report_57 : decode c_W_report 57 = .ok (.iload_n 1, 1) := by decide +kernel
theorem d_W_report_58 : decode c_W_report 58 = .ok (.aload_n 0, 1) := by decide +kernel
theorem d_W_report_59 : decode c_W_report 59 = .ok (.getfield 38, 3) := by decide +kernel
theorem d_W_report_62 : decode c_W_report 62 = .ok (.iadd, 1) := by decide +kernel
theorem d_W_report_63 : decode c_W_report 63 = .ok (.putfield 20, 3) := by decide +kernel
theorem d_W_report_66 : decode c_W_report 66 = .ok (.aload_n 0, 1) := by decide +kernel
theorem d_W_report_67 : decode c_W_report 67 = .ok (.getfield 23, 3) := by decide +kernel
theorem d_W_report_70 : decode c_W_report 70 = .ok (.ifCond .eq 24, 3) := by decide +kernel
theorem d_W_report_73 : decode c_W_report 73 = .ok (.aload_n 0, 1) := by decide +kernel
theorem d_W_report_74 : decode c_W_report 74 = .ok (.iconst 2, 1) := by decide +kernel
theorem d_W_report_75 : decode c_W_report 75 = .ok (.aload_n 0, 1) := by decide +kernel
theorem d_W_report_76 : decode c_W_report 76 = .ok (.getfield 35, 3) := by decide +kernel
theorem d_W_report_79 : decode c_W_report 79 = .ok (.imul, 1) := by decide +kernel
theorem d_W_report_80 : decode c_W_report 80 = .ok (.iload_n 2, 1) := by decide +kernel
theorem d_W_report_81 : decode c_W_report 81 = .ok (.ifCond .eq 7, 3) := by decide +kernel
theorem d_W_report_84 : decode c_W_report 84 = .ok (.iconst 1, 1) := by decide +kernel
theorem d_W_report_85 : decode c_W_report 85 = .ok (.goto 4, 3) := by decide +kernel
theorem d_W_report_88 : decode c_W_report 88 = .ok (.iconst 0, 1) := by decide +kernel
theorem d_W_report_89 : decode c_W_report 89 = .ok (.iadd, 1) := by decide +kernel
theorem d_W_report_90 : decode c_W_report 90 = .ok (.iload_n 1, 1) := by decide +kernel
theorem d_W_report_91 : decode c_W_report 91 = .ok (.invokevirtual 47, 3) := by decide +kernel
theorem d_W_report_94 : decode c_W_report 94 = .ok (.return_, 1) := by decide +kernel
theorem d_W_holdsBack_0 : decode c_W_holdsBack 0 = .ok (.aload_n 0, 1) := by decide +kernel
theorem d_W_holdsBack_1 : decode c_W_holdsBack 1 = .ok (.getfield 50, 3) := by decide +kernel
theorem d_W_holdsBack_4 : decode c_W_holdsBack 4 = .ok (.iconst 1, 1) := by decide +kernel
theorem d_W_holdsBack_5 : decode c_W_holdsBack 5 = .ok (.iand, 1) := by decide +kernel
theorem d_W_holdsBack_6 : decode c_W_holdsBack 6 = .ok (.iconst 1, 1) := by decide +kernel
theorem d_W_holdsBack_7 : decode c_W_holdsBack 7 = .ok (.if_icmp .ne 18, 3) := by decide +kernel
theorem d_W_holdsBack_10 : decode c_W_holdsBack 10 = .ok (.iload_n 1, 1) := by decide +kernel
theorem d_W_holdsBack_11 : decode c_W_holdsBack 11 = .ok (.aload_n 0, 1) := by decide +kernel
theorem d_W_holdsBack_12 : decode c_W_holdsBack 12 = .ok (.getfield 53, 3) := by decide +kernel
theorem d_W_holdsBack_15 : decode c_W_holdsBack 15 = .ok (.isub, 1) := by decide +kernel
theorem d_W_holdsBack_16 : decode c_W_holdsBack 16 = .ok (.bipush 12, 2) := by decide +kernel
theorem d_W_holdsBack_18 : decode c_W_holdsBack 18 = .ok (.if_icmp .gt 7, 3) := by decide +kernel
theorem d_W_holdsBack_21 : decode c_W_holdsBack 21 = .ok (.iconst 1, 1) := by decide +kernel
theorem d_W_holdsBack_22 : decode c_W_holdsBack 22 = .ok (.goto 4, 3) := by decide +kernel
theorem d_W_holdsBack_25 : decode c_W_holdsBack 25 = .ok (.iconst 0, 1) := by decide +kernel
theorem d_W_holdsBack_26 : decode c_W_holdsBack 26 = .ok (.ireturn, 1) := by decide +kernel
theorem d_W_forget_0 : decode c_W_forget 0 = .ok (.aload_n 0, 1) := by decide +kernel
theorem d_W_forget_1 : decode c_W_forget 1 = .ok (.getfield 13, 3) := by decide +kernel
theorem d_W_forget_4 : decode c_W_forget 4 = .ok (.iconst 0, 1) := by decide +kernel
theorem d_W_forget_5 : decode c_W_forget 5 = .ok (.invokestatic 56, 3) := by decide +kernel
theorem d_W_forget_8 : decode c_W_forget 8 = .ok (.aload_n 0, 1) := by decide +kernel
theorem d_W_forget_9 : decode c_W_forget 9 = .ok (.iconst 0, 1) := by decide +kernel
theorem d_W_forget_10 : decode c_W_forget 10 = .ok (.putfield 35, 3) := by decide +kernel
theorem d_W_forget_13 : decode c_W_forget 13 = .ok (.aload_n 0, 1) := by decide +kernel
theorem d_W_forget_14 : decode c_W_forget 14 = .ok (.iconst 0, 1) := by decide +kernel
theorem d_W_forget_15 : decode c_W_forget 15 = .ok (.putfield 50, 3) := by decide +kernel
theorem d_W_forget_18 : decode c_W_forget 18 = .ok (.aload_n 0, 1) := by decide +kernel
theorem d_W_forget_19 : decode c_W_forget 19 = .ok (.iconst 0, 1) := by decide +kernel
theorem d_W_forget_20 : decode c_W_forget 20 = .ok (.putfield 20, 3) := by decide +kernel
theorem d_W_forget_23 : decode c_W_forget 23 = .ok (.return_, 1) := by decide +kernel
theorem d_W_send_0 : decode c_W_send 0 = .ok (.iload_n 2, 1) := by decide +kernel
theorem d_W_send_1 : decode c_W_send 1 = .ok (.invokestatic 27, 3) := by decide +kernel
theorem d_W_send_4 : decode c_W_send 4 = .ok (.istore_n 3, 1) := by decide +kernel
theorem d_W_send_5 : decode c_W_send 5 = .ok (.aload_n 0, 1) := by decide +kernel
theorem d_W_send_6 : decode c_W_send 6 = .ok (.getfield 9, 3) := by decide +kernel
theorem d_W_send_9 : decode c_W_send 9 = .ok (.iload_n 3, 1) := by decide +kernel
theorem d_W_send_10 : decode c_W_send 10 = .ok (.iload_n 1, 1) := by decide +kernel
theorem d_W_send_11 : decode c_W_send 11 = .ok (.iastore, 1) := by decide +kernel
theorem d_W_send_12 : decode c_W_send 12 = .ok (.aload_n 0, 1) := by decide +kernel
theorem d_W_send_13 : decode c_W_send 13 = .ok (.getfield 13, 3) := by decide +kernel
theorem d_W_send_16 : decode c_W_send 16 = .ok (.iload_n 3, 1) := by decide +kernel
theorem d_W_send_17 : decode c_W_send 17 = .ok (.aload_n 0, 1) := by decide +kernel
theorem d_W_send_18 : decode c_W_send 18 = .ok (.getfield 16, 3) := by decide +kernel
theorem d_W_send_21 : decode c_W_send 21 = .ok (.ifCond .ne 7, 3) := by decide +kernel
theorem d_W_send_24 : decode c_W_send 24 = .ok (.iconst 0, 1) := by decide +kernel
theorem d_W_send_25 : decode c_W_send 25 = .ok (.goto 9, 3) := by decide +kernel
theorem d_W_send_28 : decode c_W_send 28 = .ok (.iload_n 2, 1) := by decide +kernel
theorem d_W_send_29 : decode c_W_send 29 = .ok (.aload_n 0, 1) := by decide +kernel
theorem d_W_send_30 : decode c_W_send 30 = .ok (.getfield 16, 3) := by decide +kernel
theorem d_W_send_33 : decode c_W_send 33 = .ok (.iadd, 1) := by decide +kernel
theorem d_W_send_34 : decode c_W_send 34 = .ok (.iastore, 1) := by decide +kernel
theorem d_W_send_35 : decode c_W_send 35 = .ok (.return_, 1) := by decide +kernel
theorem d_W_learn_0 : decode c_W_learn 0 = .ok (.iload_n 1, 1) := by decide +kernel
theorem d_W_learn_1 : decode c_W_learn 1 = .ok (.iconst 1, 1) := by decide +kernel
theorem d_W_learn_2 : decode c_W_learn 2 = .ok (.ishr, 1) := by decide +kernel
theorem d_W_learn_3 : decode c_W_learn 3 = .ok (.aload_n 0, 1) := by decide +kernel
theorem d_W_learn_4 : decode c_W_learn 4 = .ok (.getfield 50, 3) := by decide +kernel
theorem d_W_learn_7 : decode c_W_learn 7 = .ok (.iconst 1, 1) := by decide +kernel
theorem d_W_learn_8 : decode c_W_learn 8 = .ok (.ishr, 1) := by decide +kernel
theorem d_W_learn_9 : decode c_W_learn 9 = .ok (.if_icmp .lt 13, 3) := by decide +kernel
theorem d_W_learn_12 : decode c_W_learn 12 = .ok (.aload_n 0, 1) := by decide +kernel
theorem d_W_learn_13 : decode c_W_learn 13 = .ok (.iload_n 1, 1) := by decide +kernel
theorem d_W_learn_14 : decode c_W_learn 14 = .ok (.putfield 50, 3) := by decide +kernel
theorem d_W_learn_17 : decode c_W_learn 17 = .ok (.aload_n 0, 1) := by decide +kernel
theorem d_W_learn_18 : decode c_W_learn 18 = .ok (.iload_n 2, 1) := by decide +kernel
theorem d_W_learn_19 : decode c_W_learn 19 = .ok (.putfield 53, 3) := by decide +kernel
theorem d_W_learn_22 : decode c_W_learn 22 = .ok (.return_, 1) := by decide +kernel
theorem d_W_placeOf_0 : decode c_W_placeOf 0 = .ok (.iload_n 0, 1) := by decide +kernel
theorem d_W_placeOf_1 : decode c_W_placeOf 1 = .ok (.bipush 7, 2) := by decide +kernel
theorem d_W_placeOf_3 : decode c_W_placeOf 3 = .ok (.iand, 1) := by decide +kernel
theorem d_W_placeOf_4 : decode c_W_placeOf 4 = .ok (.ireturn, 1) := by decide +kernel
theorem d_A_fill_0 : decode c_A_fill 0 = .ok (.iconst 0, 1) := by decide +kernel
theorem d_A_fill_1 : decode c_A_fill 1 = .ok (.istore_n 2, 1) := by decide +kernel
theorem d_A_fill_2 : decode c_A_fill 2 = .ok (.aload_n 0, 1) := by decide +kernel
theorem d_A_fill_3 : decode c_A_fill 3 = .ok (.arraylength, 1) := by decide +kernel
theorem d_A_fill_4 : decode c_A_fill 4 = .ok (.istore_n 3, 1) := by decide +kernel
theorem d_A_fill_5 : decode c_A_fill 5 = .ok (.iload_n 2, 1) := by decide +kernel
theorem d_A_fill_6 : decode c_A_fill 6 = .ok (.iload_n 3, 1) := by decide +kernel
theorem d_A_fill_7 : decode c_A_fill 7 = .ok (.if_icmp .ge 13, 3) := by decide +kernel
theorem d_A_fill_10 : decode c_A_fill 10 = .ok (.aload_n 0, 1) := by decide +kernel
theorem d_A_fill_11 : decode c_A_fill 11 = .ok (.iload_n 2, 1) := by decide +kernel
theorem d_A_fill_12 : decode c_A_fill 12 = .ok (.iload_n 1, 1) := by decide +kernel
theorem d_A_fill_13 : decode c_A_fill 13 = .ok (.iastore, 1) := by decide +kernel
theorem d_A_fill_14 : decode c_A_fill 14 = .ok (.iinc 2 1, 3) := by decide +kernel
theorem d_A_fill_17 : decode c_A_fill 17 = .ok (.goto (-12), 3) := by decide +kernel
theorem d_A_fill_20 : decode c_A_fill 20 = .ok (.return_, 1) := by decide +kernel
end
section
theorem d_O_init_0 : decode c_O_init 0 = .ok (.aload_n 0, 1) := by decide +kernel
theorem d_O_init_1 : decode c_O_init 1 = .ok (.invokespecial 1, 3) := by decide +kernel
theorem d_O_init_4 : decode c_O_init 4 = .ok (.aload_n 0, 1) := by decide +kernel
theorem d_O_init_5 : decode c_O_init 5 = .ok (.bipush 8, 2) := by decide +kernel
theorem d_O_init_7 : decode c_O_init 7 = .ok (.newarray .int, 2) := by decide +kernel
theorem d_O_init_9 : decode c_O_init 9 = .ok (.putfield 7, 3) := by decide +kernel
theorem d_O_init_12 : decode c_O_init 12 = .ok (.aload_n 0, 1) := by decide +kernel
theorem d_O_init_13 : decode c_O_init 13 = .ok (.bipush 8, 2) := by decide +kernel
theorem d_O_init_15 : decode c_O_init 15 = .ok (.newarray .boolean, 2) := by decide +kernel
theorem d_O_init_17 : decode c_O_init 17 = .ok (.putfield 13, 3) := by decide +kernel
theorem d_O_init_20 : decode c_O_init 20 = .ok (.aload_n 0, 1) := by decide +kernel
theorem d_O_init_21 : decode c_O_init 21 = .ok (.bipush 8, 2) := by decide +kernel
theorem d_O_init_23 : decode c_O_init 23 = .ok (.newarray .boolean, 2) := by decide +kernel
theorem d_O_init_25 : decode c_O_init 25 = .ok (.putfield 17, 3) := by decide +kernel
theorem d_O_init_28 : decode c_O_init 28 = .ok (.aload_n 0, 1) := by decide +kernel
theorem d_O_init_29 : decode c_O_init 29 = .ok (.bipush 8, 2) := by decide +kernel
theorem d_O_init_31 : decode c_O_init 31 = .ok (.newarray .int, 2) := by decide +kernel
theorem d_O_init_33 : decode c_O_init 33 = .ok (.putfield 20, 3) := by decide +kernel
theorem d_O_init_36 : decode c_O_init 36 = .ok (.aload_n 0, 1) := by decide +kernel
theorem d_O_init_37 : decode c_O_init 37 = .ok (.bipush 8, 2) := by decide +kernel
theorem d_O_init_39 : decode c_O_init 39 = .ok (.newarray .int, 2) := by decide +kernel
theorem d_O_init_41 : decode c_O_init 41 = .ok (.putfield 23, 3) := by decide +kernel
theorem d_O_init_44 : decode c_O_init 44 = .ok (.aload_n 0, 1) := by decide +kernel
theorem d_O_init_45 : decode c_O_init 45 = .ok (.bipush 8, 2) := by decide +kernel
theorem d_O_init_47 : decode c_O_init 47 = .ok (.newarray .int, 2) := by decide +kernel
theorem d_O_init_49 : decode c_O_init 49 = .ok (.putfield 26, 3) := by decide +kernel
theorem d_O_init_52 : decode c_O_init 52 = .ok (.aload_n 0, 1) := by decide +kernel
theorem d_O_init_53 : decode c_O_init 53 = .ok (.bipush 8, 2) := by decide +kernel
theorem d_O_init_55 : decode c_O_init 55 = .ok (.newarray .int, 2) := by decide +kernel
theorem d_O_init_57 : decode c_O_init 57 = .ok (.putfield 29, 3) := by decide +kernel
theorem d_O_init_60 : decode c_O_init 60 = .ok (.aload_n 0, 1) := by decide +kernel
theorem d_O_init_61 : decode c_O_init 61 = .ok (.bipush 8, 2) := by decide +kernel
theorem d_O_init_63 : decode c_O_init 63 = .ok (.newarray .int, 2) := by decide +kernel
theorem d_O_init_65 : decode c_O_init 65 = .ok (.putfield 32, 3) := by decide +kernel
theorem d_O_init_68 : decode c_O_init 68 = .ok (.aload_n 0, 1) := by decide +kernel
theorem d_O_init_69 : decode c_O_init 69 = .ok (.bipush 8, 2) := by decide +kernel
theorem d_O_init_71 : decode c_O_init 71 = .ok (.newarray .boolean, 2) := by decide +kernel
theorem d_O_init_73 : decode c_O_init 73 = .ok (.putfield 35, 3) := by decide +kernel
theorem d_O_init_76 : decode c_O_init 76 = .ok (.aload_n 0, 1) := by decide +kernel
theorem d_O_init_77 : decode c_O_init 77 = .ok (.bipush 8, 2) := by decide +kernel
theorem d_O_init_79 : decode c_O_init 79 = .ok (.newarray .int, 2) := by decide +kernel
theorem d_O_init_81 : decode c_O_init 81 = .ok (.putfield 38, 3) := by decide +kernel
theorem d_O_init_84 : decode c_O_init 84 = .ok (.aload_n 0, 1) := by decide +kernel
theorem d_O_init_85 : decode c_O_init 85 = .ok (.bipush 8, 2) := by decide +kernel
theorem d_O_init_87 : decode c_O_init 87 = .ok (.newarray .int, 2) := by decide +kernel
theorem d_O_init_89 : decode c_O_init 89 = .ok (.putfield 41, 3) := by decide +kernel
theorem d_O_init_92 : decode c_O_init 92 = .ok (.aload_n 0, 1) := by decide +kernel
theorem d_O_init_93 : decode c_O_init 93 = .ok (.bipush 8, 2) := by decide +kernel
theorem d_O_init_95 : decode c_O_init 95 = .ok (.newarray .int, 2) := by decide +kernel
theorem d_O_init_97 : decode c_O_init 97 = .ok (.putfield 44, 3) := by decide +kernel
theorem d_O_init_100 : decode c_O_init 100 = .ok (.aload_n 0, 1) := by decide +kernel
theorem d_O_init_101 : decode c_O_init 101 = .ok (.bipush 32, 2) := by decide +kernel
theorem d_O_init_103 : decode c_O_init 103 = .ok (.newarray .int, 2) := by decide +kernel
theorem d_O_init_105 : decode c_O_init 105 = .ok (.putfield 47, 3) := by decide +kernel
theorem d_O_init_108 : decode c_O_init 108 = .ok (.aload_n 0, 1) := by decide +kernel
theorem d_O_init_109 : decode c_O_init 109 = .ok (.bipush 8, 2) := by decide +kernel
theorem d_O_init_111 : decode c_O_init 111 = .ok (.newarray .long, 2) := by decide +kernel
theorem d_O_init_113 : decode c_O_init 113 = .ok (.putfield 50, 3) := by decide +kernel
theorem d_O_init_116 : decode c_O_init 116 = .ok (.aload_n 0, 1) := by decide +kernel
theorem d_O_init_117 : decode c_O_init 117 = .ok (.bipush 8, 2) := by decide +kernel
theorem d_O_init_119 : decode c_O_init 119 = .ok (.newarray .boolean, 2) := by decide +kernel
theorem d_O_init_121 : decode c_O_init 121 = .ok (.putfield 54, 3) := by decide +kernel
theorem d_O_init_124 : decode c_O_init 124 = .ok (.aload_n 0, 1) := by decide +kernel
theorem d_O_init_125 : decode c_O_init 125 = .ok (.bipush 8, 2) := by decide +kernel
theorem d_O_init_127 : decode c_O_init 127 = .ok (.newarray .int, 2) := by decide +kernel
theorem d_O_init_129 : decode c_O_init 129 = .ok (.putfield 57, 3) := by decide +kernel
theorem d_O_init_132 : decode c_O_init 132 = .ok (.aload_n 0, 1) := by decide +kernel
theorem d_O_init_133 : decode c_O_init 133 = .ok (.bipush 8, 2) := by decide +kernel
theorem d_O_init_135 : decode c_O_init 135 = .ok (.newarray .int, 2) := by decide +kernel
theorem d_O_init_137 : decode c_O_init 137 = .ok (.putfield 60, 3) := by decide +kernel
theorem d_O_init_140 : decode c_O_init 140 = .ok (.aload_n 0, 1) := by decide +kernel
theorem d_O_init_141 : decode c_O_init 141 = .ok (.bipush 8, 2) := by decide +kernel
theorem d_O_init_143 : decode c_O_init 143 = .ok (.newarray .int, 2) := by decide +kernel
theorem d_O_init_145 : decode c_O_init 145 = .ok (.putfield 63, 3) := by decide +kernel
theorem d_O_init_148 : decode c_O_init 148 = .ok (.aload_n 0, 1) := by decide +kernel
theorem d_O_init_149 : decode c_O_init 149 = .ok (.bipush 8, 2) := by decide +kernel
theorem d_O_init_151 : decode c_O_init 151 = .ok (.newarray .int, 2) := by decide +kernel
theorem d_O_init_153 : decode c_O_init 153 = .ok (.putfield 66, 3) := by decide +kernel
theorem d_O_init_156 : decode c_O_init 156 = .ok (.aload_n 0, 1) := by decide +kernel
theorem d_O_init_157 : decode c_O_init 157 = .ok (.bipush 8, 2) := by decide +kernel
theorem d_O_init_159 : decode c_O_init 159 = .ok (.newarray .int, 2) := by decide +kernel
theorem d_O_init_161 : decode c_O_init 161 = .ok (.putfield 69, 3) := by decide +kernel
theorem d_O_init_164 : decode c_O_init 164 = .ok (.aload_n 0, 1) := by decide +kernel
theorem d_O_init_165 : decode c_O_init 165 = .ok (.bipush 8, 2) := by decide +kernel
theorem d_O_init_167 : decode c_O_init 167 = .ok (.newarray .boolean, 2) := by decide +kernel
theorem d_O_init_169 : decode c_O_init 169 = .ok (.putfield 72, 3) := by decide +kernel
theorem d_O_init_172 : decode c_O_init 172 = .ok (.aload_n 0, 1) := by decide +kernel
theorem d_O_init_173 : decode c_O_init 173 = .ok (.bipush 8, 2) := by decide +kernel
theorem d_O_init_175 : decode c_O_init 175 = .ok (.newarray .boolean, 2) := by decide +kernel
theorem d_O_init_177 : decode c_O_init 177 = .ok (.putfield 75, 3) := by decide +kernel
theorem d_O_init_180 : decode c_O_init 180 = .ok (.aload_n 0, 1) := by decide +kernel
theorem d_O_init_181 : decode c_O_init 181 = .ok (.bipush 8, 2) := by decide +kernel
theorem d_O_init_183 : decode c_O_init 183 = .ok (.newarray .int, 2) := by decide +kernel
theorem d_O_init_185 : decode c_O_init 185 = .ok (.putfield 78, 3) := by decide +kernel
theorem d_O_init_188 : decode c_O_init 188 = .ok (.aload_n 0, 1) := by decide +kernel
theorem d_O_init_189 : decode c_O_init 189 = .ok (.bipush 8, 2) := by decide +kernel
theorem d_O_init_191 : decode c_O_init 191 = .ok (.newarray .boolean, 2) := by decide +kernel
theorem d_O_init_193 : decode c_O_init 193 = .ok (.putfield 81, 3) := by decide +kernel
theorem d_O_init_196 : decode c_O_init 196 = .ok (.aload_n 0, 1) := by decide +kernel
theorem d_O_init_197 : decode c_O_init 197 = .ok (.bipush 8, 2) := by decide +kernel
theorem d_O_init_199 : decode c_O_init 199 = .ok (.newarray .int, 2) := by decide +kernel
theorem d_O_init_201 : decode c_O_init 201 = .ok (.putfield 84, 3) := by decide +kernel
theorem d_O_init_204 : decode c_O_init 204 = .ok (.aload_n 0, 1) := by decide +kernel
theorem d_O_init_205 : decode c_O_init 205 = .ok (.bipush 8, 2) := by decide +kernel
theorem d_O_init_207 : decode c_O_init 207 = .ok (.newarray .int, 2) := by decide +kernel
theorem d_O_init_209 : decode c_O_init 209 = .ok (.putfield 87, 3) := by decide +kernel
theorem d_O_init_212 : decode c_O_init 212 = .ok (.aload_n 0, 1) := by decide +kernel
theorem d_O_init_213 : decode c_O_init 213 = .ok (.bipush 8, 2) := by decide +kernel
theorem d_O_init_215 : decode c_O_init 215 = .ok (.newarray .int, 2) := by decide +kernel
theorem d_O_init_217 : decode c_O_init 217 = .ok (.putfield 90, 3) := by decide +kernel
theorem d_O_init_220 : decode c_O_init 220 = .ok (.aload_n 0, 1) := by decide +kernel
theorem d_O_init_221 : decode c_O_init 221 = .ok (.sipush 128, 3) := by decide +kernel
theorem d_O_init_224 : decode c_O_init 224 = .ok (.newarray .int, 2) := by decide +kernel
theorem d_O_init_226 : decode c_O_init 226 = .ok (.putfield 93, 3) := by decide +kernel
theorem d_O_init_229 : decode c_O_init 229 = .ok (.aload_n 0, 1) := by decide +kernel
theorem d_O_init_230 : decode c_O_init 230 = .ok (.sipush 128, 3) := by decide +kernel
theorem d_O_init_233 : decode c_O_init 233 = .ok (.newarray .int, 2) := by decide +kernel
theorem d_O_init_235 : decode c_O_init 235 = .ok (.putfield 96, 3) := by decide +kernel
theorem d_O_init_238 : decode c_O_init 238 = .ok (.aload_n 0, 1) := by decide +kernel
theorem d_O_init_239 : decode c_O_init 239 = .ok (.bipush 8, 2) := by decide +kernel
theorem d_O_init_241 : decode c_O_init 241 = .ok (.newarray .int, 2) := by decide +kernel
theorem d_O_init_243 : decode c_O_init 243 = .ok (.putfield 99, 3) := by decide +kernel
theorem d_O_init_246 : decode c_O_init 246 = .ok (.aload_n 0, 1) := by decide +kernel
theorem d_O_init_247 : decode c_O_init 247 = .ok (.bipush 8, 2) := by decide +kernel
theorem d_O_init_249 : decode c_O_init 249 = .ok (.newarray .int, 2) := by decide +kernel
theorem d_O_init_251 : decode c_O_init 251 = .ok (.putfield 102, 3) := by decide +kernel
theorem d_O_init_254 : decode c_O_init 254 = .ok (.aload_n 0, 1) := by decide +kernel
theorem d_O_init_255 : decode c_O_init 255 = .ok (.sipush 200, 3) := by decide +kernel
theorem d_O_init_258 : decode c_O_init 258 = .ok (.newarray .int, 2) := by decide +kernel
theorem d_O_init_260 : decode c_O_init 260 = .ok (.putfield 105, 3) := by decide +kernel
theorem d_O_init_263 : decode c_O_init 263 = .ok (.aload_n 0, 1) := by decide +kernel
theorem d_O_init_264 : decode c_O_init 264 = .ok (.sipush 200, 3) := by decide +kernel
theorem d_O_init_267 : decode c_O_init 267 = .ok (.newarray .int, 2) := by decide +kernel
theorem d_O_init_269 : decode c_O_init 269 = .ok (.putfield 108, 3) := by decide +kernel
theorem d_O_init_272 : decode c_O_init 272 = .ok (.return_, 1) := by decide +kernel
theorem d_O_none_0 : decode c_O_none 0 = .ok (.iload_n 1, 1) := by decide +kernel
theorem d_O_none_1 : decode c_O_none 1 = .ok (.ifCond .lt 11, 3) := by decide +kernel
theorem d_O_none_4 : decode c_O_none 4 = .ok (.iload_n 1, 1) := by decide +kernel
theorem d_O_none_5 : decode c_O_none 5 = .ok (.aload_n 0, 1) := by decide +kernel
theorem d_O_none_6 : decode c_O_none 6 = .ok (.getfield 111, 3) := by decide +kernel
theorem d_O_none_9 : decode c_O_none 9 = .ok (.if_icmp .lt 7, 3) := by decide +kernel
theorem d_O_none_12 : decode c_O_none 12 = .ok (.iconst 1, 1) := by decide +kernel
theorem d_O_none_13 : decode c_O_none 13 = .ok (.goto 4, 3) := by decide +kernel
theorem d_O_none_16 : decode c_O_none 16 = .ok (.iconst 0, 1) := by decide +kernel
theorem d_O_none_17 : decode c_O_none 17 = .ok (.ireturn, 1) := by decide +kernel
theorem d_O_relay_0 : decode c_O_relay 0 = .ok (.aload_n 0, 1) := by decide +kernel
theorem d_O_relay_1 : decode c_O_relay 1 = .ok (.getfield 111, 3) := by decide +kernel
theorem d_O_relay_4 : decode c_O_relay 4 = .ok (.bipush 8, 2) := by decide +kernel
theorem d_O_relay_6 : decode c_O_relay 6 = .ok (.if_icmp .eq 33, 3) := by decide +kernel
theorem d_O_relay_9 : decode c_O_relay 9 = .ok (.aload_n 0, 1) := by decide +kernel
theorem d_O_relay_10 : decode c_O_relay 10 = .ok (.getfield 115, 3) := by decide +kernel
theorem d_O_relay_13 : decode c_O_relay 13 = .ok (.ifCond .ne 26, 3) := by decide +kernel
theorem d_O_relay_16 : decode c_O_relay 16 = .ok (.aload_n 0, 1) := by decide +kernel
theorem d_O_relay_17 : decode c_O_relay 17 = .ok (.getfield 111, 3) := by decide +kernel
theorem d_O_relay_20 : decode c_O_relay 20 = .ok (.ifCond .ne 11, 3) := by decide +kernel
theorem d_O_relay_23 : decode c_O_relay 23 = .ok (.iload_n 1, 1) := by decide +kernel
theorem d_O_relay_24 : decode c_O_relay 24 = .ok (.iconst (-1), 1) := by decide +kernel
theorem d_O_relay_25 : decode c_O_relay 25 = .ok (.if_icmp .eq 16, 3) := by decide +kernel
theorem d_O_relay_28 : decode c_O_relay 28 = .ok (.goto 11, 3) := by decide +kernel
theorem d_O_relay_31 : decode c_O_relay 31 = .ok (.aload_n 0, 1) := by decide +kernel
theorem d_O_relay_32 : decode c_O_relay 32 = .ok (.iload_n 1, 1) := by decide +kernel
theorem d_O_relay_33 : decode c_O_relay 33 = .ok (.invokevirtual 118, 3) := by decide +kernel
theorem d_O_relay_36 : decode c_O_relay 36 = .ok (.ifCond .eq 5, 3) := by decide +kernel
theorem d_O_relay_39 : decode c_O_relay 39 = .ok (.iconst (-1), 1) := by decide +kernel
theorem d_O_relay_40 : decode c_O_relay 40 = .ok (.ireturn, 1) := by decide +kernel
theorem d_O_relay_41 : decode c_O_relay 41 = .ok (.aload_n 0, 1) := by decide +kernel
theorem d_O_relay_42 : decode c_O_relay 42 = .ok (.getfield 7, 3) := by decide +kernel
theorem d_O_relay_45 : decode c_O_relay 45 = .ok (.aload_n 0, 1) := by decide +kernel
theorem d_O_relay_46 : decode c_O_relay 46 = .ok (.getfield 111, 3) := by decide +kernel
theorem d_O_relay_49 : decode c_O_relay 49 = .ok (.iload_n 1, 1) := by decide +kernel
theorem d_O_relay_50 : decode c_O_relay 50 = .ok (.iastore, 1) := by decide +kernel
theorem d_O_relay_51 : decode c_O_relay 51 = .ok (.aload_n 0, 1) := by decide +kernel
theorem d_O_relay_52 : decode c_O_relay 52 = .ok (.getfield 13, 3) := by decide +kernel
theorem d_O_relay_55 : decode c_O_relay 55 = .ok (.aload_n 0, 1) := by decide +kernel
theorem d_O_relay_56 : decode c_O_relay 56 = .ok (.getfield 111, 3) := by decide +kernel
theorem d_O_relay_59 : decode c_O_relay 59 = .ok (.iconst 1, 1) := by decide +kernel
theorem d_O_relay_60 : decode c_O_relay 60 = .ok (.bastore, 1) := by decide +kernel
theorem d_O_relay_61 : decode c_O_relay 61 = .ok (.aload_n 0, 1) := by decide +kernel
theorem d_O_relay_62 : decode c_O_relay 62 = .ok (.getfield 29, 3) := by decide +kernel
theorem d_O_relay_65 : decode c_O_relay 65 = .ok (.aload_n 0, 1) := by decide +kernel
theorem d_O_relay_66 : decode c_O_relay 66 = .ok (.getfield 111, 3) := by decide +kernel
theorem d_O_relay_69 : decode c_O_relay 69 = .ok (.bipush 100, 2) := by decide +kernel
theorem d_O_relay_71 : decode c_O_relay 71 = .ok (.iastore, 1) := by decide +kernel
theorem d_O_relay_72 : decode c_O_relay 72 = .ok (.aload_n 0, 1) := by decide +kernel
theorem d_O_relay_73 : decode c_O_relay 73 = .ok (.getfield 32, 3) := by decide +kernel
theorem d_O_relay_76 : decode c_O_relay 76 = .ok (.aload_n 0, 1) := by decide +kernel
theorem d_O_relay_77 : decode c_O_relay 77 = .ok (.getfield 111, 3) := by decide +kernel
theorem d_O_relay_80 : decode c_O_relay 80 = .ok (.iconst 5, 1) := by decide +kernel
theorem d_O_relay_81 : decode c_O_relay 81 = .ok (.iastore, 1) := by decide +kernel
theorem d_O_relay_82 : decode c_O_relay 82 = .ok (.aload_n 0, 1) := by decide +kernel
theorem d_O_relay_83 : decode c_O_relay 83 = .ok (.getfield 41, 3) := by decide +kernel
theorem d_O_relay_86 : decode c_O_relay 86 = .ok (.aload_n 0, 1) := by decide +kernel
theorem d_O_relay_87 : decode c_O_relay 87 = .ok (.getfield 111, 3) := by decide +kernel
theorem d_O_relay_90 : decode c_O_relay 90 = .ok (.bipush 10, 2) := by decide +kernel
theorem d_O_relay_92 : decode c_O_relay 92 = .ok (.iastore, 1) := by decide +kernel
theorem d_O_relay_93 : decode c_O_relay 93 = .ok (.aload_n 0, 1) := by decide +kernel
theorem d_O_relay_94 : decode c_O_relay 94 = .ok (.getfield 44, 3) := by decide +kernel
theorem d_O_relay_97 : decode c_O_relay 97 = .ok (.aload_n 0, 1) := by decide +kernel
theorem d_O_relay_98 : decode c_O_relay 98 = .ok (.getfield 111, 3) := by decide +kernel
theorem d_O_relay_101 : decode c_O_relay 101 = .ok (.iconst 1, 1) := by decide +kernel
theorem d_O_relay_102 : decode c_O_relay 102 = .ok (.iastore, 1) := by decide +kernel
theorem d_O_relay_103 : decode c_O_relay 103 = .ok (.aload_n 0, 1) := by decide +kernel
theorem d_O_relay_104 : decode c_O_relay 104 = .ok (.dup, 1) := by decide +kernel
theorem d_O_relay_105 : decode c_O_relay 105 = .ok (.getfield 111, 3) := by decide +kernel
theorem d_O_relay_108 : decode c_O_relay 108 = .ok (.iconst 1, 1) := by decide +kernel
theorem d_O_relay_109 : decode c_O_relay 109 = .ok (.iadd, 1) := by decide +kernel
theorem d_O_relay_110 : decode c_O_relay 110 = .ok (.putfield 111, 3) := by decide +kernel
theorem d_O_relay_113 : decode c_O_relay 113 = .ok (.aload_n 0, 1) := by decide +kernel
theorem d_O_relay_114 : decode c_O_relay 114 = .ok (.getfield 111, 3) := by decide +kernel
theorem d_O_relay_117 : decode c_O_relay 117 = .ok (.iconst 1, 1) := by decide +kernel
theorem d_O_relay_118 : decode c_O_relay 118 = .ok (.isub, 1) := by decide +kernel
theorem d_O_relay_119 : decode c_O_relay 119 = .ok (.ireturn, 1) := by decide +kernel
theorem d_O_settings_0 : decode c_O_settings 0 = .ok (.aload_n 0, 1) := by decide +kernel
theorem d_O_settings_1 : decode c_O_settings 1 = .ok (.iload_n 1, 1) := by decide +kernel
theorem d_O_settings_2 : decode c_O_settings 2 = .ok (.invokevirtual 118, 3) := by decide +kernel
theorem d_O_settings_5 : decode c_O_settings 5 = .ok (.ifCond .ne 38, 3) := by decide +kernel
theorem d_O_settings_8 : decode c_O_settings 8 = .ok (.iload_n 2, 1) := by decide +kernel
theorem d_O_settings_9 : decode c_O_settings 9 = .ok (.ifCond .lt 34, 3) := by decide +kernel
theorem d_O_settings_12 : decode c_O_settings 12 = .ok (.iload_n 2, 1) := by decide +kernel
theorem d_O_settings_13 : decode c_O_settings 13 = .ok (.iconst 2, 1) := by decide +kernel
theorem d_O_settings_14 : decode c_O_settings 14 = .ok (.if_icmp .gt 29, 3) := by decide +kernel
theorem d_O_settings_17 : decode c_O_settings 17 = .ok (.iload_n 3, 1) := by decide +kernel
theorem d_O_settings_18 : decode c_O_settings 18 = .ok (.iconst 1, 1) := by decide +kernel
theorem d_O_settings_19 : decode c_O_settings 19 = .ok (.if_icmp .lt 24, 3) := by decide +kernel
theorem d_O_settings_22 : decode c_O_settings 22 = .ok (.iload_n 3, 1) := by decide +kernel
theorem d_O_settings_23 : decode c_O_settings 23 = .ok (.sipush 5000, 3) := by decide +kernel
theorem d_O_settings_26 : decode c_O_settings 26 = .ok (.if_icmp .gt 17, 3) := by decide +kernel
theorem d_O_settings_29 : decode c_O_settings 29 = .ok (.iload 4, 2) := by decide +kernel
theorem d_O_settings_31 : decode c_O_settings 31 = .ok (.iconst 1, 1) := by decide +kernel
theorem d_O_settings_32 : decode c_O_settings 32 = .ok (.if_icmp .lt 11, 3) := by decide +kernel
theorem d_O_settings_35 : decode c_O_settings 35 = .ok (.iload 4, 2) := by decide +kernel
theorem d_O_settings_37 : decode c_O_settings 37 = .ok (.sipush 1000, 3) := by decide +kernel
theorem d_O_settings_40 : decode c_O_settings 40 = .ok (.if_icmp .le 5, 3) := by decide +kernel
theorem d_O_settings_43 : decode c_O_settings 43 = .ok (.iconst 0, 1) := by decide +kernel
theorem d_O_settings_44 : decode c_O_settings 44 = .ok (.ireturn, 1) := by decide +kernel
theorem d_O_settings_45 : decode c_O_settings 45 = .ok (.aload_n 0, 1) := by decide +kernel
theorem d_O_settings_46 : decode c_O_settings 46 = .ok (.getfield 26, 3) := by decide +kernel
theorem d_O_settings_49 : decode c_O_settings 49 = .ok (.iload_n 1, 1) := by decide +kernel
theorem d_O_settings_50 : decode c_O_settings 50 = .ok (.iload_n 2, 1) := by decide +kernel
theorem d_O_settings_51 : decode c_O_settings 51 = .ok (.iastore, 1) := by decide +kernel
theorem d_O_settings_52 : decode c_O_settings 52 = .ok (.aload_n 0, 1) := by decide +kernel
theorem d_O_settings_53 : decode c_O_settings 53 = .ok (.getfield 29, 3) := by decide +kernel
theorem d_O_settings_56 : decode c_O_settings 56 = .ok (.iload_n 1, 1) := by decide +kernel
theorem d_O_settings_57 : decode c_O_settings 57 = .ok (.iload_n 3, 1) := by decide +kernel
theorem d_O_settings_58 : decode c_O_settings 58 = .ok (.iastore, 1) := by decide +kernel
theorem d_O_settings_59 : decode c_O_settings 59 = .ok (.aload_n 0, 1) := by decide +kernel
theorem d_O_settings_60 : decode c_O_settings 60 = .ok (.getfield 32, 3) := by decide +kernel
theorem d_O_settings_63 : decode c_O_settings 63 = .ok (.iload_n 1, 1) := by decide +kernel
theorem d_O_settings_64 : decode c_O_settings 64 = .ok (.iload 4, 2) := by decide +kernel
theorem d_O_settings_66 : decode c_O_settings 66 = .ok (.iastore, 1) := by decide +kernel
theorem d_O_settings_67 : decode c_O_settings 67 = .ok (.iconst 1, 1) := by decide +kernel
theorem d_O_settings_68 : decode c_O_settings 68 = .ok (.ireturn, 1) := by decide +kernel
theorem d_O_options_0 : decode c_O_options 0 = .ok (.aload_n 0, 1) := by decide +kernel
theorem d_O_options_1 : decode c_O_options 1 = .ok (.iload_n 1, 1) := by decide +kernel
theorem d_O_options_2 : decode c_O_options 2 = .ok (.invokevirtual 118, 3) := by decide +kernel
theorem d_O_options_5 : decode c_O_options 5 = .ok (.ifCond .ne 25, 3) := by decide +kernel
theorem d_O_options_8 : decode c_O_options 8 = .ok (.iload_n 3, 1) := by decide +kernel
theorem d_O_options_9 : decode c_O_options 9 = .ok (.ifCond .lt 21, 3) := by decide +kernel
theorem d_O_options_12 : decode c_O_options 12 = .ok (.iload_n 3, 1) := by decide +kernel
theorem d_O_options_13 : decode c_O_options 13 = .ok (.iconst 3, 1) := by decide +kernel
theorem d_O_options_14 : decode c_O_options 14 = .ok (.if_icmp .gt 16, 3) := by decide +kernel
theorem d_O_options_17 : decode c_O_options 17 = .ok (.iload 4, 2) := by decide +kernel
theorem d_O_options_19 : decode c_O_options 19 = .ok (.iconst 1, 1) := by decide +kernel
theorem d_O_options_20 : decode c_O_options 20 = .ok (.if_icmp .lt 10, 3) := by decide +kernel
theorem d_O_options_23 : decode c_O_options 23 = .ok (.iload 4, 2) := by decide +kernel
theorem d_O_options_25 : decode c_O_options 25 = .ok (.bipush 50, 2) := by decide +kernel
theorem d_O_options_27 : decode c_O_options 27 = .ok (.if_icmp .le 5, 3) := by decide +kernel
theorem d_O_options_30 : decode c_O_options 30 = .ok (.iconst 0, 1) := by decide +kernel
theorem d_O_options_31 : decode c_O_options 31 = .ok (.ireturn, 1) := by decide +kernel
theorem d_O_options_32 : decode c_O_options 32 = .ok (.aload_n 0, 1) := by decide +kernel
theorem d_O_options_33 : decode c_O_options 33 = .ok (.getfield 35, 3) := by decide +kernel
theorem d_O_options_36 : decode c_O_options 36 = .ok (.iload_n 1, 1) := by decide +kernel
theorem d_O_options_37 : decode c_O_options 37 = .ok (.iload_n 2, 1) := by decide +kernel
theorem d_O_options_38 : decode c_O_options 38 = .ok (.bastore, 1) := by decide +kernel
theorem d_O_options_39 : decode c_O_options 39 = .ok (.aload_n 0, 1) := by decide +kernel
theorem d_O_options_40 : decode c_O_options 40 = .ok (.getfield 38, 3) := by decide +kernel
theorem d_O_options_43 : decode c_O_options 43 = .ok (.iload_n 1, 1) := by decide +kernel
theorem d_O_options_44 : decode c_O_options 44 = .ok (.iload_n 3, 1) := by decide +kernel
theorem d_O_options_45 : decode c_O_options 45 = .ok (.iastore, 1) := by decide +kernel
theorem d_O_options_46 : decode c_O_options 46 = .ok (.aload_n 0, 1) := by decide +kernel
theorem d_O_options_47 : decode c_O_options 47 = .ok (.getfield 41, 3) := by decide +kernel
theorem d_O_options_50 : decode c_O_options 50 = .ok (.iload_n 1, 1) := by decide +kernel
theorem d_O_options_51 : decode c_O_options 51 = .ok (.iload 4, 2) := by decide +kernel
theorem d_O_options_53 : decode c_O_options 53 = .ok (.iastore, 1) := by decide +kernel
theorem d_O_options_54 : decode c_O_options 54 = .ok (.iconst 1, 1) := by decide +kernel
theorem d_O_options_55 : decode c_O_options 55 = .ok (.ireturn, 1) := by decide +kernel
theorem d_O_load_0 : decode c_O_load 0 = .ok (.aload_n 0, 1) := by decide +kernel
theorem d_O_load_1 : decode c_O_load 1 = .ok (.iload_n 1, 1) := by decide +kernel
theorem d_O_load_2 : decode c_O_load 2 = .ok (.invokevirtual 118, 3) := by decide +kernel
theorem d_O_load_5 : decode c_O_load 5 = .ok (.ifCond .ne 14, 3) := by decide +kernel
theorem d_O_load_8 : decode c_O_load 8 = .ok (.iload_n 2, 1) := by decide +kernel
theorem d_O_load_9 : decode c_O_load 9 = .ok (.ifCond .lt 10, 3) := by decide +kernel
theorem d_O_load_12 : decode c_O_load 12 = .ok (.iload_n 2, 1) := by decide +kernel
theorem d_O_load_13 : decode c_O_load 13 = .ok (.sipush 2000, 3) := by decide +kernel
theorem d_O_load_16 : decode c_O_load 16 = .ok (.if_icmp .le 5, 3) := by decide +kernel
theorem d_O_load_19 : decode c_O_load 19 = .ok (.iconst 0, 1) := by decide +kernel
theorem d_O_load_20 : decode c_O_load 20 = .ok (.ireturn, 1) := by decide +kernel
theorem d_O_load_21 : decode c_O_load 21 = .ok (.aload_n 0, 1) := by decide +kernel
theorem d_O_load_22 : decode c_O_load 22 = .ok (.getfield 20, 3) := by decide +kernel
theorem d_O_load_25 : decode c_O_load 25 = .ok (.iload_n 1, 1) := by decide +kernel
theorem d_O_load_26 : decode c_O_load 26 = .ok (.iload_n 2, 1) := by decide +kernel
theorem d_O_load_27 : decode c_O_load 27 = .ok (.iastore, 1) := by decide +kernel
theorem d_O_load_28 : decode c_O_load 28 = .ok (.iconst 1, 1) := by decide +kernel
theorem d_O_load_29 : decode c_O_load 29 = .ok (.ireturn, 1) := by decide +kernel
theorem d_O_fault_0 : decode c_O_fault 0 = .ok (.aload_n 0, 1) := by decide +kernel
theorem d_O_fault_1 : decode c_O_fault 1 = .ok (.iload_n 1, 1) := by decide +kernel
theorem d_O_fault_2 : decode c_O_fault 2 = .ok (.invokevirtual 118, 3) := by decide +kernel
theorem d_O_fault_5 : decode c_O_fault 5 = .ok (.ifCond .ne 14, 3) := by decide +kernel
theorem d_O_fault_8 : decode c_O_fault 8 = .ok (.iload_n 2, 1) := by decide +kernel
theorem d_O_fault_9 : decode c_O_fault 9 = .ok (.ifCond .lt 10, 3) := by decide +kernel
theorem d_O_fault_12 : decode c_O_fault 12 = .ok (.iload_n 2, 1) := by decide +kernel
theorem d_O_fault_13 : decode c_O_fault 13 = .ok (.sipush 20000, 3) := by decide +kernel
theorem d_O_fault_16 : decode c_O_fault 16 = .ok (.if_icmp .le 5, 3) := by decide +kernel
theorem d_O_fault_19 : decode c_O_fault 19 = .ok (.iconst 0, 1) := by decide +kernel
theorem d_O_fault_20 : decode c_O_fault 20 = .ok (.ireturn, 1) := by decide +kernel
theorem d_O_fault_21 : decode c_O_fault 21 = .ok (.aload_n 0, 1) := by decide +kernel
theorem d_O_fault_22 : decode c_O_fault 22 = .ok (.getfield 23, 3) := by decide +kernel
theorem d_O_fault_25 : decode c_O_fault 25 = .ok (.iload_n 1, 1) := by decide +kernel
theorem d_O_fault_26 : decode c_O_fault 26 = .ok (.iload_n 2, 1) := by decide +kernel
theorem d_O_fault_27 : decode c_O_fault 27 = .ok (.iastore, 1) := by decide +kernel
theorem d_O_fault_28 : decode c_O_fault 28 = .ok (.iconst 1, 1) := by decide +kernel
theorem d_O_fault_29 : decode c_O_fault 29 = .ok (.ireturn, 1) := by decide +kernel
theorem d_O_jam_0 : decode c_O_jam 0 = .ok (.aload_n 0, 1) := by decide +kernel
theorem d_O_jam_1 : decode c_O_jam 1 = .ok (.iload_n 1, 1) := by decide +kernel
theorem d_O_jam_2 : decode c_O_jam 2 = .ok (.invokevirtual 118, 3) := by decide +kernel
theorem d_O_jam_5 : decode c_O_jam 5 = .ok (.ifCond .eq 5, 3) := by decide +kernel
theorem d_O_jam_8 : decode c_O_jam 8 = .ok (.iconst 0, 1) := by decide +kernel
theorem d_O_jam_9 : decode c_O_jam 9 = .ok (.ireturn, 1) := by decide +kernel
theorem d_O_jam_10 : decode c_O_jam 10 = .ok (.aload_n 0, 1) := by decide +kernel
theorem d_O_jam_11 : decode c_O_jam 11 = .ok (.getfield 17, 3) := by decide +kernel
theorem d_O_jam_14 : decode c_O_jam 14 = .ok (.iload_n 1, 1) := by decide +kernel
theorem d_O_jam_15 : decode c_O_jam 15 = .ok (.iload_n 2, 1) := by decide +kernel
theorem d_O_jam_16 : decode c_O_jam 16 = .ok (.bastore, 1) := by decide +kernel
theorem d_O_jam_17 : decode c_O_jam 17 = .ok (.iconst 1, 1) := by decide +kernel
theorem d_O_jam_18 : decode c_O_jam 18 = .ok (.ireturn, 1) := by decide +kernel
theorem d_O_line_0 : decode c_O_line 0 = .ok (.aload_n 0, 1) := by decide +kernel
theorem d_O_line_1 : decode c_O_line 1 = .ok (.iload_n 1, 1) := by decide +kernel
theorem d_O_line_2 : decode c_O_line 2 = .ok (.invokevirtual 118, 3) := by decide +kernel
theorem d_O_line_5 : decode c_O_line 5 = .ok (.ifCond .ne 13, 3) := by decide +kernel
theorem d_O_line_8 : decode c_O_line 8 = .ok (.iload_n 2, 1) := by decide +kernel
theorem d_O_line_9 : decode c_O_line 9 = .ok (.ifCond .lt 9, 3) := by decide +kernel
theorem d_O_line_12 : decode c_O_line 12 = .ok (.iload_n 2, 1) := by decide +kernel
theorem d_O_line_13 : decode c_O_line 13 = .ok (.bipush 8, 2) := by decide +kernel
theorem d_O_line_15 : decode c_O_line 15 = .ok (.if_icmp .le 5, 3) := by decide +kernel
theorem d_O_line_18 : decode c_O_line 18 = .ok (.iconst 0, 1) := by decide +kernel
theorem d_O_line_19 : decode c_O_line 19 = .ok (.ireturn, 1) := by decide +kernel
theorem d_O_line_20 : decode c_O_line 20 = .ok (.aload_n 0, 1) := by decide +kernel
theorem d_O_line_21 : decode c_O_line 21 = .ok (.getfield 44, 3) := by decide +kernel
theorem d_O_line_24 : decode c_O_line 24 = .ok (.iload_n 1, 1) := by decide +kernel
theorem d_O_line_25 : decode c_O_line 25 = .ok (.iload_n 2, 1) := by decide +kernel
theorem d_O_line_26 : decode c_O_line 26 = .ok (.iastore, 1) := by decide +kernel
theorem d_O_line_27 : decode c_O_line 27 = .ok (.iconst 1, 1) := by decide +kernel
theorem d_O_line_28 : decode c_O_line 28 = .ok (.ireturn, 1) := by decide +kernel
theorem d_O_operate_0 : decode c_O_operate 0 = .ok (.aload_n 0, 1) := by decide +kernel
theorem d_O_operate_1 : decode c_O_operate 1 = .ok (.iload_n 1, 1) := by decide +kernel
theorem d_O_operate_2 : decode c_O_operate 2 = .ok (.invokevirtual 118, 3) := by decide +kernel
theorem d_O_operate_5 : decode c_O_operate 5 = .ok (.ifCond .eq 5, 3) := by decide +kernel
theorem d_O_operate_8 : decode c_O_operate 8 = .ok (.iconst 0, 1) := by decide +kernel
theorem d_O_operate_9 : decode c_O_operate 9 = .ok (.ireturn, 1) := by decide +kernel
theorem d_O_operate_10 : decode c_O_operate 10 = .ok (.aload_n 0, 1) := by decide +kernel
theorem d_O_operate_11 : decode c_O_operate 11 = .ok (.getfield 13, 3) := by decide +kernel
theorem d_O_operate_14 : decode c_O_operate 14 = .ok (.iload_n 1, 1) := by decide +kernel
theorem d_O_operate_15 : decode c_O_operate 15 = .ok (.iload_n 2, 1) := by decide +kernel
theorem d_O_operate_16 : decode c_O_operate 16 = .ok (.bastore, 1) := by decide +kernel
theorem d_O_operate_17 : decode c_O_operate 17 = .ok (.aload_n 0, 1) := by decide +kernel
theorem d_O_operate_18 : decode c_O_operate 18 = .ok (.getfield 66, 3) := by decide +kernel
theorem d_O_operate_21 : decode c_O_operate 21 = .ok (.iload_n 1, 1) := by decide +kernel
theorem d_O_operate_22 : decode c_O_operate 22 = .ok (.iconst 0, 1) := by decide +kernel
theorem d_O_operate_23 : decode c_O_operate 23 = .ok (.iastore, 1) := by decide +kernel
theorem d_O_operate_24 : decode c_O_operate 24 = .ok (.aload_n 0, 1) := by decide +kernel
theorem d_O_operate_25 : decode c_O_operate 25 = .ok (.getfield 75, 3) := by decide +kernel
theorem d_O_operate_28 : decode c_O_operate 28 = .ok (.iload_n 1, 1) := by decide +kernel
theorem d_O_operate_29 : decode c_O_operate 29 = .ok (.iconst 0, 1) := by decide +kernel
theorem d_O_operate_30 : decode c_O_operate 30 = .ok (.bastore, 1) := by decide +kernel
theorem d_O_operate_31 : decode c_O_operate 31 = .ok (.aload_n 0, 1) := by decide +kernel
theorem d_O_operate_32 : decode c_O_operate 32 = .ok (.getfield 81, 3) := by decide +kernel
theorem d_O_operate_35 : decode c_O_operate 35 = .ok (.iload_n 1, 1) := by decide +kernel
theorem d_O_operate_36 : decode c_O_operate 36 = .ok (.iload_n 2, 1) := by decide +kernel
theorem d_O_operate_37 : decode c_O_operate 37 = .ok (.ifCond .ne 7, 3) := by decide +kernel
theorem d_O_operate_40 : decode c_O_operate 40 = .ok (.iconst 1, 1) := by decide +kernel
theorem d_O_operate_41 : decode c_O_operate 41 = .ok (.goto 4, 3) := by decide +kernel
theorem d_O_operate_44 : decode c_O_operate 44 = .ok (.iconst 0, 1) := by decide +kernel
theorem d_O_operate_45 : decode c_O_operate 45 = .ok (.bastore, 1) := by decide +kernel
theorem d_O_operate_46 : decode c_O_operate 46 = .ok (.aload_n 0, 1) := by decide +kernel
theorem d_O_operate_47 : decode c_O_operate 47 = .ok (.getfield 84, 3) := by decide +kernel
theorem d_O_operate_50 : decode c_O_operate 50 = .ok (.iload_n 1, 1) := by decide +kernel
theorem d_O_operate_51 : decode c_O_operate 51 = .ok (.iconst 0, 1) := by decide +kernel
theorem d_O_operate_52 : decode c_O_operate 52 = .ok (.iastore, 1) := by decide +kernel
theorem d_O_operate_53 : decode c_O_operate 53 = .ok (.iconst 1, 1) := by decide +kernel
theorem d_O_operate_54 : decode c_O_operate 54 = .ok (.ireturn, 1) := by decide +kernel
theorem d_O_flow_0 : decode c_O_flow 0 = .ok (.iconst 0, 1) := by decide +kernel
theorem d_O_flow_1 : decode c_O_flow 1 = .ok (.istore_n 2, 1) := by decide +kernel
theorem d_O_flow_2 : decode c_O_flow 2 = .ok (.iconst 0, 1) := by decide +kernel
theorem d_O_flow_3 : decode c_O_flow 3 = .ok (.istore_n 3, 1) := by decide +kernel
theorem d_O_flow_4 : decode c_O_flow 4 = .ok (.iload_n 3, 1) := by decide +kernel
theorem d_O_flow_5 : decode c_O_flow 5 = .ok (.aload_n 0, 1) := by decide +kernel
theorem d_O_flow_6 : decode c_O_flow 6 = .ok (.getfield 111, 3) := by decide +kernel
theorem d_O_flow_9 : decode c_O_flow 9 = .ok (.if_icmp .ge 118, 3) := by decide +kernel
theorem d_O_flow_12 : decode c_O_flow 12 = .ok (.iconst 0, 1) := by decide +kernel
theorem d_O_flow_13 : decode c_O_flow 13 = .ok (.istore 4, 2) := by decide +kernel
theorem d_O_flow_15 : decode c_O_flow 15 = .ok (.iconst 1, 1) := by decide +kernel
theorem d_O_flow_16 : decode c_O_flow 16 = .ok (.istore 5, 2) := by decide +kernel
theorem d_O_flow_18 : decode c_O_flow 18 = .ok (.iload_n 3, 1) := by decide +kernel
theorem d_O_flow_19 : decode c_O_flow 19 = .ok (.istore 6, 2) := by decide +kernel
theorem d_O_flow_21 : decode c_O_flow 21 = .ok (.iconst 0, 1) := by decide +kernel
theorem d_O_flow_22 : decode c_O_flow 22 = .ok (.istore 7, 2) := by decide +kernel
theorem d_O_flow_24 : decode c_O_flow 24 = .ok (.iload 7, 2) := by decide +kernel
theorem d_O_flow_26 : decode c_O_flow 26 = .ok (.bipush 8, 2) := by decide +kernel
theorem d_O_flow_28 : decode c_O_flow 28 = .ok (.if_icmp .ge 63, 3) := by decide +kernel
theorem d_O_flow_31 : decode c_O_flow 31 = .ok (.iload 6, 2) := by decide +kernel
theorem d_O_flow_33 : decode c_O_flow 33 = .ok (.ifCond .lt 58, 3) := by decide +kernel
theorem d_O_flow_36 : decode c_O_flow 36 = .ok (.iload 4, 2) := by decide +kernel
theorem d_O_flow_38 : decode c_O_flow 38 = .ok (.ifCond .ne 9, 3) := by decide +kernel
theorem d_O_flow_41 : decode c_O_flow 41 = .ok (.iload 6, 2) := by decide +kernel
theorem d_O_flow_43 : decode c_O_flow 43 = .ok (.iload_n 1, 1) := by decide +kernel
theorem d_O_flow_44 : decode c_O_flow 44 = .ok (.if_icmp .ne 7, 3) := by decide +kernel
theorem d_O_flow_47 : decode c_O_flow 47 = .ok (.iconst 1, 1) := by decide +kernel
theorem d_O_flow_48 : decode c_O_flow 48 = .ok (.goto 4, 3) := by decide +kernel
theorem d_O_flow_51 : decode c_O_flow 51 = .ok (.iconst 0, 1) := by decide +kernel
theorem d_O_flow_52 : decode c_O_flow 52 = .ok (.istore 4, 2) := by decide +kernel
theorem d_O_flow_54 : decode c_O_flow 54 = .ok (.iload 5, 2) := by decide +kernel
theorem d_O_flow_56 : decode c_O_flow 56 = .ok (.ifCond .eq 17, 3) := by decide +kernel
theorem d_O_flow_59 : decode c_O_flow 59 = .ok (.aload_n 0, 1) := by decide +kernel
theorem d_O_flow_60 : decode c_O_flow 60 = .ok (.getfield 13, 3) := by decide +kernel
theorem d_O_flow_63 : decode c_O_flow 63 = .ok (.iload 6, 2) := by decide +kernel
theorem d_O_flow_65 : decode c_O_flow 65 = .ok (.baload, 1) := by decide +kernel
theorem d_O_flow_66 : decode c_O_flow 66 = .ok (.ifCond .eq 7, 3) := by decide +kernel
theorem d_O_flow_69 : decode c_O_flow 69 = .ok (.iconst 1, 1) := by decide +kernel
theorem d_O_flow_70 : decode c_O_flow 70 = .ok (.goto 4, 3) := by decide +kernel
theorem d_O_flow_73 : decode c_O_flow 73 = .ok (.iconst 0, 1) := by decide +kernel
theorem d_O_flow_74 : decode c_O_flow 74 = .ok (.istore 5, 2) := by decide +kernel
theorem d_O_flow_76 : decode c_O_flow 76 = .ok (.aload_n 0, 1) := by decide +kernel
theorem d_O_flow_77 : decode c_O_flow 77 = .ok (.getfield 7, 3) := by decide +kernel
theorem d_O_flow_80 : decode c_O_flow 80 = .ok (.iload 6, 2) := by decide +kernel
theorem d_O_flow_82 : decode c_O_flow 82 = .ok (.iaload, 1) := by decide +kernel
theorem d_O_flow_83 : decode c_O_flow 83 = .ok (.istore 6, 2) := by decide +kernel
theorem d_O_flow_85 : decode c_O_flow 85 = .ok (.iinc 7 1, 3) := by decide +kernel
theorem d_O_flow_88 : decode c_O_flow 88 = .ok (.goto (-64), 3) := by decide +kernel
theorem d_O_flow_91 : decode c_O_flow 91 = .ok (.iload_n 2, 1) := by decide +kernel
theorem d_O_flow_92 : decode c_O_flow 92 = .ok (.iload 4, 2) := by decide +kernel
theorem d_O_flow_94 : decode c_O_flow 94 = .ok (.ifCond .eq 24, 3) := by decide +kernel
theorem d_O_flow_97 : decode c_O_flow 97 = .ok (.iload 5, 2) := by decide +kernel
theorem d_O_flow_99 : decode c_O_flow 99 = .ok (.ifCond .eq 19, 3) := by decide +kernel
theorem d_O_flow_102 : decode c_O_flow 102 = .ok (.aload_n 0, 1) := by decide +kernel
theorem d_O_flow_103 : decode c_O_flow 103 = .ok (.getfield 20, 3) := by decide +kernel
theorem d_O_flow_106 : decode c_O_flow 106 = .ok (.iload_n 3, 1) := by decide +kernel
theorem d_O_flow_107 : decode c_O_flow 107 = .ok (.iaload, 1) := by decide +kernel
theorem d_O_flow_108 : decode c_O_flow 108 = .ok (.aload_n 0, 1) := by decide +kernel
theorem d_O_flow_109 : decode c_O_flow 109 = .ok (.getfield 23, 3) := by decide +kernel
theorem d_O_flow_112 : decode c_O_flow 112 = .ok (.iload_n 3, 1) := by decide +kernel
theorem d_O_flow_113 : decode c_O_flow 113 = .ok (.iaload, 1) := by decide +kernel
theorem d_O_flow_114 : decode c_O_flow 114 = .ok (.iadd, 1) := by decide +kernel
theorem d_O_flow_115 : decode c_O_flow 115 = .ok (.goto 4, 3) := by decide +kernel
theorem d_O_flow_118 : decode c_O_flow 118 = .ok (.iconst 0, 1) := by decide +kernel
theorem d_O_flow_119 : decode c_O_flow 119 = .ok (.iadd, 1) := by decide +kernel
theorem d_O_flow_120 : decode c_O_flow 120 = .ok (.istore_n 2, 1) := by decide +kernel
theorem d_O_flow_121 : decode c_O_flow 121 = .ok (.iinc 3 1, 3) := by decide +kernel
theorem d_O_flow_124 : decode c_O_flow 124 = .ok (.goto (-120), 3) := by decide +kernel
theorem d_O_flow_127 : decode c_O_flow 127 = .ok (.iload_n 2, 1) := by decide +kernel
theorem d_O_flow_128 : decode c_O_flow 128 = .ok (.ireturn, 1) := by decide +kernel
theorem d_O_root_0 : decode c_O_root 0 = .ok (.lconst 0, 1) := by decide +kernel
theorem d_O_root_1 : decode c_O_root 1 = .ok (.lstore_n 2, 1) := by decide +kernel
theorem d_O_root_2 : decode c_O_root 2 = .ok (.iconst 4, 1) := by decide +kernel
theorem d_O_root_3 : decode c_O_root 3 = .ok (.iload_n 1, 1) := by decide +kernel
theorem d_O_root_4 : decode c_O_root 4 = .ok (.imul, 1) := by decide +kernel
theorem d_O_root_5 : decode c_O_root 5 = .ok (.istore 4, 2) := by decide +kernel
theorem d_O_root_7 : decode c_O_root 7 = .ok (.iload 4, 2) := by decide +kernel
theorem d_O_root_9 : decode c_O_root 9 = .ok (.iconst 4, 1) := by decide +kernel
theorem d_O_root_10 : decode c_O_root 10 = .ok (.iload_n 1, 1) := by decide +kernel
theorem d_O_root_11 : decode c_O_root 11 = .ok (.imul, 1) := by decide +kernel
theorem d_O_root_12 : decode c_O_root 12 = .ok (.iconst 4, 1) := by decide +kernel
theorem d_O_root_13 : decode c_O_root 13 = .ok (.iadd, 1) := by decide +kernel
theorem d_O_root_14 : decode c_O_root 14 = .ok (.if_icmp .ge 29, 3) := by decide +kernel
theorem d_O_root_17 : decode c_O_root 17 = .ok (.lload_n 2, 1) := by decide +kernel
theorem d_O_root_18 : decode c_O_root 18 = .ok (.aload_n 0, 1) := by decide +kernel
theorem d_O_root_19 : decode c_O_root 19 = .ok (.getfield 47, 3) := by decide +kernel
theorem d_O_root_22 : decode c_O_root 22 = .ok (.iload 4, 2) := by decide +kernel
theorem d_O_root_24 : decode c_O_root 24 = .ok (.iaload, 1) := by decide +kernel
theorem d_O_root_25 : decode c_O_root 25 = .ok (.i2l, 1) := by decide +kernel
theorem d_O_root_26 : decode c_O_root 26 = .ok (.aload_n 0, 1) := by decide +kernel
theorem d_O_root_27 : decode c_O_root 27 = .ok (.getfield 47, 3) := by decide +kernel
theorem d_O_root_30 : decode c_O_root 30 = .ok (.iload 4, 2) := by decide +kernel
theorem d_O_root_32 : decode c_O_root 32 = .ok (.iaload, 1) := by decide +kernel
theorem d_O_root_33 : decode c_O_root 33 = .ok (.i2l, 1) := by decide +kernel
theorem d_O_root_34 : decode c_O_root 34 = .ok (.lmul, 1) := by decide +kernel
theorem d_O_root_35 : decode c_O_root 35 = .ok (.ladd, 1) := by decide +kernel
theorem d_O_root_36 : decode c_O_root 36 = .ok (.lstore_n 2, 1) := by decide +kernel
theorem d_O_root_37 : decode c_O_root 37 = .ok (.iinc 4 1, 3) := by decide +kernel
theorem d_O_root_40 : decode c_O_root 40 = .ok (.goto (-33), 3) := by decide +kernel
theorem d_O_root_43 : decode c_O_root 43 = .ok (.lconst 0, 1) := by decide +kernel
theorem d_O_root_44 : decode c_O_root 44 = .ok (.lstore 4, 2) := by decide +kernel
theorem d_O_root_46 : decode c_O_root 46 = .ok (.ldc2_w 122, 3) := by decide +kernel
theorem d_O_root_49 : decode c_O_root 49 = .ok (.lstore 6, 2) := by decide +kernel
theorem d_O_root_51 : decode c_O_root 51 = .ok (.lload 6, 2) := by decide +kernel
theorem d_O_root_53 : decode c_O_root 53 = .ok (.lconst 0, 1) := by decide +kernel
theorem d_O_root_54 : decode c_O_root 54 = .ok (.lcmp, 1) := by decide +kernel
theorem d_O_root_55 : decode c_O_root 55 = .ok (.ifCond .le 44, 3) := by decide +kernel
theorem d_O_root_58 : decode c_O_root 58 = .ok (.lload 4, 2) := by decide +kernel
theorem d_O_root_60 : decode c_O_root 60 = .ok (.lload 6, 2) := by decide +kernel
theorem d_O_root_62 : decode c_O_root 62 = .ok (.ladd, 1) := by decide +kernel
theorem d_O_root_63 : decode c_O_root 63 = .ok (.lstore 8, 2) := by decide +kernel
theorem d_O_root_65 : decode c_O_root 65 = .ok (.ldc2_w 124, 3) := by decide +kernel
theorem d_O_root_68 : decode c_O_root 68 = .ok (.lload 8, 2) := by decide +kernel
theorem d_O_root_70 : decode c_O_root 70 = .ok (.lmul, 1) := by decide +kernel
theorem d_O_root_71 : decode c_O_root 71 = .ok (.lload 8, 2) := by decide +kernel
theorem d_O_root_73 : decode c_O_root 73 = .ok (.lmul, 1) := by decide +kernel
theorem d_O_root_74 : decode c_O_root 74 = .ok (.lload_n 2, 1) := by decide +kernel
theorem d_O_root_75 : decode c_O_root 75 = .ok (.lcmp, 1) := by decide +kernel
theorem d_O_root_76 : decode c_O_root 76 = .ok (.ifCond .gt 8, 3) := by decide +kernel
theorem d_O_root_79 : decode c_O_root 79 = .ok (.lload 8, 2) := by decide +kernel
theorem d_O_root_81 : decode c_O_root 81 = .ok (.goto 5, 3) := by decide +kernel
theorem d_O_root_84 : decode c_O_root 84 = .ok (.lload 4, 2) := by decide +kernel
theorem d_O_root_86 : decode c_O_root 86 = .ok (.lstore 4, 2) := by decide +kernel
theorem d_O_root_88 : decode c_O_root 88 = .ok (.lload 6, 2) := by decide +kernel
theorem d_O_root_90 : decode c_O_root 90 = .ok (.ldc2_w 126, 3) := by decide +kernel
theorem d_O_root_93 : decode c_O_root 93 = .ok (.ldiv, 1) := by decide +kernel
theorem d_O_root_94 : decode c_O_root 94 = .ok (.lstore 6, 2) := by decide +kernel
theorem d_O_root_96 : decode c_O_root 96 = .ok (.goto (-45), 3) := by decide +kernel
theorem d_O_root_99 : decode c_O_root 99 = .ok (.lload 4, 2) := by decide +kernel
theorem d_O_root_101 : decode c_O_root 101 = .ok (.l2i, 1) := by decide +kernel
theorem d_O_root_102 : decode c_O_root 102 = .ok (.ireturn, 1) := by decide +kernel
theorem d_O_note_0 : decode c_O_note 0 = .ok (.aload_n 0, 1) := by decide +kernel
theorem d_O_note_1 : decode c_O_note 1 = .ok (.getfield 128, 3) := by decide +kernel
theorem d_O_note_4 : decode c_O_note 4 = .ok (.sipush 200, 3) := by decide +kernel
theorem d_O_note_7 : decode c_O_note 7 = .ok (.if_icmp .ge 41, 3) := by decide +kernel
theorem d_O_note_10 : decode c_O_note 10 = .ok (.aload_n 0, 1) := by decide +kernel
theorem d_O_note_11 : decode c_O_note 11 = .ok (.getfield 105, 3) := by decide +kernel
theorem d_O_note_14 : decode c_O_note 14 = .ok (.aload_n 0, 1) := by decide +kernel
theorem d_O_note_15 : decode c_O_note 15 = .ok (.getfield 128, 3) := by decide +kernel
theorem d_O_note_18 : decode c_O_note 18 = .ok (.iload_n 1, 1) := by decide +kernel
theorem d_O_note_19 : decode c_O_note 19 = .ok (.bipush 8, 2) := by decide +kernel
theorem d_O_note_21 : decode c_O_note 21 = .ok (.iload_n 2, 1) := by decide +kernel
theorem d_O_note_22 : decode c_O_note 22 = .ok (.imul, 1) := by decide +kernel
theorem d_O_note_23 : decode c_O_note 23 = .ok (.iadd, 1) := by decide +kernel
theorem d_O_note_24 : decode c_O_note 24 = .ok (.iastore, 1) := by decide +kernel
theorem d_O_note_25 : decode c_O_note 25 = .ok (.aload_n 0, 1) := by decide +kernel
theorem d_O_note_26 : decode c_O_note 26 = .ok (.getfield 108, 3) := by decide +kernel
theorem d_O_note_29 : decode c_O_note 29 = .ok (.aload_n 0, 1) := by decide +kernel
theorem d_O_note_30 : decode c_O_note 30 = .ok (.getfield 128, 3) := by decide +kernel
theorem d_O_note_33 : decode c_O_note 33 = .ok (.aload_n 0, 1) := by decide +kernel
theorem d_O_note_34 : decode c_O_note 34 = .ok (.getfield 115, 3) := by decide +kernel
theorem d_O_note_37 : decode c_O_note 37 = .ok (.iastore, 1) := by decide +kernel
theorem d_O_note_38 : decode c_O_note 38 = .ok (.aload_n 0, 1) := by decide +kernel
theorem d_O_note_39 : decode c_O_note 39 = .ok (.dup, 1) := by decide +kernel
theorem d_O_note_40 : decode c_O_note 40 = .ok (.getfield 128, 3) := by decide +kernel
theorem d_O_note_43 : decode c_O_note 43 = .ok (.iconst 1, 1) := by decide +kernel
theorem d_O_note_44 : decode c_O_note 44 = .ok (.iadd, 1) := by decide +kernel
theorem d_O_note_45 : decode c_O_note 45 = .ok (.putfield 128, 3) := by decide +kernel
theorem d_O_note_48 : decode c_O_note 48 = .ok (.return_, 1) := by decide +kernel
theorem d_O_send_0 : decode c_O_send 0 = .ok (.aload_n 0, 1) := by decide +kernel
theorem d_O_send_1 : decode c_O_send 1 = .ok (.getfield 7, 3) := by decide +kernel
theorem d_O_send_4 : decode c_O_send 4 = .ok (.iload_n 1, 1) := by decide +kernel
theorem d_O_send_5 : decode c_O_send 5 = .ok (.iaload, 1) := by decide +kernel
theorem d_O_send_6 : decode c_O_send 6 = .ok (.ifCond .lt 12, 3) := by decide +kernel
theorem d_O_send_9 : decode c_O_send 9 = .ok (.aload_n 0, 1) := by decide +kernel
theorem d_O_send_10 : decode c_O_send 10 = .ok (.getfield 44, 3) := by decide +kernel
theorem d_O_send_13 : decode c_O_send 13 = .ok (.iload_n 1, 1) := by decide +kernel
theorem d_O_send_14 : decode c_O_send 14 = .ok (.iaload, 1) := by decide +kernel
theorem d_O_send_15 : decode c_O_send 15 = .ok (.ifCond .ne 4, 3) := by decide +kernel
theorem d_O_send_18 : decode c_O_send 18 = .ok (.return_, 1) := by decide +kernel
theorem d_O_send_19 : decode c_O_send 19 = .ok (.bipush 16, 2) := by decide +kernel
theorem d_O_send_21 : decode c_O_send 21 = .ok (.iload_n 1, 1) := by decide +kernel
theorem d_O_send_22 : decode c_O_send 22 = .ok (.imul, 1) := by decide +kernel
theorem d_O_send_23 : decode c_O_send 23 = .ok (.aload_n 0, 1) := by decide +kernel
theorem d_O_send_24 : decode c_O_send 24 = .ok (.getfield 90, 3) := by decide +kernel
theorem d_O_send_27 : decode c_O_send 27 = .ok (.iload_n 1, 1) := by decide +kernel
theorem d_O_send_28 : decode c_O_send 28 = .ok (.iaload, 1) := by decide +kernel
theorem d_O_send_29 : decode c_O_send 29 = .ok (.iadd, 1) := by decide +kernel
theorem d_O_send_30 : decode c_O_send 30 = .ok (.istore_n 2, 1) := by decide +kernel
theorem d_O_send_31 : decode c_O_send 31 = .ok (.aload_n 0, 1) := by decide +kernel
theorem d_O_send_32 : decode c_O_send 32 = .ok (.getfield 93, 3) := by decide +kernel
theorem d_O_send_35 : decode c_O_send 35 = .ok (.iload_n 2, 1) := by decide +kernel
theorem d_O_send_36 : decode c_O_send 36 = .ok (.aload_n 0, 1) := by decide +kernel
theorem d_O_send_37 : decode c_O_send 37 = .ok (.getfield 115, 3) := by decide +kernel
theorem d_O_send_40 : decode c_O_send 40 = .ok (.aload_n 0, 1) := by decide +kernel
theorem d_O_send_41 : decode c_O_send 41 = .ok (.getfield 44, 3) := by decide +kernel
theorem d_O_send_44 : decode c_O_send 44 = .ok (.iload_n 1, 1) := by decide +kernel
theorem d_O_send_45 : decode c_O_send 45 = .ok (.iaload, 1) := by decide +kernel
theorem d_O_send_46 : decode c_O_send 46 = .ok (.iadd, 1) := by decide +kernel
theorem d_O_send_47 : decode c_O_send 47 = .ok (.iastore, 1) := by decide +kernel
theorem d_O_send_48 : decode c_O_send 48 = .ok (.aload_n 0, 1) := by decide +kernel
theorem d_O_send_49 : decode c_O_send 49 = .ok (.getfield 96, 3) := by decide +kernel
theorem d_O_send_52 : decode c_O_send 52 = .ok (.iload_n 2, 1) := by decide +kernel
theorem d_O_send_53 : decode c_O_send 53 = .ok (.iconst 2, 1) := by decide +kernel
theorem d_O_send_54 : decode c_O_send 54 = .ok (.aload_n 0, 1) := by decide +kernel
theorem d_O_send_55 : decode c_O_send 55 = .ok (.getfield 57, 3) := by decide +kernel
theorem d_O_send_58 : decode c_O_send 58 = .ok (.iload_n 1, 1) := by decide +kernel
theorem d_O_send_59 : decode c_O_send 59 = .ok (.iaload, 1) := by decide +kernel
theorem d_O_send_60 : decode c_O_send 60 = .ok (.imul, 1) := by decide +kernel
theorem d_O_send_61 : decode c_O_send 61 = .ok (.aload_n 0, 1) := by decide +kernel
theorem d_O_send_62 : decode c_O_send 62 = .ok (.getfield 54, 3) := by decide +kernel
theorem d_O_send_65 : decode c_O_send 65 = .ok (.iload_n 1, 1) := by decide +kernel
theorem d_O_send_66 : decode c_O_send 66 = .ok (.baload, 1) := by decide +kernel
theorem d_O_send_67 : decode c_O_send 67 = .ok (.ifCond .eq 7, 3) := by decide +kernel
theorem d_O_send_70 : decode c_O_send 70 = .ok (.iconst 1, 1) := by decide +kernel
theorem d_O_send_71 : decode c_O_send 71 = .ok (.goto 4, 3) := by decide +kernel
theorem d_O_send_74 : decode c_O_send 74 = .ok (.iconst 0, 1) := by decide +kernel
theorem d_O_send_75 : decode c_O_send 75 = .ok (.iadd, 1) := by decide +kernel
theorem d_O_send_76 : decode c_O_send 76 = .ok (.iastore, 1) := by decide +kernel
theorem d_O_send_77 : decode c_O_send 77 = .ok (.aload_n 0, 1) := by decide +kernel
theorem d_O_send_78 : decode c_O_send 78 = .ok (.getfield 90, 3) := by decide +kernel
theorem d_O_send_81 : decode c_O_send 81 = .ok (.iload_n 1, 1) := by decide +kernel
theorem d_O_send_82 : decode c_O_send 82 = .ok (.dup2, 1) := by decide +kernel
theorem d_O_send_83 : decode c_O_send 83 = .ok (.iaload, 1) := by decide +kernel
theorem d_O_send_84 : decode c_O_send 84 = .ok (.iconst 1, 1) := by decide +kernel
theorem d_O_send_85 : decode c_O_send 85 = .ok (.iadd, 1) := by decide +kernel
theorem d_O_send_86 : decode c_O_send 86 = .ok (.iastore, 1) := by decide +kernel
theorem d_O_send_87 : decode c_O_send 87 = .ok (.return_, 1) := by decide +kernel
theorem d_O_receive_0 : decode c_O_receive 0 = .ok (.iconst 0, 1) := by decide +kernel
theorem d_O_receive_1 : decode c_O_receive 1 = .ok (.istore_n 2, 1) := by decide +kernel
theorem d_O_receive_2 : decode c_O_receive 2 = .ok (.bipush 16, 2) := by decide +kernel
theorem d_O_receive_4 : decode c_O_receive 4 = .ok (.iload_n 1, 1) := by decide +kernel
theorem d_O_receive_5 : decode c_O_receive 5 = .ok (.imul, 1) := by decide +kernel
theorem d_O_receive_6 : decode c_O_receive 6 = .ok (.istore_n 3, 1) := by decide +kernel
theorem d_O_receive_7 : decode c_O_receive 7 = .ok (.iload_n 3, 1) := by decide +kernel
theorem d_O_receive_8 : decode c_O_receive 8 = .ok (.bipush 16, 2) := by decide +kernel
theorem d_O_receive_10 : decode c_O_receive 10 = .ok (.iload_n 1, 1) := by decide +kernel
theorem d_O_receive_11 : decode c_O_receive 11 = .ok (.imul, 1) := by decide +kernel
theorem d_O_receive_12 : decode c_O_receive 12 = .ok (.aload_n 0, 1) := by decide +kernel
theorem d_O_receive_13 : decode c_O_receive 13 = .ok (.getfield 90, 3) := by decide +kernel
theorem d_O_receive_16 : decode c_O_receive 16 = .ok (.iload_n 1, 1) := by decide +kernel
theorem d_O_receive_17 : decode c_O_receive 17 = .ok (.iaload, 1) := by decide +kernel
theorem d_O_receive_18 : decode c_O_receive 18 = .ok (.iadd, 1) := by decide +kernel
theorem d_O_receive_19 : decode c_O_receive 19 = .ok (.if_icmp .ge 135, 3) := by decide +kernel
theorem d_O_receive_22 : decode c_O_receive 22 = .ok (.aload_n 0, 1) := by decide +kernel
theorem d_O_receive_23 : decode c_O_receive 23 = .ok (.getfield 93, 3) := by decide +kernel
theorem d_O_receive_26 : decode c_O_receive 26 = .ok (.iload_n 3, 1) := by decide +kernel
theorem d_O_receive_27 : decode c_O_receive 27 = .ok (.iaload, 1) := by decide +kernel
theorem d_O_receive_28 : decode c_O_receive 28 = .ok (.aload_n 0, 1) := by decide +kernel
theorem d_O_receive_29 : decode c_O_receive 29 = .ok (.getfield 115, 3) := by decide +kernel
theorem d_O_receive_32 : decode c_O_receive 32 = .ok (.if_icmp .ne 79, 3) := by decide +kernel
theorem d_O_receive_35 : decode c_O_receive 35 = .ok (.aload_n 0, 1) := by decide +kernel
theorem d_O_receive_36 : decode c_O_receive 36 = .ok (.getfield 96, 3) := by decide +kernel
theorem d_O_receive_39 : decode c_O_receive 39 = .ok (.iload_n 3, 1) := by decide +kernel
theorem d_O_receive_40 : decode c_O_receive 40 = .ok (.iaload, 1) := by decide +kernel
theorem d_O_receive_41 : decode c_O_receive 41 = .ok (.iconst 2, 1) := by decide +kernel
theorem d_O_receive_42 : decode c_O_receive 42 = .ok (.idiv, 1) := by decide +kernel
theorem d_O_receive_43 : decode c_O_receive 43 = .ok (.aload_n 0, 1) := by decide +kernel
theorem d_O_receive_44 : decode c_O_receive 44 = .ok (.getfield 99, 3) := by decide +kernel
theorem d_O_receive_47 : decode c_O_receive 47 = .ok (.iload_n 1, 1) := by decide +kernel
theorem d_O_receive_48 : decode c_O_receive 48 = .ok (.iaload, 1) := by decide +kernel
theorem d_O_receive_49 : decode c_O_receive 49 = .ok (.iconst 2, 1) := by decide +kernel
theorem d_O_receive_50 : decode c_O_receive 50 = .ok (.idiv, 1) := by decide +kernel
theorem d_O_receive_51 : decode c_O_receive 51 = .ok (.if_icmp .le 28, 3) := by decide +kernel
theorem d_O_receive_54 : decode c_O_receive 54 = .ok (.aload_n 0, 1) := by decide +kernel
theorem d_O_receive_55 : decode c_O_receive 55 = .ok (.getfield 99, 3) := by decide +kernel
theorem d_O_receive_58 : decode c_O_receive 58 = .ok (.iload_n 1, 1) := by decide +kernel
theorem d_O_receive_59 : decode c_O_receive 59 = .ok (.aload_n 0, 1) := by decide +kernel
theorem d_O_receive_60 : decode c_O_receive 60 = .ok (.getfield 96, 3) := by decide +kernel
theorem d_O_receive_63 : decode c_O_receive 63 = .ok (.iload_n 3, 1) := by decide +kernel
theorem d_O_receive_64 : decode c_O_receive 64 = .ok (.iaload, 1) := by decide +kernel
theorem d_O_receive_65 : decode c_O_receive 65 = .ok (.iastore, 1) := by decide +kernel
theorem d_O_receive_66 : decode c_O_receive 66 = .ok (.aload_n 0, 1) := by decide +kernel
theorem d_O_receive_67 : decode c_O_receive 67 = .ok (.getfield 102, 3) := by decide +kernel
theorem d_O_receive_70 : decode c_O_receive 70 = .ok (.iload_n 1, 1) := by decide +kernel
theorem d_O_receive_71 : decode c_O_receive 71 = .ok (.aload_n 0, 1) := by decide +kernel
theorem d_O_receive_72 : decode c_O_receive 72 = .ok (.getfield 115, 3) := by decide +kernel
theorem d_O_receive_75 : decode c_O_receive 75 = .ok (.iastore, 1) := by decide +kernel
theorem d_O_receive_76 : decode c_O_receive 76 = .ok (.goto 72, 3) := by decide +kernel
theorem d_O_receive_79 : decode c_O_receive 79 = .ok (.aload_n 0, 1) := by decide +kernel
theorem d_O_receive_80 : decode c_O_receive 80 = .ok (.getfield 96, 3) := by decide +kernel
theorem d_O_receive_83 : decode c_O_receive 83 = .ok (.iload_n 3, 1) := by decide +kernel
theorem d_O_receive_84 : decode c_O_receive 84 = .ok (.iaload, 1) := by decide +kernel
theorem d_O_receive_85 : decode c_O_receive 85 = .ok (.iconst 2, 1) := by decide +kernel
theorem d_O_receive_86 : decode c_O_receive 86 = .ok (.idiv, 1) := by decide +kernel
theorem d_O_receive_87 : decode c_O_receive 87 = .ok (.aload_n 0, 1) := by decide +kernel
theorem d_O_receive_88 : decode c_O_receive 88 = .ok (.getfield 99, 3) := by decide +kernel
theorem d_O_receive_91 : decode c_O_receive 91 = .ok (.iload_n 1, 1) := by decide +kernel
theorem d_O_receive_92 : decode c_O_receive 92 = .ok (.iaload, 1) := by decide +kernel
theorem d_O_receive_93 : decode c_O_receive 93 = .ok (.iconst 2, 1) := by decide +kernel
theorem d_O_receive_94 : decode c_O_receive 94 = .ok (.idiv, 1) := by decide +kernel
theorem d_O_receive_95 : decode c_O_receive 95 = .ok (.if_icmp .ne 53, 3) := by decide +kernel
theorem d_O_receive_98 : decode c_O_receive 98 = .ok (.aload_n 0, 1) := by decide +kernel
theorem d_O_receive_99 : decode c_O_receive 99 = .ok (.getfield 102, 3) := by decide +kernel
theorem d_O_receive_102 : decode c_O_receive 102 = .ok (.iload_n 1, 1) := by decide +kernel
theorem d_O_receive_103 : decode c_O_receive 103 = .ok (.aload_n 0, 1) := by decide +kernel
theorem d_O_receive_104 : decode c_O_receive 104 = .ok (.getfield 115, 3) := by decide +kernel
theorem d_O_receive_107 : decode c_O_receive 107 = .ok (.iastore, 1) := by decide +kernel
theorem d_O_receive_108 : decode c_O_receive 108 = .ok (.goto 40, 3) := by decide +kernel
theorem d_O_receive_111 : decode c_O_receive 111 = .ok (.aload_n 0, 1) := by decide +kernel
theorem d_O_receive_112 : decode c_O_receive 112 = .ok (.getfield 93, 3) := by decide +kernel
theorem d_O_receive_115 : decode c_O_receive 115 = .ok (.bipush 16, 2) := by decide +kernel
theorem d_O_receive_117 : decode c_O_receive 117 = .ok (.iload_n 1, 1) := by decide +kernel
theorem d_O_receive_118 : decode c_O_receive 118 = .ok (.imul, 1) := by decide +kernel
theorem d_O_receive_119 : decode c_O_receive 119 = .ok (.iload_n 2, 1) := by decide +kernel
theorem d_O_receive_120 : decode c_O_receive 120 = .ok (.iadd, 1) := by decide +kernel
theorem d_O_receive_121 : decode c_O_receive 121 = .ok (.aload_n 0, 1) := by decide +kernel
theorem d_O_receive_122 : decode c_O_receive 122 = .ok (.getfield 93, 3) := by decide +kernel
theorem d_O_receive_125 : decode c_O_receive 125 = .ok (.iload_n 3, 1) := by decide +kernel
theorem d_O_receive_126 : decode c_O_receive 126 = .ok (.iaload, 1) := by decide +kernel
theorem d_O_receive_127 : decode c_O_receive 127 = .ok (.iastore, 1) := by decide +kernel
theorem d_O_receive_128 : decode c_O_receive 128 = .ok (.aload_n 0, 1) := by decide +kernel
theorem d_O_receive_129 : decode c_O_receive 129 = .ok (.getfield 96, 3) := by decide +kernel
theorem d_O_receive_132 : decode c_O_receive 132 = .ok (.bipush 16, 2) := by decide +kernel
theorem d_O_receive_134 : decode c_O_receive 134 = .ok (.iload_n 1, 1) := by decide +kernel
theorem d_O_receive_135 : decode c_O_receive 135 = .ok (.imul, 1) := by decide +kernel
theorem d_O_receive_136 : decode c_O_receive 136 = .ok (.iload_n 2, 1) := by decide +kernel
theorem d_O_receive_137 : decode c_O_receive 137 = .ok (.iadd, 1) := by decide +kernel
theorem d_O_receive_138 : decode c_O_receive 138 = .ok (.aload_n 0, 1) := by decide +kernel
theorem d_O_receive_139 : decode c_O_receive 139 = .ok (.getfield 96, 3) := by decide +kernel
theorem d_O_receive_142 : decode c_O_receive 142 = .ok (.iload_n 3, 1) := by decide +kernel
theorem d_O_receive_143 : decode c_O_receive 143 = .ok (.iaload, 1) := by decide +kernel
theorem d_O_receive_144 : decode c_O_receive 144 = .ok (.iastore, 1) := by decide +kernel
theorem d_O_receive_145 : decode c_O_receive 145 = .ok (.iinc 2 1, 3) := by decide +kernel
theorem d_O_receive_148 : decode c_O_receive 148 = .ok (.iinc 3 1, 3) := by decide +kernel
theorem d_O_receive_151 : decode c_O_receive 151 = .ok (.goto (-144), 3) := by decide +kernel
theorem d_O_receive_154 : decode c_O_receive 154 = .ok (.aload_n 0, 1) := by decide +kernel
theorem d_O_receive_155 : decode c_O_receive 155 = .ok (.getfield 90, 3) := by decide +kernel
theorem d_O_receive_158 : decode c_O_receive 158 = .ok (.iload_n 1, 1) := by decide +kernel
theorem d_O_receive_159 : decode c_O_receive 159 = .ok (.iload_n 2, 1) := by decide +kernel
theorem d_O_receive_160 : decode c_O_receive 160 = .ok (.iastore, 1) := by decide +kernel
theorem d_O_receive_161 : decode c_O_receive 161 = .ok (.return_, 1) := by decide +kernel
theorem d_O_blocked_0 : decode c_O_blocked 0 = .ok (.iconst 0, 1) := by decide +kernel
theorem d_O_blocked_1 : decode c_O_blocked 1 = .ok (.istore_n 2, 1) := by decide +kernel
theorem d_O_blocked_2 : decode c_O_blocked 2 = .ok (.iconst 0, 1) := by decide +kernel
theorem d_O_blocked_3 : decode c_O_blocked 3 = .ok (.istore_n 3, 1) := by decide +kernel
theorem d_O_blocked_4 : decode c_O_blocked 4 = .ok (.iload_n 3, 1) := by decide +kernel
theorem d_O_blocked_5 : decode c_O_blocked 5 = .ok (.aload_n 0, 1) := by decide +kernel
theorem d_O_blocked_6 : decode c_O_blocked 6 = .ok (.getfield 111, 3) := by decide +kernel
theorem d_O_blocked_9 : decode c_O_blocked 9 = .ok (.if_icmp .ge 57, 3) := by decide +kernel
theorem d_O_blocked_12 : decode c_O_blocked 12 = .ok (.iload_n 2, 1) := by decide +kernel
theorem d_O_blocked_13 : decode c_O_blocked 13 = .ok (.ifCond .ne 41, 3) := by decide +kernel
theorem d_O_blocked_16 : decode c_O_blocked 16 = .ok (.aload_n 0, 1) := by decide +kernel
theorem d_O_blocked_17 : decode c_O_blocked 17 = .ok (.getfield 7, 3) := by decide +kernel
theorem d_O_blocked_20 : decode c_O_blocked 20 = .ok (.iload_n 3, 1) := by decide +kernel
theorem d_O_blocked_21 : decode c_O_blocked 21 = .ok (.iaload, 1) := by decide +kernel
theorem d_O_blocked_22 : decode c_O_blocked 22 = .ok (.iload_n 1, 1) := by decide +kernel
theorem d_O_blocked_23 : decode c_O_blocked 23 = .ok (.if_icmp .ne 35, 3) := by decide +kernel
theorem d_O_blocked_26 : decode c_O_blocked 26 = .ok (.aload_n 0, 1) := by decide +kernel
theorem d_O_blocked_27 : decode c_O_blocked 27 = .ok (.getfield 99, 3) := by decide +kernel
theorem d_O_blocked_30 : decode c_O_blocked 30 = .ok (.iload_n 3, 1) := by decide +kernel
theorem d_O_blocked_31 : decode c_O_blocked 31 = .ok (.iaload, 1) := by decide +kernel
theorem d_O_blocked_32 : decode c_O_blocked 32 = .ok (.iconst 2, 1) := by decide +kernel
theorem d_O_blocked_33 : decode c_O_blocked 33 = .ok (.irem, 1) := by decide +kernel
theorem d_O_blocked_34 : decode c_O_blocked 34 = .ok (.iconst 1, 1) := by decide +kernel
theorem d_O_blocked_35 : decode c_O_blocked 35 = .ok (.if_icmp .ne 23, 3) := by decide +kernel
theorem d_O_blocked_38 : decode c_O_blocked 38 = .ok (.aload_n 0, 1) := by decide +kernel
theorem d_O_blocked_39 : decode c_O_blocked 39 = .ok (.getfield 115, 3) := by decide +kernel
theorem d_O_blocked_42 : decode c_O_blocked 42 = .ok (.aload_n 0, 1) := by decide +kernel
theorem d_O_blocked_43 : decode c_O_blocked 43 = .ok (.getfield 102, 3) := by decide +kernel
theorem d_O_blocked_46 : decode c_O_blocked 46 = .ok (.iload_n 3, 1) := by decide +kernel
theorem d_O_blocked_47 : decode c_O_blocked 47 = .ok (.iaload, 1) := by decide +kernel
theorem d_O_blocked_48 : decode c_O_blocked 48 = .ok (.isub, 1) := by decide +kernel
theorem d_O_blocked_49 : decode c_O_blocked 49 = .ok (.bipush 12, 2) := by decide +kernel
theorem d_O_blocked_51 : decode c_O_blocked 51 = .ok (.if_icmp .gt 7, 3) := by decide +kernel
theorem d_O_blocked_54 : decode c_O_blocked 54 = .ok (.iconst 1, 1) := by decide +kernel
theorem d_O_blocked_55 : decode c_O_blocked 55 = .ok (.goto 4, 3) := by decide +kernel
theorem d_O_blocked_58 : decode c_O_blocked 58 = .ok (.iconst 0, 1) := by decide +kernel
theorem d_O_blocked_59 : decode c_O_blocked 59 = .ok (.istore_n 2, 1) := by decide +kernel
theorem d_O_blocked_60 : decode c_O_blocked 60 = .ok (.iinc 3 1, 3) := by decide +kernel
theorem d_O_blocked_63 : decode c_O_blocked 63 = .ok (.goto (-59), 3) := by decide +kernel
theorem d_O_blocked_66 : decode c_O_blocked 66 = .ok (.aload_n 0, 1) := by decide +kernel
theorem d_O_blocked_67 : decode c_O_blocked 67 = .ok (.getfield 35, 3) := by decide +kernel
theorem d_O_blocked_70 : decode c_O_blocked 70 = .ok (.iload_n 1, 1) := by decide +kernel
theorem d_O_blocked_71 : decode c_O_blocked 71 = .ok (.baload, 1) := by decide +kernel
theorem d_O_blocked_72 : decode c_O_blocked 72 = .ok (.ifCond .eq 11, 3) := by decide +kernel
theorem d_O_blocked_75 : decode c_O_blocked 75 = .ok (.iload_n 2, 1) := by decide +kernel
theorem d_O_blocked_76 : decode c_O_blocked 76 = .ok (.ifCond .eq 7, 3) := by decide +kernel
theorem d_O_blocked_79 : decode c_O_blocked 79 = .ok (.iconst 1, 1) := by decide +kernel
theorem d_O_blocked_80 : decode c_O_blocked 80 = .ok (.goto 4, 3) := by decide +kernel
theorem d_O_blocked_83 : decode c_O_blocked 83 = .ok (.iconst 0, 1) := by decide +kernel
theorem d_O_blocked_84 : decode c_O_blocked 84 = .ok (.ireturn, 1) := by decide +kernel
theorem d_O_breaker_0 : decode c_O_breaker 0 = .ok (.aload_n 0, 1) := by decide +kernel
theorem d_O_breaker_1 : decode c_O_breaker 1 = .ok (.getfield 66, 3) := by decide +kernel
theorem d_O_breaker_4 : decode c_O_breaker 4 = .ok (.iload_n 1, 1) := by decide +kernel
theorem d_O_breaker_5 : decode c_O_breaker 5 = .ok (.iaload, 1) := by decide +kernel
theorem d_O_breaker_6 : decode c_O_breaker 6 = .ok (.ifCond .le 149, 3) := by decide +kernel
theorem d_O_breaker_9 : decode c_O_breaker 9 = .ok (.aload_n 0, 1) := by decide +kernel
theorem d_O_breaker_10 : decode c_O_breaker 10 = .ok (.getfield 115, 3) := by decide +kernel
theorem d_O_breaker_13 : decode c_O_breaker 13 = .ok (.aload_n 0, 1) := by decide +kernel
theorem d_O_breaker_14 : decode c_O_breaker 14 = .ok (.getfield 69, 3) := by decide +kernel
theorem d_O_breaker_17 : decode c_O_breaker 17 = .ok (.iload_n 1, 1) := by decide +kernel
theorem d_O_breaker_18 : decode c_O_breaker 18 = .ok (.iaload, 1) := by decide +kernel
theorem d_O_breaker_19 : decode c_O_breaker 19 = .ok (.isub, 1) := by decide +kernel
theorem d_O_breaker_20 : decode c_O_breaker 20 = .ok (.iconst 2, 1) := by decide +kernel
theorem d_O_breaker_21 : decode c_O_breaker 21 = .ok (.if_icmp .lt 134, 3) := by decide +kernel
theorem d_O_breaker_24 : decode c_O_breaker 24 = .ok (.aload_n 0, 1) := by decide +kernel
theorem d_O_breaker_25 : decode c_O_breaker 25 = .ok (.getfield 17, 3) := by decide +kernel
theorem d_O_breaker_28 : decode c_O_breaker 28 = .ok (.iload_n 1, 1) := by decide +kernel
theorem d_O_breaker_29 : decode c_O_breaker 29 = .ok (.baload, 1) := by decide +kernel
theorem d_O_breaker_30 : decode c_O_breaker 30 = .ok (.ifCond .ne 125, 3) := by decide +kernel
theorem d_O_breaker_33 : decode c_O_breaker 33 = .ok (.aload_n 0, 1) := by decide +kernel
theorem d_O_breaker_34 : decode c_O_breaker 34 = .ok (.getfield 66, 3) := by decide +kernel
theorem d_O_breaker_37 : decode c_O_breaker 37 = .ok (.iload_n 1, 1) := by decide +kernel
theorem d_O_breaker_38 : decode c_O_breaker 38 = .ok (.iaload, 1) := by decide +kernel
theorem d_O_breaker_39 : decode c_O_breaker 39 = .ok (.iconst 1, 1) := by decide +kernel
theorem d_O_breaker_40 : decode c_O_breaker 40 = .ok (.if_icmp .ne 7, 3) := by decide +kernel
theorem d_O_breaker_43 : decode c_O_breaker 43 = .ok (.iconst 1, 1) := by decide +kernel
theorem d_O_breaker_44 : decode c_O_breaker 44 = .ok (.goto 4, 3) := by decide +kernel
theorem d_O_breaker_47 : decode c_O_breaker 47 = .ok (.iconst 0, 1) := by decide +kernel
theorem d_O_breaker_48 : decode c_O_breaker 48 = .ok (.istore_n 2, 1) := by decide +kernel
theorem d_O_breaker_49 : decode c_O_breaker 49 = .ok (.aload_n 0, 1) := by decide +kernel
theorem d_O_breaker_50 : decode c_O_breaker 50 = .ok (.getfield 13, 3) := by decide +kernel
theorem d_O_breaker_53 : decode c_O_breaker 53 = .ok (.iload_n 1, 1) := by decide +kernel
theorem d_O_breaker_54 : decode c_O_breaker 54 = .ok (.iconst 0, 1) := by decide +kernel
theorem d_O_breaker_55 : decode c_O_breaker 55 = .ok (.bastore, 1) := by decide +kernel
theorem d_O_breaker_56 : decode c_O_breaker 56 = .ok (.aload_n 0, 1) := by decide +kernel
theorem d_O_breaker_57 : decode c_O_breaker 57 = .ok (.getfield 66, 3) := by decide +kernel
theorem d_O_breaker_60 : decode c_O_breaker 60 = .ok (.iload_n 1, 1) := by decide +kernel
theorem d_O_breaker_61 : decode c_O_breaker 61 = .ok (.iconst 0, 1) := by decide +kernel
theorem d_O_breaker_62 : decode c_O_breaker 62 = .ok (.iastore, 1) := by decide +kernel
theorem d_O_breaker_63 : decode c_O_breaker 63 = .ok (.aload_n 0, 1) := by decide +kernel
theorem d_O_breaker_64 : decode c_O_breaker 64 = .ok (.iconst 2, 1) := by decide +kernel
theorem d_O_breaker_65 : decode c_O_breaker 65 = .ok (.iload_n 1, 1) := by decide +kernel
theorem d_O_breaker_66 : decode c_O_breaker 66 = .ok (.invokevirtual 131, 3) := by decide +kernel
theorem d_O_breaker_69 : decode c_O_breaker 69 = .ok (.iload_n 2, 1) := by decide +kernel
theorem d_O_breaker_70 : decode c_O_breaker 70 = .ok (.ifCond .eq 69, 3) := by decide +kernel
theorem d_O_breaker_73 : decode c_O_breaker 73 = .ok (.aload_n 0, 1) := by decide +kernel
theorem d_O_breaker_74 : decode c_O_breaker 74 = .ok (.getfield 84, 3) := by decide +kernel
theorem d_O_breaker_77 : decode c_O_breaker 77 = .ok (.iload_n 1, 1) := by decide +kernel
theorem d_O_breaker_78 : decode c_O_breaker 78 = .ok (.iaload, 1) := by decide +kernel
theorem d_O_breaker_79 : decode c_O_breaker 79 = .ok (.aload_n 0, 1) := by decide +kernel
theorem d_O_breaker_80 : decode c_O_breaker 80 = .ok (.getfield 38, 3) := by decide +kernel
theorem d_O_breaker_83 : decode c_O_breaker 83 = .ok (.iload_n 1, 1) := by decide +kernel
theorem d_O_breaker_84 : decode c_O_breaker 84 = .ok (.iaload, 1) := by decide +kernel
theorem d_O_breaker_85 : decode c_O_breaker 85 = .ok (.if_icmp .ge 54, 3) := by decide +kernel
theorem d_O_breaker_88 : decode c_O_breaker 88 = .ok (.aload_n 0, 1) := by decide +kernel
theorem d_O_breaker_89 : decode c_O_breaker 89 = .ok (.getfield 75, 3) := by decide +kernel
theorem d_O_breaker_92 : decode c_O_breaker 92 = .ok (.iload_n 1, 1) := by decide +kernel
theorem d_O_breaker_93 : decode c_O_breaker 93 = .ok (.iconst 1, 1) := by decide +kernel
theorem d_O_breaker_94 : decode c_O_breaker 94 = .ok (.bastore, 1) := by decide +kernel
theorem d_O_breaker_95 : decode c_O_breaker 95 = .ok (.aload_n 0, 1) := by decide +kernel
theorem d_O_breaker_96 : decode c_O_breaker 96 = .ok (.getfield 78, 3) := by decide +kernel
theorem d_O_breaker_99 : decode c_O_breaker 99 = .ok (.iload_n 1, 1) := by decide +kernel
theorem d_O_breaker_100 : decode c_O_breaker 100 = .ok (.aload_n 0, 1) := by decide +kernel
theorem d_O_breaker_101 : decode c_O_breaker 101 = .ok (.getfield 115, 3) := by decide +kernel
theorem d_O_breaker_104 : decode c_O_breaker 104 = .ok (.aload_n 0, 1) := by decide +kernel
theorem d_O_breaker_105 : decode c_O_breaker 105 = .ok (.getfield 84, 3) := by decide +kernel
theorem d_O_breaker_108 : decode c_O_breaker 108 = .ok (.iload_n 1, 1) := by decide +kernel
theorem d_O_breaker_109 : decode c_O_breaker 109 = .ok (.iaload, 1) := by decide +kernel
theorem d_O_breaker_110 : decode c_O_breaker 110 = .ok (.ifCond .ne 7, 3) := by decide +kernel
theorem d_O_breaker_113 : decode c_O_breaker 113 = .ok (.iconst 5, 1) := by decide +kernel
theorem d_O_breaker_114 : decode c_O_breaker 114 = .ok (.goto 20, 3) := by decide +kernel
theorem d_O_breaker_117 : decode c_O_breaker 117 = .ok (.aload_n 0, 1) := by decide +kernel
theorem d_O_breaker_118 : decode c_O_breaker 118 = .ok (.getfield 84, 3) := by decide +kernel
theorem d_O_breaker_121 : decode c_O_breaker 121 = .ok (.iload_n 1, 1) := by decide +kernel
theorem d_O_breaker_122 : decode c_O_breaker 122 = .ok (.iaload, 1) := by decide +kernel
theorem d_O_breaker_123 : decode c_O_breaker 123 = .ok (.iconst 1, 1) := by decide +kernel
theorem d_O_breaker_124 : decode c_O_breaker 124 = .ok (.if_icmp .ne 8, 3) := by decide +kernel
theorem d_O_breaker_127 : decode c_O_breaker 127 = .ok (.bipush 20, 2) := by decide +kernel
theorem d_O_breaker_129 : decode c_O_breaker 129 = .ok (.goto 5, 3) := by decide +kernel
theorem d_O_breaker_132 : decode c_O_breaker 132 = .ok (.bipush 50, 2) := by decide +kernel
theorem d_O_breaker_134 : decode c_O_breaker 134 = .ok (.iadd, 1) := by decide +kernel
theorem d_O_breaker_135 : decode c_O_breaker 135 = .ok (.iastore, 1) := by decide +kernel
theorem d_O_breaker_136 : decode c_O_breaker 136 = .ok (.goto 16, 3) := by decide +kernel
theorem d_O_breaker_139 : decode c_O_breaker 139 = .ok (.aload_n 0, 1) := by decide +kernel
theorem d_O_breaker_140 : decode c_O_breaker 140 = .ok (.getfield 81, 3) := by decide +kernel
theorem d_O_breaker_143 : decode c_O_breaker 143 = .ok (.iload_n 1, 1) := by decide +kernel
theorem d_O_breaker_144 : decode c_O_breaker 144 = .ok (.iconst 1, 1) := by decide +kernel
theorem d_O_breaker_145 : decode c_O_breaker 145 = .ok (.bastore, 1) := by decide +kernel
theorem d_O_breaker_146 : decode c_O_breaker 146 = .ok (.aload_n 0, 1) := by decide +kernel
theorem d_O_breaker_147 : decode c_O_breaker 147 = .ok (.iconst 5, 1) := by decide +kernel
theorem d_O_breaker_148 : decode c_O_breaker 148 = .ok (.iload_n 1, 1) := by decide +kernel
theorem d_O_breaker_149 : decode c_O_breaker 149 = .ok (.invokevirtual 131, 3) := by decide +kernel
theorem d_O_breaker_152 : decode c_O_breaker 152 = .ok (.goto 124, 3) := by decide +kernel
theorem d_O_breaker_155 : decode c_O_breaker 155 = .ok (.aload_n 0, 1) := by decide +kernel
theorem d_O_breaker_156 : decode c_O_breaker 156 = .ok (.getfield 75, 3) := by decide +kernel
theorem d_O_breaker_159 : decode c_O_breaker 159 = .ok (.iload_n 1, 1) := by decide +kernel
theorem d_O_breaker_160 : decode c_O_breaker 160 = .ok (.baload, 1) := by decide +kernel
theorem d_O_breaker_161 : decode c_O_breaker 161 = .ok (.ifCond .eq 62, 3) := by decide +kernel
theorem d_O_breaker_164 : decode c_O_breaker 164 = .ok (.aload_n 0, 1) := by decide +kernel
theorem d_O_breaker_165 : decode c_O_breaker 165 = .ok (.getfield 115, 3) := by decide +kernel
theorem d_O_breaker_168 : decode c_O_breaker 168 = .ok (.aload_n 0, 1) := by decide +kernel
theorem d_O_breaker_169 : decode c_O_breaker 169 = .ok (.getfield 78, 3) := by decide +kernel
theorem d_O_breaker_172 : decode c_O_breaker 172 = .ok (.iload_n 1, 1) := by decide +kernel
theorem d_O_breaker_173 : decode c_O_breaker 173 = .ok (.iaload, 1) := by decide +kernel
theorem d_O_breaker_174 : decode c_O_breaker 174 = .ok (.if_icmp .lt 49, 3) := by decide +kernel
theorem d_O_breaker_177 : decode c_O_breaker 177 = .ok (.aload_n 0, 1) := by decide +kernel
theorem d_O_breaker_178 : decode c_O_breaker 178 = .ok (.getfield 13, 3) := by decide +kernel
theorem d_O_breaker_181 : decode c_O_breaker 181 = .ok (.iload_n 1, 1) := by decide +kernel
theorem d_O_breaker_182 : decode c_O_breaker 182 = .ok (.iconst 1, 1) := by decide +kernel
theorem d_O_breaker_183 : decode c_O_breaker 183 = .ok (.bastore, 1) := by decide +kernel
theorem d_O_breaker_184 : decode c_O_breaker 184 = .ok (.aload_n 0, 1) := by decide +kernel
theorem d_O_breaker_185 : decode c_O_breaker 185 = .ok (.getfield 75, 3) := by decide +kernel
theorem d_O_breaker_188 : decode c_O_breaker 188 = .ok (.iload_n 1, 1) := by decide +kernel
theorem d_O_breaker_189 : decode c_O_breaker 189 = .ok (.iconst 0, 1) := by decide +kernel
theorem d_O_breaker_190 : decode c_O_breaker 190 = .ok (.bastore, 1) := by decide +kernel
theorem d_O_breaker_191 : decode c_O_breaker 191 = .ok (.aload_n 0, 1) := by decide +kernel
theorem d_O_breaker_192 : decode c_O_breaker 192 = .ok (.getfield 84, 3) := by decide +kernel
theorem d_O_breaker_195 : decode c_O_breaker 195 = .ok (.iload_n 1, 1) := by decide +kernel
theorem d_O_breaker_196 : decode c_O_breaker 196 = .ok (.dup2, 1) := by decide +kernel
theorem d_O_breaker_197 : decode c_O_breaker 197 = .ok (.iaload, 1) := by decide +kernel
theorem d_O_breaker_198 : decode c_O_breaker 198 = .ok (.iconst 1, 1) := by decide +kernel
theorem d_O_breaker_199 : decode c_O_breaker 199 = .ok (.iadd, 1) := by decide +kernel
theorem d_O_breaker_200 : decode c_O_breaker 200 = .ok (.iastore, 1) := by decide +kernel
theorem d_O_breaker_201 : decode c_O_breaker 201 = .ok (.aload_n 0, 1) := by decide +kernel
theorem d_O_breaker_202 : decode c_O_breaker 202 = .ok (.getfield 87, 3) := by decide +kernel
theorem d_O_breaker_205 : decode c_O_breaker 205 = .ok (.iload_n 1, 1) := by decide +kernel
theorem d_O_breaker_206 : decode c_O_breaker 206 = .ok (.aload_n 0, 1) := by decide +kernel
theorem d_O_breaker_207 : decode c_O_breaker 207 = .ok (.getfield 115, 3) := by decide +kernel
theorem d_O_breaker_210 : decode c_O_breaker 210 = .ok (.bipush 30, 2) := by decide +kernel
theorem d_O_breaker_212 : decode c_O_breaker 212 = .ok (.iadd, 1) := by decide +kernel
theorem d_O_breaker_213 : decode c_O_breaker 213 = .ok (.iastore, 1) := by decide +kernel
theorem d_O_breaker_214 : decode c_O_breaker 214 = .ok (.aload_n 0, 1) := by decide +kernel
theorem d_O_breaker_215 : decode c_O_breaker 215 = .ok (.iconst 3, 1) := by decide +kernel
theorem d_O_breaker_216 : decode c_O_breaker 216 = .ok (.iload_n 1, 1) := by decide +kernel
theorem d_O_breaker_217 : decode c_O_breaker 217 = .ok (.invokevirtual 131, 3) := by decide +kernel
theorem d_O_breaker_220 : decode c_O_breaker 220 = .ok (.goto 56, 3) := by decide +kernel
theorem d_O_breaker_223 : decode c_O_breaker 223 = .ok (.aload_n 0, 1) := by decide +kernel
theorem d_O_breaker_224 : decode c_O_breaker 224 = .ok (.getfield 84, 3) := by decide +kernel
theorem d_O_breaker_227 : decode c_O_breaker 227 = .ok (.iload_n 1, 1) := by decide +kernel
theorem d_O_breaker_228 : decode c_O_breaker 228 = .ok (.iaload, 1) := by decide +kernel
theorem d_O_breaker_229 : decode c_O_breaker 229 = .ok (.ifCond .le 47, 3) := by decide +kernel
theorem d_O_breaker_232 : decode c_O_breaker 232 = .ok (.aload_n 0, 1) := by decide +kernel
theorem d_O_breaker_233 : decode c_O_breaker 233 = .ok (.getfield 13, 3) := by decide +kernel
theorem d_O_breaker_236 : decode c_O_breaker 236 = .ok (.iload_n 1, 1) := by decide +kernel
theorem d_O_breaker_237 : decode c_O_breaker 237 = .ok (.baload, 1) := by decide +kernel
theorem d_O_breaker_238 : decode c_O_breaker 238 = .ok (.ifCond .eq 38, 3) := by decide +kernel
theorem d_O_breaker_241 : decode c_O_breaker 241 = .ok (.aload_n 0, 1) := by decide +kernel
theorem d_O_breaker_242 : decode c_O_breaker 242 = .ok (.getfield 66, 3) := by decide +kernel
theorem d_O_breaker_245 : decode c_O_breaker 245 = .ok (.iload_n 1, 1) := by decide +kernel
theorem d_O_breaker_246 : decode c_O_breaker 246 = .ok (.iaload, 1) := by decide +kernel
theorem d_O_breaker_247 : decode c_O_breaker 247 = .ok (.ifCond .ne 29, 3) := by decide +kernel
theorem d_O_breaker_250 : decode c_O_breaker 250 = .ok (.aload_n 0, 1) := by decide +kernel
theorem d_O_breaker_251 : decode c_O_breaker 251 = .ok (.getfield 115, 3) := by decide +kernel
theorem d_O_breaker_254 : decode c_O_breaker 254 = .ok (.aload_n 0, 1) := by decide +kernel
theorem d_O_breaker_255 : decode c_O_breaker 255 = .ok (.getfield 87, 3) := by decide +kernel
theorem d_O_breaker_258 : decode c_O_breaker 258 = .ok (.iload_n 1, 1) := by decide +kernel
theorem d_O_breaker_259 : decode c_O_breaker 259 = .ok (.iaload, 1) := by decide +kernel
theorem d_O_breaker_260 : decode c_O_breaker 260 = .ok (.if_icmp .lt 16, 3) := by decide +kernel
theorem d_O_breaker_263 : decode c_O_breaker 263 = .ok (.aload_n 0, 1) := by decide +kernel
theorem d_O_breaker_264 : decode c_O_breaker 264 = .ok (.getfield 84, 3) := by decide +kernel
theorem d_O_breaker_267 : decode c_O_breaker 267 = .ok (.iload_n 1, 1) := by decide +kernel
theorem d_O_breaker_268 : decode c_O_breaker 268 = .ok (.iconst 0, 1) := by decide +kernel
theorem d_O_breaker_269 : decode c_O_breaker 269 = .ok (.iastore, 1) := by decide +kernel
theorem d_O_breaker_270 : decode c_O_breaker 270 = .ok (.aload_n 0, 1) := by decide +kernel
theorem d_O_breaker_271 : decode c_O_breaker 271 = .ok (.iconst 4, 1) := by decide +kernel
theorem d_O_breaker_272 : decode c_O_breaker 272 = .ok (.iload_n 1, 1) := by decide +kernel
theorem d_O_breaker_273 : decode c_O_breaker 273 = .ok (.invokevirtual 131, 3) := by decide +kernel
theorem d_O_breaker_276 : decode c_O_breaker 276 = .ok (.return_, 1) := by decide +kernel
theorem d_O_measure_0 : decode c_O_measure 0 = .ok (.iconst 4, 1) := by decide +kernel
theorem d_O_measure_1 : decode c_O_measure 1 = .ok (.iload_n 1, 1) := by decide +kernel
theorem d_O_measure_2 : decode c_O_measure 2 = .ok (.imul, 1) := by decide +kernel
theorem d_O_measure_3 : decode c_O_measure 3 = .ok (.istore_n 2, 1) := by decide +kernel
theorem d_O_measure_4 : decode c_O_measure 4 = .ok (.iload_n 2, 1) := by decide +kernel
theorem d_O_measure_5 : decode c_O_measure 5 = .ok (.iconst 4, 1) := by decide +kernel
theorem d_O_measure_6 : decode c_O_measure 6 = .ok (.iload_n 1, 1) := by decide +kernel
theorem d_O_measure_7 : decode c_O_measure 7 = .ok (.imul, 1) := by decide +kernel
theorem d_O_measure_8 : decode c_O_measure 8 = .ok (.iconst 3, 1) := by decide +kernel
theorem d_O_measure_9 : decode c_O_measure 9 = .ok (.iadd, 1) := by decide +kernel
theorem d_O_measure_10 : decode c_O_measure 10 = .ok (.if_icmp .ge 23, 3) := by decide +kernel
theorem d_O_measure_13 : decode c_O_measure 13 = .ok (.aload_n 0, 1) := by decide +kernel
theorem d_O_measure_14 : decode c_O_measure 14 = .ok (.getfield 47, 3) := by decide +kernel
theorem d_O_measure_17 : decode c_O_measure 17 = .ok (.iload_n 2, 1) := by decide +kernel
theorem d_O_measure_18 : decode c_O_measure 18 = .ok (.aload_n 0, 1) := by decide +kernel
theorem d_O_measure_19 : decode c_O_measure 19 = .ok (.getfield 47, 3) := by decide +kernel
theorem d_O_measure_22 : decode c_O_measure 22 = .ok (.iload_n 2, 1) := by decide +kernel
theorem d_O_measure_23 : decode c_O_measure 23 = .ok (.iconst 1, 1) := by decide +kernel
theorem d_O_measure_24 : decode c_O_measure 24 = .ok (.iadd, 1) := by decide +kernel
theorem d_O_measure_25 : decode c_O_measure 25 = .ok (.iaload, 1) := by decide +kernel
theorem d_O_measure_26 : decode c_O_measure 26 = .ok (.iastore, 1) := by decide +kernel
theorem d_O_measure_27 : decode c_O_measure 27 = .ok (.iinc 2 1, 3) := by decide +kernel
theorem d_O_measure_30 : decode c_O_measure 30 = .ok (.goto (-26), 3) := by decide +kernel
theorem d_O_measure_33 : decode c_O_measure 33 = .ok (.aload_n 0, 1) := by decide +kernel
theorem d_O_measure_34 : decode c_O_measure 34 = .ok (.getfield 47, 3) := by decide +kernel
theorem d_O_measure_37 : decode c_O_measure 37 = .ok (.iconst 4, 1) := by decide +kernel
theorem d_O_measure_38 : decode c_O_measure 38 = .ok (.iload_n 1, 1) := by decide +kernel
theorem d_O_measure_39 : decode c_O_measure 39 = .ok (.imul, 1) := by decide +kernel
theorem d_O_measure_40 : decode c_O_measure 40 = .ok (.iconst 3, 1) := by decide +kernel
theorem d_O_measure_41 : decode c_O_measure 41 = .ok (.iadd, 1) := by decide +kernel
theorem d_O_measure_42 : decode c_O_measure 42 = .ok (.aload_n 0, 1) := by decide +kernel
theorem d_O_measure_43 : decode c_O_measure 43 = .ok (.iload_n 1, 1) := by decide +kernel
theorem d_O_measure_44 : decode c_O_measure 44 = .ok (.invokevirtual 135, 3) := by decide +kernel
theorem d_O_measure_47 : decode c_O_measure 47 = .ok (.iastore, 1) := by decide +kernel
theorem d_O_measure_48 : decode c_O_measure 48 = .ok (.aload_n 0, 1) := by decide +kernel
theorem d_O_measure_49 : decode c_O_measure 49 = .ok (.iload_n 1, 1) := by decide +kernel
theorem d_O_measure_50 : decode c_O_measure 50 = .ok (.invokevirtual 139, 3) := by decide +kernel
theorem d_O_measure_53 : decode c_O_measure 53 = .ok (.i2l, 1) := by decide +kernel
theorem d_O_measure_54 : decode c_O_measure 54 = .ok (.lstore_n 2, 1) := by decide +kernel
theorem d_O_measure_55 : decode c_O_measure 55 = .ok (.aload_n 0, 1) := by decide +kernel
theorem d_O_measure_56 : decode c_O_measure 56 = .ok (.getfield 29, 3) := by decide +kernel
theorem d_O_measure_59 : decode c_O_measure 59 = .ok (.iload_n 1, 1) := by decide +kernel
theorem d_O_measure_60 : decode c_O_measure 60 = .ok (.iaload, 1) := by decide +kernel
theorem d_O_measure_61 : decode c_O_measure 61 = .ok (.i2l, 1) := by decide +kernel
theorem d_O_measure_62 : decode c_O_measure 62 = .ok (.lstore 4, 2) := by decide +kernel
theorem d_O_measure_64 : decode c_O_measure 64 = .ok (.lload_n 2, 1) := by decide +kernel
theorem d_O_measure_65 : decode c_O_measure 65 = .ok (.lload 4, 2) := by decide +kernel
theorem d_O_measure_67 : decode c_O_measure 67 = .ok (.lcmp, 1) := by decide +kernel
theorem d_O_measure_68 : decode c_O_measure 68 = .ok (.ifCond .le 7, 3) := by decide +kernel
theorem d_O_measure_71 : decode c_O_measure 71 = .ok (.iconst 1, 1) := by decide +kernel
theorem d_O_measure_72 : decode c_O_measure 72 = .ok (.goto 4, 3) := by decide +kernel
theorem d_O_measure_75 : decode c_O_measure 75 = .ok (.iconst 0, 1) := by decide +kernel
theorem d_O_measure_76 : decode c_O_measure 76 = .ok (.istore 6, 2) := by decide +kernel
theorem d_O_measure_78 : decode c_O_measure 78 = .ok (.aload_n 0, 1) := by decide +kernel
theorem d_O_measure_79 : decode c_O_measure 79 = .ok (.getfield 50, 3) := by decide +kernel
theorem d_O_measure_82 : decode c_O_measure 82 = .ok (.iload_n 1, 1) := by decide +kernel
theorem d_O_measure_83 : decode c_O_measure 83 = .ok (.iload 6, 2) := by decide +kernel
theorem d_O_measure_85 : decode c_O_measure 85 = .ok (.ifCond .ne 7, 3) := by decide +kernel
theorem d_O_measure_88 : decode c_O_measure 88 = .ok (.lconst 0, 1) := by decide +kernel
theorem d_O_measure_89 : decode c_O_measure 89 = .ok (.goto 49, 3) := by decide +kernel
theorem d_O_measure_92 : decode c_O_measure 92 = .ok (.aload_n 0, 1) := by decide +kernel
theorem d_O_measure_93 : decode c_O_measure 93 = .ok (.getfield 50, 3) := by decide +kernel
theorem d_O_measure_96 : decode c_O_measure 96 = .ok (.iload_n 1, 1) := by decide +kernel
theorem d_O_measure_97 : decode c_O_measure 97 = .ok (.laload, 1) := by decide +kernel
theorem d_O_measure_98 : decode c_O_measure 98 = .ok (.aload_n 0, 1) := by decide +kernel
theorem d_O_measure_99 : decode c_O_measure 99 = .ok (.getfield 26, 3) := by decide +kernel
theorem d_O_measure_102 : decode c_O_measure 102 = .ok (.iload_n 1, 1) := by decide +kernel
theorem d_O_measure_103 : decode c_O_measure 103 = .ok (.iaload, 1) := by decide +kernel
theorem d_O_measure_104 : decode c_O_measure 104 = .ok (.ifCond .ne 7, 3) := by decide +kernel
theorem d_O_measure_107 : decode c_O_measure 107 = .ok (.lconst 1, 1) := by decide +kernel
theorem d_O_measure_108 : decode c_O_measure 108 = .ok (.goto 29, 3) := by decide +kernel
theorem d_O_measure_111 : decode c_O_measure 111 = .ok (.aload_n 0, 1) := by decide +kernel
theorem d_O_measure_112 : decode c_O_measure 112 = .ok (.getfield 26, 3) := by decide +kernel
theorem d_O_measure_115 : decode c_O_measure 115 = .ok (.iload_n 1, 1) := by decide +kernel
theorem d_O_measure_116 : decode c_O_measure 116 = .ok (.iaload, 1) := by decide +kernel
theorem d_O_measure_117 : decode c_O_measure 117 = .ok (.iconst 1, 1) := by decide +kernel
theorem d_O_measure_118 : decode c_O_measure 118 = .ok (.if_icmp .ne 10, 3) := by decide +kernel
theorem d_O_measure_121 : decode c_O_measure 121 = .ok (.lload_n 2, 1) := by decide +kernel
theorem d_O_measure_122 : decode c_O_measure 122 = .ok (.lload 4, 2) := by decide +kernel
theorem d_O_measure_124 : decode c_O_measure 124 = .ok (.lsub, 1) := by decide +kernel
theorem d_O_measure_125 : decode c_O_measure 125 = .ok (.goto 12, 3) := by decide +kernel
theorem d_O_measure_128 : decode c_O_measure 128 = .ok (.lload_n 2, 1) := by decide +kernel
theorem d_O_measure_129 : decode c_O_measure 129 = .ok (.lload_n 2, 1) := by decide +kernel
theorem d_O_measure_130 : decode c_O_measure 130 = .ok (.lmul, 1) := by decide +kernel
theorem d_O_measure_131 : decode c_O_measure 131 = .ok (.lload 4, 2) := by decide +kernel
theorem d_O_measure_133 : decode c_O_measure 133 = .ok (.lload 4, 2) := by decide +kernel
theorem d_O_measure_135 : decode c_O_measure 135 = .ok (.lmul, 1) := by decide +kernel
theorem d_O_measure_136 : decode c_O_measure 136 = .ok (.lsub, 1) := by decide +kernel
theorem d_O_measure_137 : decode c_O_measure 137 = .ok (.ladd, 1) := by decide +kernel
theorem d_O_measure_138 : decode c_O_measure 138 = .ok (.lastore, 1) := by decide +kernel
theorem d_O_measure_139 : decode c_O_measure 139 = .ok (.iload 6, 2) := by decide +kernel
theorem d_O_measure_141 : decode c_O_measure 141 = .ok (.aload_n 0, 1) := by decide +kernel
theorem d_O_measure_142 : decode c_O_measure 142 = .ok (.getfield 54, 3) := by decide +kernel
theorem d_O_measure_145 : decode c_O_measure 145 = .ok (.iload_n 1, 1) := by decide +kernel
theorem d_O_measure_146 : decode c_O_measure 146 = .ok (.baload, 1) := by decide +kernel
theorem d_O_measure_147 : decode c_O_measure 147 = .ok (.if_icmp .eq 48, 3) := by decide +kernel
theorem d_O_measure_150 : decode c_O_measure 150 = .ok (.aload_n 0, 1) := by decide +kernel
theorem d_O_measure_151 : decode c_O_measure 151 = .ok (.getfield 54, 3) := by decide +kernel
theorem d_O_measure_154 : decode c_O_measure 154 = .ok (.iload_n 1, 1) := by decide +kernel
theorem d_O_measure_155 : decode c_O_measure 155 = .ok (.iload 6, 2) := by decide +kernel
theorem d_O_measure_157 : decode c_O_measure 157 = .ok (.bastore, 1) := by decide +kernel
theorem d_O_measure_158 : decode c_O_measure 158 = .ok (.aload_n 0, 1) := by decide +kernel
theorem d_O_measure_159 : decode c_O_measure 159 = .ok (.getfield 57, 3) := by decide +kernel
theorem d_O_measure_162 : decode c_O_measure 162 = .ok (.iload_n 1, 1) := by decide +kernel
theorem d_O_measure_163 : decode c_O_measure 163 = .ok (.dup2, 1) := by decide +kernel
theorem d_O_measure_164 : decode c_O_measure 164 = .ok (.iaload, 1) := by decide +kernel
theorem d_O_measure_165 : decode c_O_measure 165 = .ok (.iconst 1, 1) := by decide +kernel
theorem d_O_measure_166 : decode c_O_measure 166 = .ok (.iadd, 1) := by decide +kernel
theorem d_O_measure_167 : decode c_O_measure 167 = .ok (.iastore, 1) := by decide +kernel
theorem d_O_measure_168 : decode c_O_measure 168 = .ok (.aload_n 0, 1) := by decide +kernel
theorem d_O_measure_169 : decode c_O_measure 169 = .ok (.iload_n 1, 1) := by decide +kernel
theorem d_O_measure_170 : decode c_O_measure 170 = .ok (.invokevirtual 142, 3) := by decide +kernel
theorem d_O_measure_173 : decode c_O_measure 173 = .ok (.aload_n 0, 1) := by decide +kernel
theorem d_O_measure_174 : decode c_O_measure 174 = .ok (.getfield 63, 3) := by decide +kernel
theorem d_O_measure_177 : decode c_O_measure 177 = .ok (.iload_n 1, 1) := by decide +kernel
theorem d_O_measure_178 : decode c_O_measure 178 = .ok (.iconst 1, 1) := by decide +kernel
theorem d_O_measure_179 : decode c_O_measure 179 = .ok (.iastore, 1) := by decide +kernel
theorem d_O_measure_180 : decode c_O_measure 180 = .ok (.aload_n 0, 1) := by decide +kernel
theorem d_O_measure_181 : decode c_O_measure 181 = .ok (.getfield 60, 3) := by decide +kernel
theorem d_O_measure_184 : decode c_O_measure 184 = .ok (.iload_n 1, 1) := by decide +kernel
theorem d_O_measure_185 : decode c_O_measure 185 = .ok (.aload_n 0, 1) := by decide +kernel
theorem d_O_measure_186 : decode c_O_measure 186 = .ok (.getfield 115, 3) := by decide +kernel
theorem d_O_measure_189 : decode c_O_measure 189 = .ok (.iconst 1, 1) := by decide +kernel
theorem d_O_measure_190 : decode c_O_measure 190 = .ok (.iadd, 1) := by decide +kernel
theorem d_O_measure_191 : decode c_O_measure 191 = .ok (.iastore, 1) := by decide +kernel
theorem d_O_measure_192 : decode c_O_measure 192 = .ok (.goto 67, 3) := by decide +kernel
theorem d_O_measure_195 : decode c_O_measure 195 = .ok (.aload_n 0, 1) := by decide +kernel
theorem d_O_measure_196 : decode c_O_measure 196 = .ok (.getfield 60, 3) := by decide +kernel
theorem d_O_measure_199 : decode c_O_measure 199 = .ok (.iload_n 1, 1) := by decide +kernel
theorem d_O_measure_200 : decode c_O_measure 200 = .ok (.iaload, 1) := by decide +kernel
theorem d_O_measure_201 : decode c_O_measure 201 = .ok (.aload_n 0, 1) := by decide +kernel
theorem d_O_measure_202 : decode c_O_measure 202 = .ok (.getfield 115, 3) := by decide +kernel
theorem d_O_measure_205 : decode c_O_measure 205 = .ok (.if_icmp .ne 54, 3) := by decide +kernel
theorem d_O_measure_208 : decode c_O_measure 208 = .ok (.aload_n 0, 1) := by decide +kernel
theorem d_O_measure_209 : decode c_O_measure 209 = .ok (.iload_n 1, 1) := by decide +kernel
theorem d_O_measure_210 : decode c_O_measure 210 = .ok (.invokevirtual 142, 3) := by decide +kernel
theorem d_O_measure_213 : decode c_O_measure 213 = .ok (.aload_n 0, 1) := by decide +kernel
theorem d_O_measure_214 : decode c_O_measure 214 = .ok (.getfield 63, 3) := by decide +kernel
theorem d_O_measure_217 : decode c_O_measure 217 = .ok (.iload_n 1, 1) := by decide +kernel
theorem d_O_measure_218 : decode c_O_measure 218 = .ok (.aload_n 0, 1) := by decide +kernel
theorem d_O_measure_219 : decode c_O_measure 219 = .ok (.getfield 63, 3) := by decide +kernel
theorem d_O_measure_222 : decode c_O_measure 222 = .ok (.iload_n 1, 1) := by decide +kernel
theorem d_O_measure_223 : decode c_O_measure 223 = .ok (.iaload, 1) := by decide +kernel
theorem d_O_measure_224 : decode c_O_measure 224 = .ok (.iconst 4, 1) := by decide +kernel
theorem d_O_measure_225 : decode c_O_measure 225 = .ok (.if_icmp .lt 8, 3) := by decide +kernel
theorem d_O_measure_228 : decode c_O_measure 228 = .ok (.bipush 8, 2) := by decide +kernel
theorem d_O_measure_230 : decode c_O_measure 230 = .ok (.goto 11, 3) := by decide +kernel
theorem d_O_measure_233 : decode c_O_measure 233 = .ok (.iconst 2, 1) := by decide +kernel
theorem d_O_measure_234 : decode c_O_measure 234 = .ok (.aload_n 0, 1) := by decide +kernel
theorem d_O_measure_235 : decode c_O_measure 235 = .ok (.getfield 63, 3) := by decide +kernel
theorem d_O_measure_238 : decode c_O_measure 238 = .ok (.iload_n 1, 1) := by decide +kernel
theorem d_O_measure_239 : decode c_O_measure 239 = .ok (.iaload, 1) := by decide +kernel
theorem d_O_measure_240 : decode c_O_measure 240 = .ok (.imul, 1) := by decide +kernel
theorem d_O_measure_241 : decode c_O_measure 241 = .ok (.iastore, 1) := by decide +kernel
theorem d_O_measure_242 : decode c_O_measure 242 = .ok (.aload_n 0, 1) := by decide +kernel
theorem d_O_measure_243 : decode c_O_measure 243 = .ok (.getfield 60, 3) := by decide +kernel
theorem d_O_measure_246 : decode c_O_measure 246 = .ok (.iload_n 1, 1) := by decide +kernel
theorem d_O_measure_247 : decode c_O_measure 247 = .ok (.aload_n 0, 1) := by decide +kernel
theorem d_O_measure_248 : decode c_O_measure 248 = .ok (.getfield 115, 3) := by decide +kernel
theorem d_O_measure_251 : decode c_O_measure 251 = .ok (.aload_n 0, 1) := by decide +kernel
theorem d_O_measure_252 : decode c_O_measure 252 = .ok (.getfield 63, 3) := by decide +kernel
theorem d_O_measure_255 : decode c_O_measure 255 = .ok (.iload_n 1, 1) := by decide +kernel
theorem d_O_measure_256 : decode c_O_measure 256 = .ok (.iaload, 1) := by decide +kernel
theorem d_O_measure_257 : decode c_O_measure 257 = .ok (.iadd, 1) := by decide +kernel
theorem d_O_measure_258 : decode c_O_measure 258 = .ok (.iastore, 1) := by decide +kernel
theorem d_O_measure_259 : decode c_O_measure 259 = .ok (.return_, 1) := by decide +kernel
theorem d_O_trip_0 : decode c_O_trip 0 = .ok (.aload_n 0, 1) := by decide +kernel
theorem d_O_trip_1 : decode c_O_trip 1 = .ok (.getfield 32, 3) := by decide +kernel
theorem d_O_trip_4 : decode c_O_trip 4 = .ok (.iload_n 1, 1) := by decide +kernel
theorem d_O_trip_5 : decode c_O_trip 5 = .ok (.iaload, 1) := by decide +kernel
theorem d_O_trip_6 : decode c_O_trip 6 = .ok (.i2l, 1) := by decide +kernel
theorem d_O_trip_7 : decode c_O_trip 7 = .ok (.lstore_n 2, 1) := by decide +kernel
theorem d_O_trip_8 : decode c_O_trip 8 = .ok (.aload_n 0, 1) := by decide +kernel
theorem d_O_trip_9 : decode c_O_trip 9 = .ok (.getfield 26, 3) := by decide +kernel
theorem d_O_trip_12 : decode c_O_trip 12 = .ok (.iload_n 1, 1) := by decide +kernel
theorem d_O_trip_13 : decode c_O_trip 13 = .ok (.iaload, 1) := by decide +kernel
theorem d_O_trip_14 : decode c_O_trip 14 = .ok (.iconst 1, 1) := by decide +kernel
theorem d_O_trip_15 : decode c_O_trip 15 = .ok (.if_icmp .lt 15, 3) := by decide +kernel
theorem d_O_trip_18 : decode c_O_trip 18 = .ok (.lload_n 2, 1) := by decide +kernel
theorem d_O_trip_19 : decode c_O_trip 19 = .ok (.aload_n 0, 1) := by decide +kernel
theorem d_O_trip_20 : decode c_O_trip 20 = .ok (.getfield 29, 3) := by decide +kernel
theorem d_O_trip_23 : decode c_O_trip 23 = .ok (.iload_n 1, 1) := by decide +kernel
theorem d_O_trip_24 : decode c_O_trip 24 = .ok (.iaload, 1) := by decide +kernel
theorem d_O_trip_25 : decode c_O_trip 25 = .ok (.i2l, 1) := by decide +kernel
theorem d_O_trip_26 : decode c_O_trip 26 = .ok (.lmul, 1) := by decide +kernel
theorem d_O_trip_27 : decode c_O_trip 27 = .ok (.goto 4, 3) := by decide +kernel
theorem d_O_trip_30 : decode c_O_trip 30 = .ok (.lload_n 2, 1) := by decide +kernel
theorem d_O_trip_31 : decode c_O_trip 31 = .ok (.lstore_n 2, 1) := by decide +kernel
theorem d_O_trip_32 : decode c_O_trip 32 = .ok (.aload_n 0, 1) := by decide +kernel
theorem d_O_trip_33 : decode c_O_trip 33 = .ok (.getfield 26, 3) := by decide +kernel
theorem d_O_trip_36 : decode c_O_trip 36 = .ok (.iload_n 1, 1) := by decide +kernel
theorem d_O_trip_37 : decode c_O_trip 37 = .ok (.iaload, 1) := by decide +kernel
theorem d_O_trip_38 : decode c_O_trip 38 = .ok (.iconst 2, 1) := by decide +kernel
theorem d_O_trip_39 : decode c_O_trip 39 = .ok (.if_icmp .ne 15, 3) := by decide +kernel
theorem d_O_trip_42 : decode c_O_trip 42 = .ok (.lload_n 2, 1) := by decide +kernel
theorem d_O_trip_43 : decode c_O_trip 43 = .ok (.aload_n 0, 1) := by decide +kernel
theorem d_O_trip_44 : decode c_O_trip 44 = .ok (.getfield 29, 3) := by decide +kernel
theorem d_O_trip_47 : decode c_O_trip 47 = .ok (.iload_n 1, 1) := by decide +kernel
theorem d_O_trip_48 : decode c_O_trip 48 = .ok (.iaload, 1) := by decide +kernel
theorem d_O_trip_49 : decode c_O_trip 49 = .ok (.i2l, 1) := by decide +kernel
theorem d_O_trip_50 : decode c_O_trip 50 = .ok (.lmul, 1) := by decide +kernel
theorem d_O_trip_51 : decode c_O_trip 51 = .ok (.goto 4, 3) := by decide +kernel
theorem d_O_trip_54 : decode c_O_trip 54 = .ok (.lload_n 2, 1) := by decide +kernel
theorem d_O_trip_55 : decode c_O_trip 55 = .ok (.lstore_n 2, 1) := by decide +kernel
theorem d_O_trip_56 : decode c_O_trip 56 = .ok (.aload_n 0, 1) := by decide +kernel
theorem d_O_trip_57 : decode c_O_trip 57 = .ok (.getfield 54, 3) := by decide +kernel
theorem d_O_trip_60 : decode c_O_trip 60 = .ok (.iload_n 1, 1) := by decide +kernel
theorem d_O_trip_61 : decode c_O_trip 61 = .ok (.baload, 1) := by decide +kernel
theorem d_O_trip_62 : decode c_O_trip 62 = .ok (.ifCond .eq 52, 3) := by decide +kernel
theorem d_O_trip_65 : decode c_O_trip 65 = .ok (.aload_n 0, 1) := by decide +kernel
theorem d_O_trip_66 : decode c_O_trip 66 = .ok (.getfield 50, 3) := by decide +kernel
theorem d_O_trip_69 : decode c_O_trip 69 = .ok (.iload_n 1, 1) := by decide +kernel
theorem d_O_trip_70 : decode c_O_trip 70 = .ok (.laload, 1) := by decide +kernel
theorem d_O_trip_71 : decode c_O_trip 71 = .ok (.lload_n 2, 1) := by decide +kernel
theorem d_O_trip_72 : decode c_O_trip 72 = .ok (.lcmp, 1) := by decide +kernel
theorem d_O_trip_73 : decode c_O_trip 73 = .ok (.ifCond .lt 41, 3) := by decide +kernel
theorem d_O_trip_76 : decode c_O_trip 76 = .ok (.aload_n 0, 1) := by decide +kernel
theorem d_O_trip_77 : decode c_O_trip 77 = .ok (.getfield 13, 3) := by decide +kernel
theorem d_O_trip_80 : decode c_O_trip 80 = .ok (.iload_n 1, 1) := by decide +kernel
theorem d_O_trip_81 : decode c_O_trip 81 = .ok (.baload, 1) := by decide +kernel
theorem d_O_trip_82 : decode c_O_trip 82 = .ok (.ifCond .eq 32, 3) := by decide +kernel
theorem d_O_trip_85 : decode c_O_trip 85 = .ok (.aload_n 0, 1) := by decide +kernel
theorem d_O_trip_86 : decode c_O_trip 86 = .ok (.getfield 66, 3) := by decide +kernel
theorem d_O_trip_89 : decode c_O_trip 89 = .ok (.iload_n 1, 1) := by decide +kernel
theorem d_O_trip_90 : decode c_O_trip 90 = .ok (.iaload, 1) := by decide +kernel
theorem d_O_trip_91 : decode c_O_trip 91 = .ok (.ifCond .ne 23, 3) := by decide +kernel
theorem d_O_trip_94 : decode c_O_trip 94 = .ok (.aload_n 0, 1) := by decide +kernel
theorem d_O_trip_95 : decode c_O_trip 95 = .ok (.iload_n 1, 1) := by decide +kernel
theorem d_O_trip_96 : decode c_O_trip 96 = .ok (.invokevirtual 146, 3) := by decide +kernel
theorem d_O_trip_99 : decode c_O_trip 99 = .ok (.ifCond .ne 15, 3) := by decide +kernel
theorem d_O_trip_102 : decode c_O_trip 102 = .ok (.aload_n 0, 1) := by decide +kernel
theorem d_O_trip_103 : decode c_O_trip 103 = .ok (.iload_n 1, 1) := by decide +kernel
theorem d_O_trip_104 : decode c_O_trip 104 = .ok (.iconst 1, 1) := by decide +kernel
theorem d_O_trip_105 : decode c_O_trip 105 = .ok (.invokevirtual 149, 3) := by decide +kernel
theorem d_O_trip_108 : decode c_O_trip 108 = .ok (.aload_n 0, 1) := by decide +kernel
theorem d_O_trip_109 : decode c_O_trip 109 = .ok (.iconst 1, 1) := by decide +kernel
theorem d_O_trip_110 : decode c_O_trip 110 = .ok (.iload_n 1, 1) := by decide +kernel
theorem d_O_trip_111 : decode c_O_trip 111 = .ok (.invokevirtual 131, 3) := by decide +kernel
theorem d_O_trip_114 : decode c_O_trip 114 = .ok (.return_, 1) := by decide +kernel
theorem d_O_give_0 : decode c_O_give 0 = .ok (.aload_n 0, 1) := by decide +kernel
theorem d_O_give_1 : decode c_O_give 1 = .ok (.getfield 66, 3) := by decide +kernel
theorem d_O_give_4 : decode c_O_give 4 = .ok (.iload_n 1, 1) := by decide +kernel
theorem d_O_give_5 : decode c_O_give 5 = .ok (.iload_n 2, 1) := by decide +kernel
theorem d_O_give_6 : decode c_O_give 6 = .ok (.iastore, 1) := by decide +kernel
theorem d_O_give_7 : decode c_O_give 7 = .ok (.aload_n 0, 1) := by decide +kernel
theorem d_O_give_8 : decode c_O_give 8 = .ok (.getfield 69, 3) := by decide +kernel
theorem d_O_give_11 : decode c_O_give 11 = .ok (.iload_n 1, 1) := by decide +kernel
theorem d_O_give_12 : decode c_O_give 12 = .ok (.aload_n 0, 1) := by decide +kernel
theorem d_O_give_13 : decode c_O_give 13 = .ok (.getfield 115, 3) := by decide +kernel
theorem d_O_give_16 : decode c_O_give 16 = .ok (.iastore, 1) := by decide +kernel
theorem d_O_give_17 : decode c_O_give 17 = .ok (.aload_n 0, 1) := by decide +kernel
theorem d_O_give_18 : decode c_O_give 18 = .ok (.getfield 72, 3) := by decide +kernel
theorem d_O_give_21 : decode c_O_give 21 = .ok (.iload_n 1, 1) := by decide +kernel
theorem d_O_give_22 : decode c_O_give 22 = .ok (.iconst 0, 1) := by decide +kernel
theorem d_O_give_23 : decode c_O_give 23 = .ok (.bastore, 1) := by decide +kernel
theorem d_O_give_24 : decode c_O_give 24 = .ok (.return_, 1) := by decide +kernel
theorem d_O_fail_0 : decode c_O_fail 0 = .ok (.aload_n 0, 1) := by decide +kernel
theorem d_O_fail_1 : decode c_O_fail 1 = .ok (.getfield 66, 3) := by decide +kernel
theorem d_O_fail_4 : decode c_O_fail 4 = .ok (.iload_n 1, 1) := by decide +kernel
theorem d_O_fail_5 : decode c_O_fail 5 = .ok (.iaload, 1) := by decide +kernel
theorem d_O_fail_6 : decode c_O_fail 6 = .ok (.ifCond .eq 41, 3) := by decide +kernel
theorem d_O_fail_9 : decode c_O_fail 9 = .ok (.aload_n 0, 1) := by decide +kernel
theorem d_O_fail_10 : decode c_O_fail 10 = .ok (.getfield 115, 3) := by decide +kernel
theorem d_O_fail_13 : decode c_O_fail 13 = .ok (.aload_n 0, 1) := by decide +kernel
theorem d_O_fail_14 : decode c_O_fail 14 = .ok (.getfield 69, 3) := by decide +kernel
theorem d_O_fail_17 : decode c_O_fail 17 = .ok (.iload_n 1, 1) := by decide +kernel
theorem d_O_fail_18 : decode c_O_fail 18 = .ok (.iaload, 1) := by decide +kernel
theorem d_O_fail_19 : decode c_O_fail 19 = .ok (.isub, 1) := by decide +kernel
theorem d_O_fail_20 : decode c_O_fail 20 = .ok (.aload_n 0, 1) := by decide +kernel
theorem d_O_fail_21 : decode c_O_fail 21 = .ok (.getfield 41, 3) := by decide +kernel
theorem d_O_fail_24 : decode c_O_fail 24 = .ok (.iload_n 1, 1) := by decide +kernel
theorem d_O_fail_25 : decode c_O_fail 25 = .ok (.iaload, 1) := by decide +kernel
theorem d_O_fail_26 : decode c_O_fail 26 = .ok (.if_icmp .lt 21, 3) := by decide +kernel
theorem d_O_fail_29 : decode c_O_fail 29 = .ok (.aload_n 0, 1) := by decide +kernel
theorem d_O_fail_30 : decode c_O_fail 30 = .ok (.getfield 72, 3) := by decide +kernel
theorem d_O_fail_33 : decode c_O_fail 33 = .ok (.iload_n 1, 1) := by decide +kernel
theorem d_O_fail_34 : decode c_O_fail 34 = .ok (.baload, 1) := by decide +kernel
theorem d_O_fail_35 : decode c_O_fail 35 = .ok (.ifCond .ne 12, 3) := by decide +kernel
theorem d_O_fail_38 : decode c_O_fail 38 = .ok (.aload_n 0, 1) := by decide +kernel
theorem d_O_fail_39 : decode c_O_fail 39 = .ok (.getfield 54, 3) := by decide +kernel
theorem d_O_fail_42 : decode c_O_fail 42 = .ok (.iload_n 1, 1) := by decide +kernel
theorem d_O_fail_43 : decode c_O_fail 43 = .ok (.baload, 1) := by decide +kernel
theorem d_O_fail_44 : decode c_O_fail 44 = .ok (.ifCond .ne 4, 3) := by decide +kernel
theorem d_O_fail_47 : decode c_O_fail 47 = .ok (.return_, 1) := by decide +kernel
theorem d_O_fail_48 : decode c_O_fail 48 = .ok (.aload_n 0, 1) := by decide +kernel
theorem d_O_fail_49 : decode c_O_fail 49 = .ok (.getfield 72, 3) := by decide +kernel
theorem d_O_fail_52 : decode c_O_fail 52 = .ok (.iload_n 1, 1) := by decide +kernel
theorem d_O_fail_53 : decode c_O_fail 53 = .ok (.iconst 1, 1) := by decide +kernel
theorem d_O_fail_54 : decode c_O_fail 54 = .ok (.bastore, 1) := by decide +kernel
theorem d_O_fail_55 : decode c_O_fail 55 = .ok (.aload_n 0, 1) := by decide +kernel
theorem d_O_fail_56 : decode c_O_fail 56 = .ok (.bipush 6, 2) := by decide +kernel
theorem d_O_fail_58 : decode c_O_fail 58 = .ok (.iload_n 1, 1) := by decide +kernel
theorem d_O_fail_59 : decode c_O_fail 59 = .ok (.invokevirtual 131, 3) := by decide +kernel
theorem d_O_fail_62 : decode c_O_fail 62 = .ok (.aload_n 0, 1) := by decide +kernel
theorem d_O_fail_63 : decode c_O_fail 63 = .ok (.getfield 7, 3) := by decide +kernel
theorem d_O_fail_66 : decode c_O_fail 66 = .ok (.iload_n 1, 1) := by decide +kernel
theorem d_O_fail_67 : decode c_O_fail 67 = .ok (.iaload, 1) := by decide +kernel
theorem d_O_fail_68 : decode c_O_fail 68 = .ok (.istore_n 2, 1) := by decide +kernel
theorem d_O_fail_69 : decode c_O_fail 69 = .ok (.iload_n 2, 1) := by decide +kernel
theorem d_O_fail_70 : decode c_O_fail 70 = .ok (.ifCond .lt 34, 3) := by decide +kernel
theorem d_O_fail_73 : decode c_O_fail 73 = .ok (.aload_n 0, 1) := by decide +kernel
theorem d_O_fail_74 : decode c_O_fail 74 = .ok (.getfield 13, 3) := by decide +kernel
theorem d_O_fail_77 : decode c_O_fail 77 = .ok (.iload_n 2, 1) := by decide +kernel
theorem d_O_fail_78 : decode c_O_fail 78 = .ok (.baload, 1) := by decide +kernel
theorem d_O_fail_79 : decode c_O_fail 79 = .ok (.ifCond .eq 25, 3) := by decide +kernel
theorem d_O_fail_82 : decode c_O_fail 82 = .ok (.aload_n 0, 1) := by decide +kernel
theorem d_O_fail_83 : decode c_O_fail 83 = .ok (.getfield 66, 3) := by decide +kernel
theorem d_O_fail_86 : decode c_O_fail 86 = .ok (.iload_n 2, 1) := by decide +kernel
theorem d_O_fail_87 : decode c_O_fail 87 = .ok (.iaload, 1) := by decide +kernel
theorem d_O_fail_88 : decode c_O_fail 88 = .ok (.ifCond .ne 16, 3) := by decide +kernel
theorem d_O_fail_91 : decode c_O_fail 91 = .ok (.aload_n 0, 1) := by decide +kernel
theorem d_O_fail_92 : decode c_O_fail 92 = .ok (.iload_n 2, 1) := by decide +kernel
theorem d_O_fail_93 : decode c_O_fail 93 = .ok (.iconst 2, 1) := by decide +kernel
theorem d_O_fail_94 : decode c_O_fail 94 = .ok (.invokevirtual 149, 3) := by decide +kernel
theorem d_O_fail_97 : decode c_O_fail 97 = .ok (.aload_n 0, 1) := by decide +kernel
theorem d_O_fail_98 : decode c_O_fail 98 = .ok (.bipush 7, 2) := by decide +kernel
theorem d_O_fail_100 : decode c_O_fail 100 = .ok (.iload_n 2, 1) := by decide +kernel
theorem d_O_fail_101 : decode c_O_fail 101 = .ok (.invokevirtual 131, 3) := by decide +kernel
theorem d_O_fail_104 : decode c_O_fail 104 = .ok (.return_, 1) := by decide +kernel
theorem d_O_tick_0 : decode c_O_tick 0 = .ok (.aload_n 0, 1) := by decide +kernel
theorem d_O_tick_1 : decode c_O_tick 1 = .ok (.dup, 1) := by decide +kernel
theorem d_O_tick_2 : decode c_O_tick 2 = .ok (.getfield 115, 3) := by decide +kernel
theorem d_O_tick_5 : decode c_O_tick 5 = .ok (.iconst 1, 1) := by decide +kernel
theorem d_O_tick_6 : decode c_O_tick 6 = .ok (.iadd, 1) := by decide +kernel
theorem d_O_tick_7 : decode c_O_tick 7 = .ok (.putfield 115, 3) := by decide +kernel
theorem d_O_tick_10 : decode c_O_tick 10 = .ok (.iconst 0, 1) := by decide +kernel
theorem d_O_tick_11 : decode c_O_tick 11 = .ok (.istore_n 1, 1) := by decide +kernel
theorem d_O_tick_12 : decode c_O_tick 12 = .ok (.iload_n 1, 1) := by decide +kernel
theorem d_O_tick_13 : decode c_O_tick 13 = .ok (.aload_n 0, 1) := by decide +kernel
theorem d_O_tick_14 : decode c_O_tick 14 = .ok (.getfield 111, 3) := by decide +kernel
theorem d_O_tick_17 : decode c_O_tick 17 = .ok (.if_icmp .ge 14, 3) := by decide +kernel
theorem d_O_tick_20 : decode c_O_tick 20 = .ok (.aload_n 0, 1) := by decide +kernel
theorem d_O_tick_21 : decode c_O_tick 21 = .ok (.iload_n 1, 1) := by decide +kernel
theorem d_O_tick_22 : decode c_O_tick 22 = .ok (.invokevirtual 152, 3) := by decide +kernel
theorem d_O_tick_25 : decode c_O_tick 25 = .ok (.iinc 1 1, 3) := by decide +kernel
theorem d_O_tick_28 : decode c_O_tick 28 = .ok (.goto (-16), 3) := by decide +kernel
theorem d_O_tick_31 : decode c_O_tick 31 = .ok (.iconst 0, 1) := by decide +kernel
theorem d_O_tick_32 : decode c_O_tick 32 = .ok (.istore_n 1, 1) := by decide +kernel
theorem d_O_tick_33 : decode c_O_tick 33 = .ok (.iload_n 1, 1) := by decide +kernel
theorem d_O_tick_34 : decode c_O_tick 34 = .ok (.aload_n 0, 1) := by decide +kernel
theorem d_O_tick_35 : decode c_O_tick 35 = .ok (.getfield 111, 3) := by decide +kernel
theorem d_O_tick_38 : decode c_O_tick 38 = .ok (.if_icmp .ge 14, 3) := by decide +kernel
theorem d_O_tick_41 : decode c_O_tick 41 = .ok (.aload_n 0, 1) := by decide +kernel
theorem d_O_tick_42 : decode c_O_tick 42 = .ok (.iload_n 1, 1) := by decide +kernel
theorem d_O_tick_43 : decode c_O_tick 43 = .ok (.invokevirtual 155, 3) := by decide +kernel
theorem d_O_tick_46 : decode c_O_tick 46 = .ok (.iinc 1 1, 3) := by decide +kernel
theorem d_O_tick_49 : decode c_O_tick 49 = .ok (.goto (-16), 3) := by decide +kernel
theorem d_O_tick_52 : decode c_O_tick 52 = .ok (.iconst 0, 1) := by decide +kernel
theorem d_O_tick_53 : decode c_O_tick 53 = .ok (.istore_n 1, 1) := by decide +kernel
theorem d_O_tick_54 : decode c_O_tick 54 = .ok (.iload_n 1, 1) := by decide +kernel
theorem d_O_tick_55 : decode c_O_tick 55 = .ok (.aload_n 0, 1) := by decide +kernel
theorem d_O_tick_56 : decode c_O_tick 56 = .ok (.getfield 111, 3) := by decide +kernel
theorem d_O_tick_59 : decode c_O_tick 59 = .ok (.if_icmp .ge 14, 3) := by decide +kernel
theorem d_O_tick_62 : decode c_O_tick 62 = .ok (.aload_n 0, 1) := by decide +kernel
theorem d_O_tick_63 : decode c_O_tick 63 = .ok (.iload_n 1, 1) := by decide +kernel
theorem d_O_tick_64 : decode c_O_tick 64 = .ok (.invokevirtual 158, 3) := by decide +kernel
theorem d_O_tick_67 : decode c_O_tick 67 = .ok (.iinc 1 1, 3) := by decide +kernel
theorem d_O_tick_70 : decode c_O_tick 70 = .ok (.goto (-16), 3) := by decide +kernel
theorem d_O_tick_73 : decode c_O_tick 73 = .ok (.iconst 0, 1) := by decide +kernel
theorem d_O_tick_74 : decode c_O_tick 74 = .ok (.istore_n 1, 1) := by decide +kernel
theorem d_O_tick_75 : decode c_O_tick 75 = .ok (.iload_n 1, 1) := by decide +kernel
theorem d_O_tick_76 : decode c_O_tick 76 = .ok (.aload_n 0, 1) := by decide +kernel
theorem d_O_tick_77 : decode c_O_tick 77 = .ok (.getfield 111, 3) := by decide +kernel
theorem d_O_tick_80 : decode c_O_tick 80 = .ok (.if_icmp .ge 14, 3) := by decide +kernel
theorem d_O_tick_83 : decode c_O_tick 83 = .ok (.aload_n 0, 1) := by decide +kernel
theorem d_O_tick_84 : decode c_O_tick 84 = .ok (.iload_n 1, 1) := by decide +kernel
theorem d_O_tick_85 : decode c_O_tick 85 = .ok (.invokevirtual 161, 3) := by decide +kernel
theorem d_O_tick_88 : decode c_O_tick 88 = .ok (.iinc 1 1, 3) := by decide +kernel
theorem d_O_tick_91 : decode c_O_tick 91 = .ok (.goto (-16), 3) := by decide +kernel
theorem d_O_tick_94 : decode c_O_tick 94 = .ok (.iconst 0, 1) := by decide +kernel
theorem d_O_tick_95 : decode c_O_tick 95 = .ok (.istore_n 1, 1) := by decide +kernel
theorem d_O_tick_96 : decode c_O_tick 96 = .ok (.iload_n 1, 1) := by decide +kernel
theorem d_O_tick_97 : decode c_O_tick 97 = .ok (.aload_n 0, 1) := by decide +kernel
theorem d_O_tick_98 : decode c_O_tick 98 = .ok (.getfield 111, 3) := by decide +kernel
theorem d_O_tick_101 : decode c_O_tick 101 = .ok (.if_icmp .ge 14, 3) := by decide +kernel
theorem d_O_tick_104 : decode c_O_tick 104 = .ok (.aload_n 0, 1) := by decide +kernel
theorem d_O_tick_105 : decode c_O_tick 105 = .ok (.iload_n 1, 1) := by decide +kernel
theorem d_O_tick_106 : decode c_O_tick 106 = .ok (.invokevirtual 164, 3) := by decide +kernel
theorem d_O_tick_109 : decode c_O_tick 109 = .ok (.iinc 1 1, 3) := by decide +kernel
theorem d_O_tick_112 : decode c_O_tick 112 = .ok (.goto (-16), 3) := by decide +kernel
theorem d_O_tick_115 : decode c_O_tick 115 = .ok (.aload_n 0, 1) := by decide +kernel
theorem d_O_tick_116 : decode c_O_tick 116 = .ok (.aload_n 0, 1) := by decide +kernel
theorem d_O_tick_117 : decode c_O_tick 117 = .ok (.getfield 167, 3) := by decide +kernel
theorem d_O_tick_120 : decode c_O_tick 120 = .ok (.iconst 2, 1) := by decide +kernel
theorem d_O_tick_121 : decode c_O_tick 121 = .ok (.iadd, 1) := by decide +kernel
theorem d_O_tick_122 : decode c_O_tick 122 = .ok (.aload_n 0, 1) := by decide +kernel
theorem d_O_tick_123 : decode c_O_tick 123 = .ok (.getfield 128, 3) := by decide +kernel
theorem d_O_tick_126 : decode c_O_tick 126 = .ok (.if_icmp .le 10, 3) := by decide +kernel
theorem d_O_tick_129 : decode c_O_tick 129 = .ok (.aload_n 0, 1) := by decide +kernel
theorem d_O_tick_130 : decode c_O_tick 130 = .ok (.getfield 128, 3) := by decide +kernel
theorem d_O_tick_133 : decode c_O_tick 133 = .ok (.goto 9, 3) := by decide +kernel
theorem d_O_tick_136 : decode c_O_tick 136 = .ok (.aload_n 0, 1) := by decide +kernel
theorem d_O_tick_137 : decode c_O_tick 137 = .ok (.getfield 167, 3) := by decide +kernel
theorem d_O_tick_140 : decode c_O_tick 140 = .ok (.iconst 2, 1) := by decide +kernel
theorem d_O_tick_141 : decode c_O_tick 141 = .ok (.iadd, 1) := by decide +kernel
theorem d_O_tick_142 : decode c_O_tick 142 = .ok (.putfield 167, 3) := by decide +kernel
theorem d_O_tick_145 : decode c_O_tick 145 = .ok (.return_, 1) := by decide +kernel
theorem d_O_run_0 : decode c_O_run 0 = .ok (.iload_n 1, 1) := by decide +kernel
theorem d_O_run_1 : decode c_O_run 1 = .ok (.iconst 1, 1) := by decide +kernel
theorem d_O_run_2 : decode c_O_run 2 = .ok (.if_icmp .lt 9, 3) := by decide +kernel
theorem d_O_run_5 : decode c_O_run 5 = .ok (.iload_n 1, 1) := by decide +kernel
theorem d_O_run_6 : decode c_O_run 6 = .ok (.bipush 20, 2) := by decide +kernel
theorem d_O_run_8 : decode c_O_run 8 = .ok (.if_icmp .le 5, 3) := by decide +kernel
theorem d_O_run_11 : decode c_O_run 11 = .ok (.iconst (-1), 1) := by decide +kernel
theorem d_O_run_12 : decode c_O_run 12 = .ok (.ireturn, 1) := by decide +kernel
theorem d_O_run_13 : decode c_O_run 13 = .ok (.iconst 0, 1) := by decide +kernel
theorem d_O_run_14 : decode c_O_run 14 = .ok (.istore_n 2, 1) := by decide +kernel
theorem d_O_run_15 : decode c_O_run 15 = .ok (.iload_n 2, 1) := by decide +kernel
theorem d_O_run_16 : decode c_O_run 16 = .ok (.iload_n 1, 1) := by decide +kernel
theorem d_O_run_17 : decode c_O_run 17 = .ok (.if_icmp .ge 13, 3) := by decide +kernel
theorem d_O_run_20 : decode c_O_run 20 = .ok (.aload_n 0, 1) := by decide +kernel
theorem d_O_run_21 : decode c_O_run 21 = .ok (.invokevirtual 170, 3) := by decide +kernel
theorem d_O_run_24 : decode c_O_run 24 = .ok (.iinc 2 1, 3) := by decide +kernel
theorem d_O_run_27 : decode c_O_run 27 = .ok (.goto (-12), 3) := by decide +kernel
theorem d_O_run_30 : decode c_O_run 30 = .ok (.aload_n 0, 1) := by decide +kernel
theorem d_O_run_31 : decode c_O_run 31 = .ok (.getfield 115, 3) := by decide +kernel
theorem d_O_run_34 : decode c_O_run 34 = .ok (.ireturn, 1) := by decide +kernel
theorem d_O_crash_0 : decode c_O_crash 0 = .ok (.aload_n 0, 1) := by decide +kernel
theorem d_O_crash_1 : decode c_O_crash 1 = .ok (.getfield 128, 3) := by decide +kernel
theorem d_O_crash_4 : decode c_O_crash 4 = .ok (.aload_n 0, 1) := by decide +kernel
theorem d_O_crash_5 : decode c_O_crash 5 = .ok (.getfield 167, 3) := by decide +kernel
theorem d_O_crash_8 : decode c_O_crash 8 = .ok (.isub, 1) := by decide +kernel
theorem d_O_crash_9 : decode c_O_crash 9 = .ok (.istore_n 1, 1) := by decide +kernel
theorem d_O_crash_10 : decode c_O_crash 10 = .ok (.aload_n 0, 1) := by decide +kernel
theorem d_O_crash_11 : decode c_O_crash 11 = .ok (.aload_n 0, 1) := by decide +kernel
theorem d_O_crash_12 : decode c_O_crash 12 = .ok (.getfield 167, 3) := by decide +kernel
theorem d_O_crash_15 : decode c_O_crash 15 = .ok (.putfield 128, 3) := by decide +kernel
theorem d_O_crash_18 : decode c_O_crash 18 = .ok (.iconst 0, 1) := by decide +kernel
theorem d_O_crash_19 : decode c_O_crash 19 = .ok (.istore_n 2, 1) := by decide +kernel
theorem d_O_crash_20 : decode c_O_crash 20 = .ok (.iload_n 2, 1) := by decide +kernel
theorem d_O_crash_21 : decode c_O_crash 21 = .ok (.aload_n 0, 1) := by decide +kernel
theorem d_O_crash_22 : decode c_O_crash 22 = .ok (.getfield 111, 3) := by decide +kernel
theorem d_O_crash_25 : decode c_O_crash 25 = .ok (.if_icmp .ge 118, 3) := by decide +kernel
theorem d_O_crash_28 : decode c_O_crash 28 = .ok (.iconst 4, 1) := by decide +kernel
theorem d_O_crash_29 : decode c_O_crash 29 = .ok (.iload_n 2, 1) := by decide +kernel
theorem d_O_crash_30 : decode c_O_crash 30 = .ok (.imul, 1) := by decide +kernel
theorem d_O_crash_31 : decode c_O_crash 31 = .ok (.istore_n 3, 1) := by decide +kernel
theorem d_O_crash_32 : decode c_O_crash 32 = .ok (.iload_n 3, 1) := by decide +kernel
theorem d_O_crash_33 : decode c_O_crash 33 = .ok (.iconst 4, 1) := by decide +kernel
theorem d_O_crash_34 : decode c_O_crash 34 = .ok (.iload_n 2, 1) := by decide +kernel
theorem d_O_crash_35 : decode c_O_crash 35 = .ok (.imul, 1) := by decide +kernel
theorem d_O_crash_36 : decode c_O_crash 36 = .ok (.iconst 4, 1) := by decide +kernel
theorem d_O_crash_37 : decode c_O_crash 37 = .ok (.iadd, 1) := by decide +kernel
theorem d_O_crash_38 : decode c_O_crash 38 = .ok (.if_icmp .ge 16, 3) := by decide +kernel
theorem d_O_crash_41 : decode c_O_crash 41 = .ok (.aload_n 0, 1) := by decide +kernel
theorem d_O_crash_42 : decode c_O_crash 42 = .ok (.getfield 47, 3) := by decide +kernel
theorem d_O_crash_45 : decode c_O_crash 45 = .ok (.iload_n 3, 1) := by decide +kernel
theorem d_O_crash_46 : decode c_O_crash 46 = .ok (.iconst 0, 1) := by decide +kernel
theorem d_O_crash_47 : decode c_O_crash 47 = .ok (.iastore, 1) := by decide +kernel
theorem d_O_crash_48 : decode c_O_crash 48 = .ok (.iinc 3 1, 3) := by decide +kernel
theorem d_O_crash_51 : decode c_O_crash 51 = .ok (.goto (-19), 3) := by decide +kernel
theorem d_O_crash_54 : decode c_O_crash 54 = .ok (.aload_n 0, 1) := by decide +kernel
theorem d_O_crash_55 : decode c_O_crash 55 = .ok (.getfield 50, 3) := by decide +kernel
theorem d_O_crash_58 : decode c_O_crash 58 = .ok (.iload_n 2, 1) := by decide +kernel
theorem d_O_crash_59 : decode c_O_crash 59 = .ok (.lconst 0, 1) := by decide +kernel
theorem d_O_crash_60 : decode c_O_crash 60 = .ok (.lastore, 1) := by decide +kernel
theorem d_O_crash_61 : decode c_O_crash 61 = .ok (.aload_n 0, 1) := by decide +kernel
theorem d_O_crash_62 : decode c_O_crash 62 = .ok (.getfield 54, 3) := by decide +kernel
theorem d_O_crash_65 : decode c_O_crash 65 = .ok (.iload_n 2, 1) := by decide +kernel
theorem d_O_crash_66 : decode c_O_crash 66 = .ok (.iconst 0, 1) := by decide +kernel
theorem d_O_crash_67 : decode c_O_crash 67 = .ok (.bastore, 1) := by decide +kernel
theorem d_O_crash_68 : decode c_O_crash 68 = .ok (.aload_n 0, 1) := by decide +kernel
theorem d_O_crash_69 : decode c_O_crash 69 = .ok (.getfield 57, 3) := by decide +kernel
theorem d_O_crash_72 : decode c_O_crash 72 = .ok (.iload_n 2, 1) := by decide +kernel
theorem d_O_crash_73 : decode c_O_crash 73 = .ok (.iconst 0, 1) := by decide +kernel
theorem d_O_crash_74 : decode c_O_crash 74 = .ok (.iastore, 1) := by decide +kernel
theorem d_O_crash_75 : decode c_O_crash 75 = .ok (.aload_n 0, 1) := by decide +kernel
theorem d_O_crash_76 : decode c_O_crash 76 = .ok (.getfield 60, 3) := by decide +kernel
theorem d_O_crash_79 : decode c_O_crash 79 = .ok (.iload_n 2, 1) := by decide +kernel
theorem d_O_crash_80 : decode c_O_crash 80 = .ok (.iconst 0, 1) := by decide +kernel
theorem d_O_crash_81 : decode c_O_crash 81 = .ok (.iastore, 1) := by decide +kernel
theorem d_O_crash_82 : decode c_O_crash 82 = .ok (.aload_n 0, 1) := by decide +kernel
theorem d_O_crash_83 : decode c_O_crash 83 = .ok (.getfield 90, 3) := by decide +kernel
theorem d_O_crash_86 : decode c_O_crash 86 = .ok (.iload_n 2, 1) := by decide +kernel
theorem d_O_crash_87 : decode c_O_crash 87 = .ok (.iconst 0, 1) := by decide +kernel
theorem d_O_crash_88 : decode c_O_crash 88 = .ok (.iastore, 1) := by decide +kernel
theorem d_O_crash_89 : decode c_O_crash 89 = .ok (.aload_n 0, 1) := by decide +kernel
theorem d_O_crash_90 : decode c_O_crash 90 = .ok (.getfield 99, 3) := by decide +kernel
theorem d_O_crash_93 : decode c_O_crash 93 = .ok (.iload_n 2, 1) := by decide +kernel
theorem d_O_crash_94 : decode c_O_crash 94 = .ok (.iconst 0, 1) := by decide +kernel
theorem d_O_crash_95 : decode c_O_crash 95 = .ok (.iastore, 1) := by decide +kernel
theorem d_O_crash_96 : decode c_O_crash 96 = .ok (.aload_n 0, 1) := by decide +kernel
theorem d_O_crash_97 : decode c_O_crash 97 = .ok (.getfield 66, 3) := by decide +kernel
theorem d_O_crash_100 : decode c_O_crash 100 = .ok (.iload_n 2, 1) := by decide +kernel
theorem d_O_crash_101 : decode c_O_crash 101 = .ok (.iconst 0, 1) := by decide +kernel
theorem d_O_crash_102 : decode c_O_crash 102 = .ok (.iastore, 1) := by decide +kernel
theorem d_O_crash_103 : decode c_O_crash 103 = .ok (.aload_n 0, 1) := by decide +kernel
theorem d_O_crash_104 : decode c_O_crash 104 = .ok (.getfield 75, 3) := by decide +kernel
theorem d_O_crash_107 : decode c_O_crash 107 = .ok (.iload_n 2, 1) := by decide +kernel
theorem d_O_crash_108 : decode c_O_crash 108 = .ok (.iconst 0, 1) := by decide +kernel
theorem d_O_crash_109 : decode c_O_crash 109 = .ok (.bastore, 1) := by decide +kernel
theorem d_O_crash_110 : decode c_O_crash 110 = .ok (.aload_n 0, 1) := by decide +kernel
theorem d_O_crash_111 : decode c_O_crash 111 = .ok (.getfield 84, 3) := by decide +kernel
theorem d_O_crash_114 : decode c_O_crash 114 = .ok (.iload_n 2, 1) := by decide +kernel
theorem d_O_crash_115 : decode c_O_crash 115 = .ok (.iconst 0, 1) := by decide +kernel
theorem d_O_crash_116 : decode c_O_crash 116 = .ok (.iastore, 1) := by decide +kernel
theorem d_O_crash_117 : decode c_O_crash 117 = .ok (.aload_n 0, 1) := by decide +kernel
theorem d_O_crash_118 : decode c_O_crash 118 = .ok (.getfield 81, 3) := by decide +kernel
theorem d_O_crash_121 : decode c_O_crash 121 = .ok (.iload_n 2, 1) := by decide +kernel
theorem d_O_crash_122 : decode c_O_crash 122 = .ok (.aload_n 0, 1) := by decide +kernel
theorem d_O_crash_123 : decode c_O_crash 123 = .ok (.getfield 13, 3) := by decide +kernel
theorem d_O_crash_126 : decode c_O_crash 126 = .ok (.iload_n 2, 1) := by decide +kernel
theorem d_O_crash_127 : decode c_O_crash 127 = .ok (.baload, 1) := by decide +kernel
theorem d_O_crash_128 : decode c_O_crash 128 = .ok (.ifCond .ne 7, 3) := by decide +kernel
theorem d_O_crash_131 : decode c_O_crash 131 = .ok (.iconst 1, 1) := by decide +kernel
theorem d_O_crash_132 : decode c_O_crash 132 = .ok (.goto 4, 3) := by decide +kernel
theorem d_O_crash_135 : decode c_O_crash 135 = .ok (.iconst 0, 1) := by decide +kernel
theorem d_O_crash_136 : decode c_O_crash 136 = .ok (.bastore, 1) := by decide +kernel
theorem d_O_crash_137 : decode c_O_crash 137 = .ok (.iinc 2 1, 3) := by decide +kernel
theorem d_O_crash_140 : decode c_O_crash 140 = .ok (.goto (-120), 3) := by decide +kernel
theorem d_O_crash_143 : decode c_O_crash 143 = .ok (.iload_n 1, 1) := by decide +kernel
theorem d_O_crash_144 : decode c_O_crash 144 = .ok (.ireturn, 1) := by decide +kernel
theorem d_O_time_0 : decode c_O_time 0 = .ok (.aload_n 0, 1) := by decide +kernel
theorem d_O_time_1 : decode c_O_time 1 = .ok (.getfield 115, 3) := by decide +kernel
theorem d_O_time_4 : decode c_O_time 4 = .ok (.ireturn, 1) := by decide +kernel
theorem d_O_current_0 : decode c_O_current 0 = .ok (.aload_n 0, 1) := by decide +kernel
theorem d_O_current_1 : decode c_O_current 1 = .ok (.iload_n 1, 1) := by decide +kernel
theorem d_O_current_2 : decode c_O_current 2 = .ok (.invokevirtual 118, 3) := by decide +kernel
theorem d_O_current_5 : decode c_O_current 5 = .ok (.ifCond .eq 7, 3) := by decide +kernel
theorem d_O_current_8 : decode c_O_current 8 = .ok (.iconst (-1), 1) := by decide +kernel
theorem d_O_current_9 : decode c_O_current 9 = .ok (.goto 8, 3) := by decide +kernel
theorem d_O_current_12 : decode c_O_current 12 = .ok (.aload_n 0, 1) := by decide +kernel
theorem d_O_current_13 : decode c_O_current 13 = .ok (.iload_n 1, 1) := by decide +kernel
theorem d_O_current_14 : decode c_O_current 14 = .ok (.invokevirtual 135, 3) := by decide +kernel
theorem d_O_current_17 : decode c_O_current 17 = .ok (.ireturn, 1) := by decide +kernel
theorem d_O_state_0 : decode c_O_state 0 = .ok (.aload_n 0, 1) := by decide +kernel
theorem d_O_state_1 : decode c_O_state 1 = .ok (.iload_n 1, 1) := by decide +kernel
theorem d_O_state_2 : decode c_O_state 2 = .ok (.invokevirtual 118, 3) := by decide +kernel
theorem d_O_state_5 : decode c_O_state 5 = .ok (.ifCond .eq 5, 3) := by decide +kernel
theorem d_O_state_8 : decode c_O_state 8 = .ok (.iconst (-1), 1) := by decide +kernel
theorem d_O_state_9 : decode c_O_state 9 = .ok (.ireturn, 1) := by decide +kernel
theorem d_O_state_10 : decode c_O_state 10 = .ok (.aload_n 0, 1) := by decide +kernel
theorem d_O_state_11 : decode c_O_state 11 = .ok (.getfield 13, 3) := by decide +kernel
theorem d_O_state_14 : decode c_O_state 14 = .ok (.iload_n 1, 1) := by decide +kernel
theorem d_O_state_15 : decode c_O_state 15 = .ok (.baload, 1) := by decide +kernel
theorem d_O_state_16 : decode c_O_state 16 = .ok (.ifCond .eq 7, 3) := by decide +kernel
theorem d_O_state_19 : decode c_O_state 19 = .ok (.iconst 1, 1) := by decide +kernel
theorem d_O_state_20 : decode c_O_state 20 = .ok (.goto 4, 3) := by decide +kernel
theorem d_O_state_23 : decode c_O_state 23 = .ok (.iconst 0, 1) := by decide +kernel
theorem d_O_state_24 : decode c_O_state 24 = .ok (.aload_n 0, 1) := by decide +kernel
theorem d_O_state_25 : decode c_O_state 25 = .ok (.getfield 54, 3) := by decide +kernel
theorem d_O_state_28 : decode c_O_state 28 = .ok (.iload_n 1, 1) := by decide +kernel
theorem d_O_state_29 : decode c_O_state 29 = .ok (.baload, 1) := by decide +kernel
theorem d_O_state_30 : decode c_O_state 30 = .ok (.ifCond .eq 7, 3) := by decide +kernel
theorem d_O_state_33 : decode c_O_state 33 = .ok (.iconst 2, 1) := by decide +kernel
theorem d_O_state_34 : decode c_O_state 34 = .ok (.goto 4, 3) := by decide +kernel
theorem d_O_state_37 : decode c_O_state 37 = .ok (.iconst 0, 1) := by decide +kernel
theorem d_O_state_38 : decode c_O_state 38 = .ok (.iadd, 1) := by decide +kernel
theorem d_O_state_39 : decode c_O_state 39 = .ok (.aload_n 0, 1) := by decide +kernel
theorem d_O_state_40 : decode c_O_state 40 = .ok (.getfield 66, 3) := by decide +kernel
theorem d_O_state_43 : decode c_O_state 43 = .ok (.iload_n 1, 1) := by decide +kernel
theorem d_O_state_44 : decode c_O_state 44 = .ok (.iaload, 1) := by decide +kernel
theorem d_O_state_45 : decode c_O_state 45 = .ok (.ifCond .le 7, 3) := by decide +kernel
theorem d_O_state_48 : decode c_O_state 48 = .ok (.iconst 4, 1) := by decide +kernel
theorem d_O_state_49 : decode c_O_state 49 = .ok (.goto 4, 3) := by decide +kernel
theorem d_O_state_52 : decode c_O_state 52 = .ok (.iconst 0, 1) := by decide +kernel
theorem d_O_state_53 : decode c_O_state 53 = .ok (.iadd, 1) := by decide +kernel
theorem d_O_state_54 : decode c_O_state 54 = .ok (.aload_n 0, 1) := by decide +kernel
theorem d_O_state_55 : decode c_O_state 55 = .ok (.getfield 75, 3) := by decide +kernel
theorem d_O_state_58 : decode c_O_state 58 = .ok (.iload_n 1, 1) := by decide +kernel
theorem d_O_state_59 : decode c_O_state 59 = .ok (.baload, 1) := by decide +kernel
theorem d_O_state_60 : decode c_O_state 60 = .ok (.ifCond .eq 8, 3) := by decide +kernel
theorem d_O_state_63 : decode c_O_state 63 = .ok (.bipush 8, 2) := by decide +kernel
theorem d_O_state_65 : decode c_O_state 65 = .ok (.goto 4, 3) := by decide +kernel
theorem d_O_state_68 : decode c_O_state 68 = .ok (.iconst 0, 1) := by decide +kernel
theorem d_O_state_69 : decode c_O_state 69 = .ok (.iadd, 1) := by decide +kernel
theorem d_O_state_70 : decode c_O_state 70 = .ok (.aload_n 0, 1) := by decide +kernel
theorem d_O_state_71 : decode c_O_state 71 = .ok (.getfield 81, 3) := by decide +kernel
theorem d_O_state_74 : decode c_O_state 74 = .ok (.iload_n 1, 1) := by decide +kernel
theorem d_O_state_75 : decode c_O_state 75 = .ok (.baload, 1) := by decide +kernel
theorem d_O_state_76 : decode c_O_state 76 = .ok (.ifCond .eq 8, 3) := by decide +kernel
theorem d_O_state_79 : decode c_O_state 79 = .ok (.bipush 16, 2) := by decide +kernel
theorem d_O_state_81 : decode c_O_state 81 = .ok (.goto 4, 3) := by decide +kernel
theorem d_O_state_84 : decode c_O_state 84 = .ok (.iconst 0, 1) := by decide +kernel
theorem d_O_state_85 : decode c_O_state 85 = .ok (.iadd, 1) := by decide +kernel
theorem d_O_state_86 : decode c_O_state 86 = .ok (.istore_n 2, 1) := by decide +kernel
theorem d_O_state_87 : decode c_O_state 87 = .ok (.aload_n 0, 1) := by decide +kernel
theorem d_O_state_88 : decode c_O_state 88 = .ok (.iload_n 1, 1) := by decide +kernel
theorem d_O_state_89 : decode c_O_state 89 = .ok (.invokevirtual 146, 3) := by decide +kernel
theorem d_O_state_92 : decode c_O_state 92 = .ok (.istore_n 3, 1) := by decide +kernel
theorem d_O_state_93 : decode c_O_state 93 = .ok (.iload_n 2, 1) := by decide +kernel
theorem d_O_state_94 : decode c_O_state 94 = .ok (.aload_n 0, 1) := by decide +kernel
theorem d_O_state_95 : decode c_O_state 95 = .ok (.getfield 17, 3) := by decide +kernel
theorem d_O_state_98 : decode c_O_state 98 = .ok (.iload_n 1, 1) := by decide +kernel
theorem d_O_state_99 : decode c_O_state 99 = .ok (.baload, 1) := by decide +kernel
theorem d_O_state_100 : decode c_O_state 100 = .ok (.ifCond .eq 8, 3) := by decide +kernel
theorem d_O_state_103 : decode c_O_state 103 = .ok (.bipush 32, 2) := by decide +kernel
theorem d_O_state_105 : decode c_O_state 105 = .ok (.goto 4, 3) := by decide +kernel
theorem d_O_state_108 : decode c_O_state 108 = .ok (.iconst 0, 1) := by decide +kernel
theorem d_O_state_109 : decode c_O_state 109 = .ok (.iadd, 1) := by decide +kernel
theorem d_O_state_110 : decode c_O_state 110 = .ok (.iload_n 3, 1) := by decide +kernel
theorem d_O_state_111 : decode c_O_state 111 = .ok (.ifCond .eq 8, 3) := by decide +kernel
theorem d_O_state_114 : decode c_O_state 114 = .ok (.bipush 64, 2) := by decide +kernel
theorem d_O_state_116 : decode c_O_state 116 = .ok (.goto 4, 3) := by decide +kernel
theorem d_O_state_119 : decode c_O_state 119 = .ok (.iconst 0, 1) := by decide +kernel
theorem d_O_state_120 : decode c_O_state 120 = .ok (.iadd, 1) := by decide +kernel
theorem d_O_state_121 : decode c_O_state 121 = .ok (.ireturn, 1) := by decide +kernel
theorem d_O_sum_0 : decode c_O_sum 0 = .ok (.aload_n 0, 1) := by decide +kernel
theorem d_O_sum_1 : decode c_O_sum 1 = .ok (.iload_n 1, 1) := by decide +kernel
theorem d_O_sum_2 : decode c_O_sum 2 = .ok (.invokevirtual 118, 3) := by decide +kernel
theorem d_O_sum_5 : decode c_O_sum 5 = .ok (.ifCond .eq 9, 3) := by decide +kernel
theorem d_O_sum_8 : decode c_O_sum 8 = .ok (.ldc2_w 173, 3) := by decide +kernel
theorem d_O_sum_11 : decode c_O_sum 11 = .ok (.goto 9, 3) := by decide +kernel
theorem d_O_sum_14 : decode c_O_sum 14 = .ok (.aload_n 0, 1) := by decide +kernel
theorem d_O_sum_15 : decode c_O_sum 15 = .ok (.getfield 50, 3) := by decide +kernel
theorem d_O_sum_18 : decode c_O_sum 18 = .ok (.iload_n 1, 1) := by decide +kernel
theorem d_O_sum_19 : decode c_O_sum 19 = .ok (.laload, 1) := by decide +kernel
theorem d_O_sum_20 : decode c_O_sum 20 = .ok (.lreturn, 1) := by decide +kernel
theorem d_O_used_0 : decode c_O_used 0 = .ok (.aload_n 0, 1) := by decide +kernel
theorem d_O_used_1 : decode c_O_used 1 = .ok (.iload_n 1, 1) := by decide +kernel
theorem d_O_used_2 : decode c_O_used 2 = .ok (.invokevirtual 118, 3) := by decide +kernel
theorem d_O_used_5 : decode c_O_used 5 = .ok (.ifCond .eq 7, 3) := by decide +kernel
theorem d_O_used_8 : decode c_O_used 8 = .ok (.iconst (-1), 1) := by decide +kernel
theorem d_O_used_9 : decode c_O_used 9 = .ok (.goto 9, 3) := by decide +kernel
theorem d_O_used_12 : decode c_O_used 12 = .ok (.aload_n 0, 1) := by decide +kernel
theorem d_O_used_13 : decode c_O_used 13 = .ok (.getfield 84, 3) := by decide +kernel
theorem d_O_used_16 : decode c_O_used 16 = .ok (.iload_n 1, 1) := by decide +kernel
theorem d_O_used_17 : decode c_O_used 17 = .ok (.iaload, 1) := by decide +kernel
theorem d_O_used_18 : decode c_O_used 18 = .ok (.ireturn, 1) := by decide +kernel
theorem d_O_changes_0 : decode c_O_changes 0 = .ok (.aload_n 0, 1) := by decide +kernel
theorem d_O_changes_1 : decode c_O_changes 1 = .ok (.iload_n 1, 1) := by decide +kernel
theorem d_O_changes_2 : decode c_O_changes 2 = .ok (.invokevirtual 118, 3) := by decide +kernel
theorem d_O_changes_5 : decode c_O_changes 5 = .ok (.ifCond .eq 7, 3) := by decide +kernel
theorem d_O_changes_8 : decode c_O_changes 8 = .ok (.iconst (-1), 1) := by decide +kernel
theorem d_O_changes_9 : decode c_O_changes 9 = .ok (.goto 9, 3) := by decide +kernel
theorem d_O_changes_12 : decode c_O_changes 12 = .ok (.aload_n 0, 1) := by decide +kernel
theorem d_O_changes_13 : decode c_O_changes 13 = .ok (.getfield 57, 3) := by decide +kernel
theorem d_O_changes_16 : decode c_O_changes 16 = .ok (.iload_n 1, 1) := by decide +kernel
theorem d_O_changes_17 : decode c_O_changes 17 = .ok (.iaload, 1) := by decide +kernel
theorem d_O_changes_18 : decode c_O_changes 18 = .ok (.ireturn, 1) := by decide +kernel
theorem d_O_known_0 : decode c_O_known 0 = .ok (.aload_n 0, 1) := by decide +kernel
theorem d_O_known_1 : decode c_O_known 1 = .ok (.iload_n 1, 1) := by decide +kernel
theorem d_O_known_2 : decode c_O_known 2 = .ok (.invokevirtual 118, 3) := by decide +kernel
theorem d_O_known_5 : decode c_O_known 5 = .ok (.ifCond .ne 7, 3) := by decide +kernel
theorem d_O_known_8 : decode c_O_known 8 = .ok (.iload_n 1, 1) := by decide +kernel
theorem d_O_known_9 : decode c_O_known 9 = .ok (.ifCond .ne 7, 3) := by decide +kernel
theorem d_O_known_12 : decode c_O_known 12 = .ok (.iconst (-1), 1) := by decide +kernel
theorem d_O_known_13 : decode c_O_known 13 = .ok (.goto 9, 3) := by decide +kernel
theorem d_O_known_16 : decode c_O_known 16 = .ok (.aload_n 0, 1) := by decide +kernel
theorem d_O_known_17 : decode c_O_known 17 = .ok (.getfield 99, 3) := by decide +kernel
theorem d_O_known_20 : decode c_O_known 20 = .ok (.iload_n 1, 1) := by decide +kernel
theorem d_O_known_21 : decode c_O_known 21 = .ok (.iaload, 1) := by decide +kernel
theorem d_O_known_22 : decode c_O_known 22 = .ok (.ireturn, 1) := by decide +kernel
theorem d_O_effective_0 : decode c_O_effective 0 = .ok (.aload_n 0, 1) := by decide +kernel
theorem d_O_effective_1 : decode c_O_effective 1 = .ok (.iload_n 1, 1) := by decide +kernel
theorem d_O_effective_2 : decode c_O_effective 2 = .ok (.invokevirtual 118, 3) := by decide +kernel
theorem d_O_effective_5 : decode c_O_effective 5 = .ok (.ifCond .eq 7, 3) := by decide +kernel
theorem d_O_effective_8 : decode c_O_effective 8 = .ok (.iconst (-1), 1) := by decide +kernel
theorem d_O_effective_9 : decode c_O_effective 9 = .ok (.goto 8, 3) := by decide +kernel
theorem d_O_effective_12 : decode c_O_effective 12 = .ok (.aload_n 0, 1) := by decide +kernel
theorem d_O_effective_13 : decode c_O_effective 13 = .ok (.iload_n 1, 1) := by decide +kernel
theorem d_O_effective_14 : decode c_O_effective 14 = .ok (.invokevirtual 139, 3) := by decide +kernel
theorem d_O_effective_17 : decode c_O_effective 17 = .ok (.ireturn, 1) := by decide +kernel
theorem d_O_events_0 : decode c_O_events 0 = .ok (.aload_n 0, 1) := by decide +kernel
theorem d_O_events_1 : decode c_O_events 1 = .ok (.getfield 128, 3) := by decide +kernel
theorem d_O_events_4 : decode c_O_events 4 = .ok (.ireturn, 1) := by decide +kernel
theorem d_O_event_0 : decode c_O_event 0 = .ok (.iload_n 1, 1) := by decide +kernel
theorem d_O_event_1 : decode c_O_event 1 = .ok (.ifCond .lt 11, 3) := by decide +kernel
theorem d_O_event_4 : decode c_O_event 4 = .ok (.iload_n 1, 1) := by decide +kernel
theorem d_O_event_5 : decode c_O_event 5 = .ok (.aload_n 0, 1) := by decide +kernel
theorem d_O_event_6 : decode c_O_event 6 = .ok (.getfield 128, 3) := by decide +kernel
theorem d_O_event_9 : decode c_O_event 9 = .ok (.if_icmp .lt 7, 3) := by decide +kernel
theorem d_O_event_12 : decode c_O_event 12 = .ok (.iconst (-1), 1) := by decide +kernel
theorem d_O_event_13 : decode c_O_event 13 = .ok (.goto 9, 3) := by decide +kernel
theorem d_O_event_16 : decode c_O_event 16 = .ok (.aload_n 0, 1) := by decide +kernel
theorem d_O_event_17 : decode c_O_event 17 = .ok (.getfield 105, 3) := by decide +kernel
theorem d_O_event_20 : decode c_O_event 20 = .ok (.iload_n 1, 1) := by decide +kernel
theorem d_O_event_21 : decode c_O_event 21 = .ok (.iaload, 1) := by decide +kernel
theorem d_O_event_22 : decode c_O_event 22 = .ok (.ireturn, 1) := by decide +kernel
theorem d_O_when_0 : decode c_O_when 0 = .ok (.iload_n 1, 1) := by decide +kernel
theorem d_O_when_1 : decode c_O_when 1 = .ok (.ifCond .lt 11, 3) := by decide +kernel
theorem d_O_when_4 : decode c_O_when 4 = .ok (.iload_n 1, 1) := by decide +kernel
theorem d_O_when_5 : decode c_O_when 5 = .ok (.aload_n 0, 1) := by decide +kernel
theorem d_O_when_6 : decode c_O_when 6 = .ok (.getfield 128, 3) := by decide +kernel
theorem d_O_when_9 : decode c_O_when 9 = .ok (.if_icmp .lt 7, 3) := by decide +kernel
theorem d_O_when_12 : decode c_O_when 12 = .ok (.iconst (-1), 1) := by decide +kernel
theorem d_O_when_13 : decode c_O_when 13 = .ok (.goto 9, 3) := by decide +kernel
theorem d_O_when_16 : decode c_O_when 16 = .ok (.aload_n 0, 1) := by decide +kernel
theorem d_O_when_17 : decode c_O_when 17 = .ok (.getfield 108, 3) := by decide +kernel
theorem d_O_when_20 : decode c_O_when 20 = .ok (.iload_n 1, 1) := by decide +kernel
theorem d_O_when_21 : decode c_O_when 21 = .ok (.iaload, 1) := by decide +kernel
theorem d_O_when_22 : decode c_O_when 22 = .ok (.ireturn, 1) := by decide +kernel
end
section
theorem d_L_law_0 : decode c_L_law 0 = .ok (.new 7, 3) := by decide +kernel
theorem d_L_law_3 : decode c_L_law 3 = .ok (.dup, 1) := by decide +kernel
theorem d_L_law_4 : decode c_L_law 4 = .ok (.invokespecial 9, 3) := by decide +kernel
theorem d_L_law_7 : decode c_L_law 7 = .ok (.astore_n 1, 1) := by decide +kernel
theorem d_L_law_8 : decode c_L_law 8 = .ok (.new 10, 3) := by decide +kernel
theorem d_L_law_11 : decode c_L_law 11 = .ok (.dup, 1) := by decide +kernel
theorem d_L_law_12 : decode c_L_law 12 = .ok (.invokespecial 12, 3) := by decide +kernel
theorem d_L_law_15 : decode c_L_law 15 = .ok (.astore_n 2, 1) := by decide +kernel
theorem d_L_law_16 : decode c_L_law 16 = .ok (.iconst 0, 1) := by decide +kernel
theorem d_L_law_17 : decode c_L_law 17 = .ok (.istore_n 3, 1) := by decide +kernel
theorem d_L_law_18 : decode c_L_law 18 = .ok (.iload_n 3, 1) := by decide +kernel
theorem d_L_law_19 : decode c_L_law 19 = .ok (.aload_n 0, 1) := by decide +kernel
theorem d_L_law_20 : decode c_L_law 20 = .ok (.arraylength, 1) := by decide +kernel
theorem d_L_law_21 : decode c_L_law 21 = .ok (.iconst 5, 1) := by decide +kernel
theorem d_L_law_22 : decode c_L_law 22 = .ok (.isub, 1) := by decide +kernel
theorem d_L_law_23 : decode c_L_law 23 = .ok (.if_icmp .gt 727, 3) := by decide +kernel
theorem d_L_law_26 : decode c_L_law 26 = .ok (.aload_n 0, 1) := by decide +kernel
theorem d_L_law_27 : decode c_L_law 27 = .ok (.iload_n 3, 1) := by decide +kernel
theorem d_L_law_28 : decode c_L_law 28 = .ok (.iaload, 1) := by decide +kernel
theorem d_L_law_29 : decode c_L_law 29 = .ok (.bipush 31, 2) := by decide +kernel
theorem d_L_law_31 : decode c_L_law 31 = .ok (.iand, 1) := by decide +kernel
theorem d_L_law_32 : decode c_L_law 32 = .ok (.tableswitch 712 0 20 #[100, 123, 176, 245, 278, 311, 360, 393, 442, 465, 478, 491, 514, 537, 561, 584, 607, 630, 653, 666, 689], 100) := by decide +kernel
theorem d_L_law_132 : decode c_L_law 132 = .ok (.aload_n 1, 1) := by decide +kernel
theorem d_L_law_133 : decode c_L_law 133 = .ok (.aload_n 0, 1) := by decide +kernel
theorem d_L_law_134 : decode c_L_law 134 = .ok (.iload_n 3, 1) := by decide +kernel
theorem d_L_law_135 : decode c_L_law 135 = .ok (.iconst 1, 1) := by decide +kernel
theorem d_L_law_136 : decode c_L_law 136 = .ok (.iadd, 1) := by decide +kernel
theorem d_L_law_137 : decode c_L_law 137 = .ok (.iaload, 1) := by decide +kernel
theorem d_L_law_138 : decode c_L_law 138 = .ok (.invokevirtual 13, 3) := by decide +kernel
theorem d_L_law_141 : decode c_L_law 141 = .ok (.aload_n 2, 1) := by decide +kernel
theorem d_L_law_142 : decode c_L_law 142 = .ok (.aload_n 0, 1) := by decide +kernel
theorem d_L_law_143 : decode c_L_law 143 = .ok (.iload_n 3, 1) := by decide +kernel
theorem d_L_law_144 : decode c_L_law 144 = .ok (.iconst 1, 1) := by decide +kernel
theorem d_L_law_145 : decode c_L_law 145 = .ok (.iadd, 1) := by decide +kernel
theorem d_L_law_146 : decode c_L_law 146 = .ok (.iaload, 1) := by decide +kernel
theorem d_L_law_147 : decode c_L_law 147 = .ok (.invokevirtual 17, 3) := by decide +kernel
theorem d_L_law_150 : decode c_L_law 150 = .ok (.if_icmp .eq 594, 3) := by decide +kernel
theorem d_L_law_153 : decode c_L_law 153 = .ok (.iconst 0, 1) := by decide +kernel
theorem d_L_law_154 : decode c_L_law 154 = .ok (.ireturn, 1) := by decide +kernel
theorem d_L_law_155 : decode c_L_law 155 = .ok (.aload_n 1, 1) := by decide +kernel
theorem d_L_law_156 : decode c_L_law 156 = .ok (.aload_n 0, 1) := by decide +kernel
theorem d_L_law_157 : decode c_L_law 157 = .ok (.iload_n 3, 1) := by decide +kernel
theorem d_L_law_158 : decode c_L_law 158 = .ok (.iconst 1, 1) := by decide +kernel
theorem d_L_law_159 : decode c_L_law 159 = .ok (.iadd, 1) := by decide +kernel
theorem d_L_law_160 : decode c_L_law 160 = .ok (.iaload, 1) := by decide +kernel
theorem d_L_law_161 : decode c_L_law 161 = .ok (.aload_n 0, 1) := by decide +kernel
theorem d_L_law_162 : decode c_L_law 162 = .ok (.iload_n 3, 1) := by decide +kernel
theorem d_L_law_163 : decode c_L_law 163 = .ok (.iconst 2, 1) := by decide +kernel
theorem d_L_law_164 : decode c_L_law 164 = .ok (.iadd, 1) := by decide +kernel
theorem d_L_law_165 : decode c_L_law 165 = .ok (.iaload, 1) := by decide +kernel
theorem d_L_law_166 : decode c_L_law 166 = .ok (.aload_n 0, 1) := by decide +kernel
theorem d_L_law_167 : decode c_L_law 167 = .ok (.iload_n 3, 1) := by decide +kernel
theorem d_L_law_168 : decode c_L_law 168 = .ok (.iconst 3, 1) := by decide +kernel
theorem d_L_law_169 : decode c_L_law 169 = .ok (.iadd, 1) := by decide +kernel
theorem d_L_law_170 : decode c_L_law 170 = .ok (.iaload, 1) := by decide +kernel
theorem d_L_law_171 : decode c_L_law 171 = .ok (.aload_n 0, 1) := by decide +kernel
theorem d_L_law_172 : decode c_L_law 172 = .ok (.iload_n 3, 1) := by decide +kernel
theorem d_L_law_173 : decode c_L_law 173 = .ok (.iconst 4, 1) := by decide +kernel
theorem d_L_law_174 : decode c_L_law 174 = .ok (.iadd, 1) := by decide +kernel
theorem d_L_law_175 : decode c_L_law 175 = .ok (.iaload, 1) := by decide +kernel
theorem d_L_law_176 : decode c_L_law 176 = .ok (.invokevirtual 18, 3) := by decide +kernel
theorem d_L_law_179 : decode c_L_law 179 = .ok (.aload_n 2, 1) := by decide +kernel
theorem d_L_law_180 : decode c_L_law 180 = .ok (.aload_n 0, 1) := by decide +kernel
theorem d_L_law_181 : decode c_L_law 181 = .ok (.iload_n 3, 1) := by decide +kernel
theorem d_L_law_182 : decode c_L_law 182 = .ok (.iconst 1, 1) := by decide +kernel
theorem d_L_law_183 : decode c_L_law 183 = .ok (.iadd, 1) := by decide +kernel
theorem d_L_law_184 : decode c_L_law 184 = .ok (.iaload, 1) := by decide +kernel
theorem d_L_law_185 : decode c_L_law 185 = .ok (.aload_n 0, 1) := by decide +kernel
theorem d_L_law_186 : decode c_L_law 186 = .ok (.iload_n 3, 1) := by decide +kernel
theorem d_L_law_187 : decode c_L_law 187 = .ok (.iconst 2, 1) := by decide +kernel
theorem d_L_law_188 : decode c_L_law 188 = .ok (.iadd, 1) := by decide +kernel
theorem d_L_law_189 : decode c_L_law 189 = .ok (.iaload, 1) := by decide +kernel
theorem d_L_law_190 : decode c_L_law 190 = .ok (.aload_n 0, 1) := by decide +kernel
theorem d_L_law_191 : decode c_L_law 191 = .ok (.iload_n 3, 1) := by decide +kernel
theorem d_L_law_192 : decode c_L_law 192 = .ok (.iconst 3, 1) := by decide +kernel
theorem d_L_law_193 : decode c_L_law 193 = .ok (.iadd, 1) := by decide +kernel
theorem d_L_law_194 : decode c_L_law 194 = .ok (.iaload, 1) := by decide +kernel
theorem d_L_law_195 : decode c_L_law 195 = .ok (.aload_n 0, 1) := by decide +kernel
theorem d_L_law_196 : decode c_L_law 196 = .ok (.iload_n 3, 1) := by decide +kernel
theorem d_L_law_197 : decode c_L_law 197 = .ok (.iconst 4, 1) := by decide +kernel
theorem d_L_law_198 : decode c_L_law 198 = .ok (.iadd, 1) := by decide +kernel
theorem d_L_law_199 : decode c_L_law 199 = .ok (.iaload, 1) := by decide +kernel
theorem d_L_law_200 : decode c_L_law 200 = .ok (.invokevirtual 22, 3) := by decide +kernel
theorem d_L_law_203 : decode c_L_law 203 = .ok (.if_icmp .eq 541, 3) := by decide +kernel
theorem d_L_law_206 : decode c_L_law 206 = .ok (.iconst 0, 1) := by decide +kernel
theorem d_L_law_207 : decode c_L_law 207 = .ok (.ireturn, 1) := by decide +kernel
theorem d_L_law_208 : decode c_L_law 208 = .ok (.aload_n 1, 1) := by decide +kernel
theorem d_L_law_209 : decode c_L_law 209 = .ok (.aload_n 0, 1) := by decide +kernel
theorem d_L_law_210 : decode c_L_law 210 = .ok (.iload_n 3, 1) := by decide +kernel
theorem d_L_law_211 : decode c_L_law 211 = .ok (.iconst 1, 1) := by decide +kernel
theorem d_L_law_212 : decode c_L_law 212 = .ok (.iadd, 1) := by decide +kernel
theorem d_L_law_213 : decode c_L_law 213 = .ok (.iaload, 1) := by decide +kernel
theorem d_L_law_214 : decode c_L_law 214 = .ok (.aload_n 0, 1) := by decide +kernel
theorem d_L_law_215 : decode c_L_law 215 = .ok (.iload_n 3, 1) := by decide +kernel
theorem d_L_law_216 : decode c_L_law 216 = .ok (.iconst 2, 1) := by decide +kernel
theorem d_L_law_217 : decode c_L_law 217 = .ok (.iadd, 1) := by decide +kernel
theorem d_L_law_218 : decode c_L_law 218 = .ok (.iaload, 1) := by decide +kernel
theorem d_L_law_219 : decode c_L_law 219 = .ok (.ifCond .eq 7, 3) := by decide +kernel
theorem d_L_law_222 : decode c_L_law 222 = .ok (.iconst 1, 1) := by decide +kernel
theorem d_L_law_223 : decode c_L_law 223 = .ok (.goto 4, 3) := by decide +kernel
theorem d_L_law_226 : decode c_L_law 226 = .ok (.iconst 0, 1) := by decide +kernel
theorem d_L_law_227 : decode c_L_law 227 = .ok (.aload_n 0, 1) := by decide +kernel
theorem d_L_law_228 : decode c_L_law 228 = .ok (.iload_n 3, 1) := by decide +kernel
theorem d_L_law_229 : decode c_L_law 229 = .ok (.iconst 3, 1) := by decide +kernel
theorem d_L_law_230 : decode c_L_law 230 = .ok (.iadd, 1) := by decide +kernel
theorem d_L_law_231 : decode c_L_law 231 = .ok (.iaload, 1) := by decide +kernel
theorem d_L_law_232 : decode c_L_law 232 = .ok (.aload_n 0, 1) := by decide +kernel
theorem d_L_law_233 : decode c_L_law 233 = .ok (.iload_n 3, 1) := by decide +kernel
theorem d_L_law_234 : decode c_L_law 234 = .ok (.iconst 4, 1) := by decide +kernel
theorem d_L_law_235 : decode c_L_law 235 = .ok (.iadd, 1) := by decide +kernel
theorem d_L_law_236 : decode c_L_law 236 = .ok (.iaload, 1) := by decide +kernel
theorem d_L_law_237 : decode c_L_law 237 = .ok (.invokevirtual 23, 3) := by decide +kernel
theorem d_L_law_240 : decode c_L_law 240 = .ok (.aload_n 2, 1) := by decide +kernel
theorem d_L_law_241 : decode c_L_law 241 = .ok (.aload_n 0, 1) := by decide +kernel
theorem d_L_law_242 : decode c_L_law 242 = .ok (.iload_n 3, 1) := by decide +kernel
theorem d_L_law_243 : decode c_L_law 243 = .ok (.iconst 1, 1) := by decide +kernel
theorem d_L_law_244 : decode c_L_law 244 = .ok (.iadd, 1) := by decide +kernel
theorem d_L_law_245 : decode c_L_law 245 = .ok (.iaload, 1) := by decide +kernel
theorem d_L_law_246 : decode c_L_law 246 = .ok (.aload_n 0, 1) := by decide +kernel
theorem d_L_law_247 : decode c_L_law 247 = .ok (.iload_n 3, 1) := by decide +kernel
theorem d_L_law_248 : decode c_L_law 248 = .ok (.iconst 2, 1) := by decide +kernel
theorem d_L_law_249 : decode c_L_law 249 = .ok (.iadd, 1) := by decide +kernel
theorem d_L_law_250 : decode c_L_law 250 = .ok (.iaload, 1) := by decide +kernel
theorem d_L_law_251 : decode c_L_law 251 = .ok (.ifCond .eq 7, 3) := by decide +kernel
theorem d_L_law_254 : decode c_L_law 254 = .ok (.iconst 1, 1) := by decide +kernel
theorem d_L_law_255 : decode c_L_law 255 = .ok (.goto 4, 3) := by decide +kernel
theorem d_L_law_258 : decode c_L_law 258 = .ok (.iconst 0, 1) := by decide +kernel
theorem d_L_law_259 : decode c_L_law 259 = .ok (.aload_n 0, 1) := by decide +kernel
theorem d_L_law_260 : decode c_L_law 260 = .ok (.iload_n 3, 1) := by decide +kernel
theorem d_L_law_261 : decode c_L_law 261 = .ok (.iconst 3, 1) := by decide +kernel
theorem d_L_law_262 : decode c_L_law 262 = .ok (.iadd, 1) := by decide +kernel
theorem d_L_law_263 : decode c_L_law 263 = .ok (.iaload, 1) := by decide +kernel
theorem d_L_law_264 : decode c_L_law 264 = .ok (.aload_n 0, 1) := by decide +kernel
theorem d_L_law_265 : decode c_L_law 265 = .ok (.iload_n 3, 1) := by decide +kernel
theorem d_L_law_266 : decode c_L_law 266 = .ok (.iconst 4, 1) := by decide +kernel
theorem d_L_law_267 : decode c_L_law 267 = .ok (.iadd, 1) := by decide +kernel
theorem d_L_law_268 : decode c_L_law 268 = .ok (.iaload, 1) := by decide +kernel
theorem d_L_law_269 : decode c_L_law 269 = .ok (.invokevirtual 27, 3) := by decide +kernel
theorem d_L_law_272 : decode c_L_law 272 = .ok (.if_icmp .eq 472, 3) := by decide +kernel
theorem d_L_law_275 : decode c_L_law 275 = .ok (.iconst 0, 1) := by decide +kernel
theorem d_L_law_276 : decode c_L_law 276 = .ok (.ireturn, 1) := by decide +kernel
theorem d_L_law_277 : decode c_L_law 277 = .ok (.aload_n 1, 1) := by decide +kernel
theorem d_L_law_278 : decode c_L_law 278 = .ok (.aload_n 0, 1) := by decide +kernel
theorem d_L_law_279 : decode c_L_law 279 = .ok (.iload_n 3, 1) := by decide +kernel
theorem d_L_law_280 : decode c_L_law 280 = .ok (.iconst 1, 1) := by decide +kernel
theorem d_L_law_281 : decode c_L_law 281 = .ok (.iadd, 1) := by decide +kernel
theorem d_L_law_282 : decode c_L_law 282 = .ok (.iaload, 1) := by decide +kernel
theorem d_L_law_283 : decode c_L_law 283 = .ok (.aload_n 0, 1) := by decide +kernel
theorem d_L_law_284 : decode c_L_law 284 = .ok (.iload_n 3, 1) := by decide +kernel
theorem d_L_law_285 : decode c_L_law 285 = .ok (.iconst 2, 1) := by decide +kernel
theorem d_L_law_286 : decode c_L_law 286 = .ok (.iadd, 1) := by decide +kernel
theorem d_L_law_287 : decode c_L_law 287 = .ok (.iaload, 1) := by decide +kernel
theorem d_L_law_288 : decode c_L_law 288 = .ok (.invokevirtual 28, 3) := by decide +kernel
theorem d_L_law_291 : decode c_L_law 291 = .ok (.aload_n 2, 1) := by decide +kernel
theorem d_L_law_292 : decode c_L_law 292 = .ok (.aload_n 0, 1) := by decide +kernel
theorem d_L_law_293 : decode c_L_law 293 = .ok (.iload_n 3, 1) := by decide +kernel
theorem d_L_law_294 : decode c_L_law 294 = .ok (.iconst 1, 1) := by decide +kernel
theorem d_L_law_295 : decode c_L_law 295 = .ok (.iadd, 1) := by decide +kernel
theorem d_L_law_296 : decode c_L_law 296 = .ok (.iaload, 1) := by decide +kernel
theorem d_L_law_297 : decode c_L_law 297 = .ok (.aload_n 0, 1) := by decide +kernel
theorem d_L_law_298 : decode c_L_law 298 = .ok (.iload_n 3, 1) := by decide +kernel
theorem d_L_law_299 : decode c_L_law 299 = .ok (.iconst 2, 1) := by decide +kernel
theorem d_L_law_300 : decode c_L_law 300 = .ok (.iadd, 1) := by decide +kernel
theorem d_L_law_301 : decode c_L_law 301 = .ok (.iaload, 1) := by decide +kernel
theorem d_L_law_302 : decode c_L_law 302 = .ok (.invokevirtual 32, 3) := by decide +kernel
theorem d_L_law_305 : decode c_L_law 305 = .ok (.if_icmp .eq 439, 3) := by decide +kernel
theorem d_L_law_308 : decode c_L_law 308 = .ok (.iconst 0, 1) := by decide +kernel
theorem d_L_law_309 : decode c_L_law 309 = .ok (.ireturn, 1) := by decide +kernel
theorem d_L_law_310 : decode c_L_law 310 = .ok (.aload_n 1, 1) := by decide +kernel
theorem d_L_law_311 : decode c_L_law 311 = .ok (.aload_n 0, 1) := by decide +kernel
theorem d_L_law_312 : decode c_L_law 312 = .ok (.iload_n 3, 1) := by decide +kernel
theorem d_L_law_313 : decode c_L_law 313 = .ok (.iconst 1, 1) := by decide +kernel
theorem d_L_law_314 : decode c_L_law 314 = .ok (.iadd, 1) := by decide +kernel
theorem d_L_law_315 : decode c_L_law 315 = .ok (.iaload, 1) := by decide +kernel
theorem d_L_law_316 : decode c_L_law 316 = .ok (.aload_n 0, 1) := by decide +kernel
theorem d_L_law_317 : decode c_L_law 317 = .ok (.iload_n 3, 1) := by decide +kernel
theorem d_L_law_318 : decode c_L_law 318 = .ok (.iconst 2, 1) := by decide +kernel
theorem d_L_law_319 : decode c_L_law 319 = .ok (.iadd, 1) := by decide +kernel
theorem d_L_law_320 : decode c_L_law 320 = .ok (.iaload, 1) := by decide +kernel
theorem d_L_law_321 : decode c_L_law 321 = .ok (.invokevirtual 33, 3) := by decide +kernel
theorem d_L_law_324 : decode c_L_law 324 = .ok (.aload_n 2, 1) := by decide +kernel
theorem d_L_law_325 : decode c_L_law 325 = .ok (.aload_n 0, 1) := by decide +kernel
theorem d_L_law_326 : decode c_L_law 326 = .ok (.iload_n 3, 1) := by decide +kernel
theorem d_L_law_327 : decode c_L_law 327 = .ok (.iconst 1, 1) := by decide +kernel
theorem d_L_law_328 : decode c_L_law 328 = .ok (.iadd, 1) := by decide +kernel
theorem d_L_law_329 : decode c_L_law 329 = .ok (.iaload, 1) := by decide +kernel
theorem d_L_law_330 : decode c_L_law 330 = .ok (.aload_n 0, 1) := by decide +kernel
theorem d_L_law_331 : decode c_L_law 331 = .ok (.iload_n 3, 1) := by decide +kernel
theorem d_L_law_332 : decode c_L_law 332 = .ok (.iconst 2, 1) := by decide +kernel
theorem d_L_law_333 : decode c_L_law 333 = .ok (.iadd, 1) := by decide +kernel
theorem d_L_law_334 : decode c_L_law 334 = .ok (.iaload, 1) := by decide +kernel
theorem d_L_law_335 : decode c_L_law 335 = .ok (.invokevirtual 36, 3) := by decide +kernel
theorem d_L_law_338 : decode c_L_law 338 = .ok (.if_icmp .eq 406, 3) := by decide +kernel
theorem d_L_law_341 : decode c_L_law 341 = .ok (.iconst 0, 1) := by decide +kernel
theorem d_L_law_342 : decode c_L_law 342 = .ok (.ireturn, 1) := by decide +kernel
theorem d_L_law_343 : decode c_L_law 343 = .ok (.aload_n 1, 1) := by decide +kernel
theorem d_L_law_344 : decode c_L_law 344 = .ok (.aload_n 0, 1) := by decide +kernel
theorem d_L_law_345 : decode c_L_law 345 = .ok (.iload_n 3, 1) := by decide +kernel
theorem d_L_law_346 : decode c_L_law 346 = .ok (.iconst 1, 1) := by decide +kernel
theorem d_L_law_347 : decode c_L_law 347 = .ok (.iadd, 1) := by decide +kernel
theorem d_L_law_348 : decode c_L_law 348 = .ok (.iaload, 1) := by decide +kernel
theorem d_L_law_349 : decode c_L_law 349 = .ok (.aload_n 0, 1) := by decide +kernel
theorem d_L_law_350 : decode c_L_law 350 = .ok (.iload_n 3, 1) := by decide +kernel
theorem d_L_law_351 : decode c_L_law 351 = .ok (.iconst 2, 1) := by decide +kernel
theorem d_L_law_352 : decode c_L_law 352 = .ok (.iadd, 1) := by decide +kernel
theorem d_L_law_353 : decode c_L_law 353 = .ok (.iaload, 1) := by decide +kernel
theorem d_L_law_354 : decode c_L_law 354 = .ok (.ifCond .eq 7, 3) := by decide +kernel
theorem d_L_law_357 : decode c_L_law 357 = .ok (.iconst 1, 1) := by decide +kernel
theorem d_L_law_358 : decode c_L_law 358 = .ok (.goto 4, 3) := by decide +kernel
theorem d_L_law_361 : decode c_L_law 361 = .ok (.iconst 0, 1) := by decide +kernel
theorem d_L_law_362 : decode c_L_law 362 = .ok (.invokevirtual 37, 3) := by decide +kernel
theorem d_L_law_365 : decode c_L_law 365 = .ok (.aload_n 2, 1) := by decide +kernel
theorem d_L_law_366 : decode c_L_law 366 = .ok (.aload_n 0, 1) := by decide +kernel
theorem d_L_law_367 : decode c_L_law 367 = .ok (.iload_n 3, 1) := by decide +kernel
theorem d_L_law_368 : decode c_L_law 368 = .ok (.iconst 1, 1) := by decide +kernel
theorem d_L_law_369 : decode c_L_law 369 = .ok (.iadd, 1) := by decide +kernel
theorem d_L_law_370 : decode c_L_law 370 = .ok (.iaload, 1) := by decide +kernel
theorem d_L_law_371 : decode c_L_law 371 = .ok (.aload_n 0, 1) := by decide +kernel
theorem d_L_law_372 : decode c_L_law 372 = .ok (.iload_n 3, 1) := by decide +kernel
theorem d_L_law_373 : decode c_L_law 373 = .ok (.iconst 2, 1) := by decide +kernel
theorem d_L_law_374 : decode c_L_law 374 = .ok (.iadd, 1) := by decide +kernel
theorem d_L_law_375 : decode c_L_law 375 = .ok (.iaload, 1) := by decide +kernel
theorem d_L_law_376 : decode c_L_law 376 = .ok (.ifCond .eq 7, 3) := by decide +kernel
theorem d_L_law_379 : decode c_L_law 379 = .ok (.iconst 1, 1) := by decide +kernel
theorem d_L_law_380 : decode c_L_law 380 = .ok (.goto 4, 3) := by decide +kernel
theorem d_L_law_383 : decode c_L_law 383 = .ok (.iconst 0, 1) := by decide +kernel
theorem d_L_law_384 : decode c_L_law 384 = .ok (.invokevirtual 41, 3) := by decide +kernel
theorem d_L_law_387 : decode c_L_law 387 = .ok (.if_icmp .eq 357, 3) := by decide +kernel
theorem d_L_law_390 : decode c_L_law 390 = .ok (.iconst 0, 1) := by decide +kernel
theorem d_L_law_391 : decode c_L_law 391 = .ok (.ireturn, 1) := by decide +kernel
theorem d_L_law_392 : decode c_L_law 392 = .ok (.aload_n 1, 1) := by decide +kernel
theorem d_L_law_393 : decode c_L_law 393 = .ok (.aload_n 0, 1) := by decide +kernel
theorem d_L_law_394 : decode c_L_law 394 = .ok (.iload_n 3, 1) := by decide +kernel
theorem d_L_law_395 : decode c_L_law 395 = .ok (.iconst 1, 1) := by decide +kernel
theorem d_L_law_396 : decode c_L_law 396 = .ok (.iadd, 1) := by decide +kernel
theorem d_L_law_397 : decode c_L_law 397 = .ok (.iaload, 1) := by decide +kernel
theorem d_L_law_398 : decode c_L_law 398 = .ok (.aload_n 0, 1) := by decide +kernel
theorem d_L_law_399 : decode c_L_law 399 = .ok (.iload_n 3, 1) := by decide +kernel
theorem d_L_law_400 : decode c_L_law 400 = .ok (.iconst 2, 1) := by decide +kernel
theorem d_L_law_401 : decode c_L_law 401 = .ok (.iadd, 1) := by decide +kernel
theorem d_L_law_402 : decode c_L_law 402 = .ok (.iaload, 1) := by decide +kernel
theorem d_L_law_403 : decode c_L_law 403 = .ok (.invokevirtual 42, 3) := by decide +kernel
theorem d_L_law_406 : decode c_L_law 406 = .ok (.aload_n 2, 1) := by decide +kernel
theorem d_L_law_407 : decode c_L_law 407 = .ok (.aload_n 0, 1) := by decide +kernel
theorem d_L_law_408 : decode c_L_law 408 = .ok (.iload_n 3, 1) := by decide +kernel
theorem d_L_law_409 : decode c_L_law 409 = .ok (.iconst 1, 1) := by decide +kernel
theorem d_L_law_410 : decode c_L_law 410 = .ok (.iadd, 1) := by decide +kernel
theorem d_L_law_411 : decode c_L_law 411 = .ok (.iaload, 1) := by decide +kernel
theorem d_L_law_412 : decode c_L_law 412 = .ok (.aload_n 0, 1) := by decide +kernel
theorem d_L_law_413 : decode c_L_law 413 = .ok (.iload_n 3, 1) := by decide +kernel
theorem d_L_law_414 : decode c_L_law 414 = .ok (.iconst 2, 1) := by decide +kernel
theorem d_L_law_415 : decode c_L_law 415 = .ok (.iadd, 1) := by decide +kernel
theorem d_L_law_416 : decode c_L_law 416 = .ok (.iaload, 1) := by decide +kernel
theorem d_L_law_417 : decode c_L_law 417 = .ok (.invokevirtual 45, 3) := by decide +kernel
theorem d_L_law_420 : decode c_L_law 420 = .ok (.if_icmp .eq 324, 3) := by decide +kernel
theorem d_L_law_423 : decode c_L_law 423 = .ok (.iconst 0, 1) := by decide +kernel
theorem d_L_law_424 : decode c_L_law 424 = .ok (.ireturn, 1) := by decide +kernel
theorem d_L_law_425 : decode c_L_law 425 = .ok (.aload_n 1, 1) := by decide +kernel
theorem d_L_law_426 : decode c_L_law 426 = .ok (.aload_n 0, 1) := by decide +kernel
theorem d_L_law_427 : decode c_L_law 427 = .ok (.iload_n 3, 1) := by decide +kernel
theorem d_L_law_428 : decode c_L_law 428 = .ok (.iconst 1, 1) := by decide +kernel
theorem d_L_law_429 : decode c_L_law 429 = .ok (.iadd, 1) := by decide +kernel
theorem d_L_law_430 : decode c_L_law 430 = .ok (.iaload, 1) := by decide +kernel
theorem d_L_law_431 : decode c_L_law 431 = .ok (.aload_n 0, 1) := by decide +kernel
theorem d_L_law_432 : decode c_L_law 432 = .ok (.iload_n 3, 1) := by decide +kernel
theorem d_L_law_433 : decode c_L_law 433 = .ok (.iconst 2, 1) := by decide +kernel
theorem d_L_law_434 : decode c_L_law 434 = .ok (.iadd, 1) := by decide +kernel
theorem d_L_law_435 : decode c_L_law 435 = .ok (.iaload, 1) := by decide +kernel
theorem d_L_law_436 : decode c_L_law 436 = .ok (.ifCond .eq 7, 3) := by decide +kernel
theorem d_L_law_439 : decode c_L_law 439 = .ok (.iconst 1, 1) := by decide +kernel
theorem d_L_law_440 : decode c_L_law 440 = .ok (.goto 4, 3) := by decide +kernel
theorem d_L_law_443 : decode c_L_law 443 = .ok (.iconst 0, 1) := by decide +kernel
theorem d_L_law_444 : decode c_L_law 444 = .ok (.invokevirtual 46, 3) := by decide +kernel
theorem d_L_law_447 : decode c_L_law 447 = .ok (.aload_n 2, 1) := by decide +kernel
theorem d_L_law_448 : decode c_L_law 448 = .ok (.aload_n 0, 1) := by decide +kernel
theorem d_L_law_449 : decode c_L_law 449 = .ok (.iload_n 3, 1) := by decide +kernel
theorem d_L_law_450 : decode c_L_law 450 = .ok (.iconst 1, 1) := by decide +kernel
theorem d_L_law_451 : decode c_L_law 451 = .ok (.iadd, 1) := by decide +kernel
theorem d_L_law_452 : decode c_L_law 452 = .ok (.iaload, 1) := by decide +kernel
theorem d_L_law_453 : decode c_L_law 453 = .ok (.aload_n 0, 1) := by decide +kernel
theorem d_L_law_454 : decode c_L_law 454 = .ok (.iload_n 3, 1) := by decide +kernel
theorem d_L_law_455 : decode c_L_law 455 = .ok (.iconst 2, 1) := by decide +kernel
theorem d_L_law_456 : decode c_L_law 456 = .ok (.iadd, 1) := by decide +kernel
theorem d_L_law_457 : decode c_L_law 457 = .ok (.iaload, 1) := by decide +kernel
theorem d_L_law_458 : decode c_L_law 458 = .ok (.ifCond .eq 7, 3) := by decide +kernel
theorem d_L_law_461 : decode c_L_law 461 = .ok (.iconst 1, 1) := by decide +kernel
theorem d_L_law_462 : decode c_L_law 462 = .ok (.goto 4, 3) := by decide +kernel
theorem d_L_law_465 : decode c_L_law 465 = .ok (.iconst 0, 1) := by decide +kernel
theorem d_L_law_466 : decode c_L_law 466 = .ok (.invokevirtual 49, 3) := by decide +kernel
theorem d_L_law_469 : decode c_L_law 469 = .ok (.if_icmp .eq 275, 3) := by decide +kernel
theorem d_L_law_472 : decode c_L_law 472 = .ok (.iconst 0, 1) := by decide +kernel
theorem d_L_law_473 : decode c_L_law 473 = .ok (.ireturn, 1) := by decide +kernel
theorem d_L_law_474 : decode c_L_law 474 = .ok (.aload_n 1, 1) := by decide +kernel
theorem d_L_law_475 : decode c_L_law 475 = .ok (.aload_n 0, 1) := by decide +kernel
theorem d_L_law_476 : decode c_L_law 476 = .ok (.iload_n 3, 1) := by decide +kernel
theorem d_L_law_477 : decode c_L_law 477 = .ok (.iconst 1, 1) := by decide +kernel
theorem d_L_law_478 : decode c_L_law 478 = .ok (.iadd, 1) := by decide +kernel
theorem d_L_law_479 : decode c_L_law 479 = .ok (.iaload, 1) := by decide +kernel
theorem d_L_law_480 : decode c_L_law 480 = .ok (.invokevirtual 50, 3) := by decide +kernel
theorem d_L_law_483 : decode c_L_law 483 = .ok (.aload_n 2, 1) := by decide +kernel
theorem d_L_law_484 : decode c_L_law 484 = .ok (.aload_n 0, 1) := by decide +kernel
theorem d_L_law_485 : decode c_L_law 485 = .ok (.iload_n 3, 1) := by decide +kernel
theorem d_L_law_486 : decode c_L_law 486 = .ok (.iconst 1, 1) := by decide +kernel
theorem d_L_law_487 : decode c_L_law 487 = .ok (.iadd, 1) := by decide +kernel
theorem d_L_law_488 : decode c_L_law 488 = .ok (.iaload, 1) := by decide +kernel
theorem d_L_law_489 : decode c_L_law 489 = .ok (.invokevirtual 53, 3) := by decide +kernel
theorem d_L_law_492 : decode c_L_law 492 = .ok (.if_icmp .eq 252, 3) := by decide +kernel
theorem d_L_law_495 : decode c_L_law 495 = .ok (.iconst 0, 1) := by decide +kernel
theorem d_L_law_496 : decode c_L_law 496 = .ok (.ireturn, 1) := by decide +kernel
theorem d_L_law_497 : decode c_L_law 497 = .ok (.aload_n 1, 1) := by decide +kernel
theorem d_L_law_498 : decode c_L_law 498 = .ok (.invokevirtual 54, 3) := by decide +kernel
theorem d_L_law_501 : decode c_L_law 501 = .ok (.aload_n 2, 1) := by decide +kernel
theorem d_L_law_502 : decode c_L_law 502 = .ok (.invokevirtual 58, 3) := by decide +kernel
theorem d_L_law_505 : decode c_L_law 505 = .ok (.if_icmp .eq 239, 3) := by decide +kernel
theorem d_L_law_508 : decode c_L_law 508 = .ok (.iconst 0, 1) := by decide +kernel
theorem d_L_law_509 : decode c_L_law 509 = .ok (.ireturn, 1) := by decide +kernel
theorem d_L_law_510 : decode c_L_law 510 = .ok (.aload_n 1, 1) := by decide +kernel
theorem d_L_law_511 : decode c_L_law 511 = .ok (.invokevirtual 59, 3) := by decide +kernel
theorem d_L_law_514 : decode c_L_law 514 = .ok (.aload_n 2, 1) := by decide +kernel
theorem d_L_law_515 : decode c_L_law 515 = .ok (.invokevirtual 62, 3) := by decide +kernel
theorem d_L_law_518 : decode c_L_law 518 = .ok (.if_icmp .eq 226, 3) := by decide +kernel
theorem d_L_law_521 : decode c_L_law 521 = .ok (.iconst 0, 1) := by decide +kernel
theorem d_L_law_522 : decode c_L_law 522 = .ok (.ireturn, 1) := by decide +kernel
theorem d_L_law_523 : decode c_L_law 523 = .ok (.aload_n 1, 1) := by decide +kernel
theorem d_L_law_524 : decode c_L_law 524 = .ok (.aload_n 0, 1) := by decide +kernel
theorem d_L_law_525 : decode c_L_law 525 = .ok (.iload_n 3, 1) := by decide +kernel
theorem d_L_law_526 : decode c_L_law 526 = .ok (.iconst 1, 1) := by decide +kernel
theorem d_L_law_527 : decode c_L_law 527 = .ok (.iadd, 1) := by decide +kernel
theorem d_L_law_528 : decode c_L_law 528 = .ok (.iaload, 1) := by decide +kernel
theorem d_L_law_529 : decode c_L_law 529 = .ok (.invokevirtual 63, 3) := by decide +kernel
theorem d_L_law_532 : decode c_L_law 532 = .ok (.aload_n 2, 1) := by decide +kernel
theorem d_L_law_533 : decode c_L_law 533 = .ok (.aload_n 0, 1) := by decide +kernel
theorem d_L_law_534 : decode c_L_law 534 = .ok (.iload_n 3, 1) := by decide +kernel
theorem d_L_law_535 : decode c_L_law 535 = .ok (.iconst 1, 1) := by decide +kernel
theorem d_L_law_536 : decode c_L_law 536 = .ok (.iadd, 1) := by decide +kernel
theorem d_L_law_537 : decode c_L_law 537 = .ok (.iaload, 1) := by decide +kernel
theorem d_L_law_538 : decode c_L_law 538 = .ok (.invokevirtual 66, 3) := by decide +kernel
theorem d_L_law_541 : decode c_L_law 541 = .ok (.if_icmp .eq 203, 3) := by decide +kernel
theorem d_L_law_544 : decode c_L_law 544 = .ok (.iconst 0, 1) := by decide +kernel
theorem d_L_law_545 : decode c_L_law 545 = .ok (.ireturn, 1) := by decide +kernel
theorem d_L_law_546 : decode c_L_law 546 = .ok (.aload_n 1, 1) := by decide +kernel
theorem d_L_law_547 : decode c_L_law 547 = .ok (.aload_n 0, 1) := by decide +kernel
theorem d_L_law_548 : decode c_L_law 548 = .ok (.iload_n 3, 1) := by decide +kernel
theorem d_L_law_549 : decode c_L_law 549 = .ok (.iconst 1, 1) := by decide +kernel
theorem d_L_law_550 : decode c_L_law 550 = .ok (.iadd, 1) := by decide +kernel
theorem d_L_law_551 : decode c_L_law 551 = .ok (.iaload, 1) := by decide +kernel
theorem d_L_law_552 : decode c_L_law 552 = .ok (.invokevirtual 67, 3) := by decide +kernel
theorem d_L_law_555 : decode c_L_law 555 = .ok (.aload_n 2, 1) := by decide +kernel
theorem d_L_law_556 : decode c_L_law 556 = .ok (.aload_n 0, 1) := by decide +kernel
theorem d_L_law_557 : decode c_L_law 557 = .ok (.iload_n 3, 1) := by decide +kernel
theorem d_L_law_558 : decode c_L_law 558 = .ok (.iconst 1, 1) := by decide +kernel
theorem d_L_law_559 : decode c_L_law 559 = .ok (.iadd, 1) := by decide +kernel
theorem d_L_law_560 : decode c_L_law 560 = .ok (.iaload, 1) := by decide +kernel
theorem d_L_law_561 : decode c_L_law 561 = .ok (.invokevirtual 70, 3) := by decide +kernel
theorem d_L_law_564 : decode c_L_law 564 = .ok (.if_icmp .eq 180, 3) := by decide +kernel
theorem d_L_law_567 : decode c_L_law 567 = .ok (.iconst 0, 1) := by decide +kernel
theorem d_L_law_568 : decode c_L_law 568 = .ok (.ireturn, 1) := by decide +kernel
theorem d_L_law_569 : decode c_L_law 569 = .ok (.aload_n 1, 1) := by decide +kernel
theorem d_L_law_570 : decode c_L_law 570 = .ok (.aload_n 0, 1) := by decide +kernel
theorem d_L_law_571 : decode c_L_law 571 = .ok (.iload_n 3, 1) := by decide +kernel
theorem d_L_law_572 : decode c_L_law 572 = .ok (.iconst 1, 1) := by decide +kernel
theorem d_L_law_573 : decode c_L_law 573 = .ok (.iadd, 1) := by decide +kernel
theorem d_L_law_574 : decode c_L_law 574 = .ok (.iaload, 1) := by decide +kernel
theorem d_L_law_575 : decode c_L_law 575 = .ok (.invokevirtual 71, 3) := by decide +kernel
theorem d_L_law_578 : decode c_L_law 578 = .ok (.aload_n 2, 1) := by decide +kernel
theorem d_L_law_579 : decode c_L_law 579 = .ok (.aload_n 0, 1) := by decide +kernel
theorem d_L_law_580 : decode c_L_law 580 = .ok (.iload_n 3, 1) := by decide +kernel
theorem d_L_law_581 : decode c_L_law 581 = .ok (.iconst 1, 1) := by decide +kernel
theorem d_L_law_582 : decode c_L_law 582 = .ok (.iadd, 1) := by decide +kernel
theorem d_L_law_583 : decode c_L_law 583 = .ok (.iaload, 1) := by decide +kernel
theorem d_L_law_584 : decode c_L_law 584 = .ok (.invokevirtual 75, 3) := by decide +kernel
theorem d_L_law_587 : decode c_L_law 587 = .ok (.lcmp, 1) := by decide +kernel
theorem d_L_law_588 : decode c_L_law 588 = .ok (.ifCond .eq 156, 3) := by decide +kernel
theorem d_L_law_591 : decode c_L_law 591 = .ok (.iconst 0, 1) := by decide +kernel
theorem d_L_law_592 : decode c_L_law 592 = .ok (.ireturn, 1) := by decide +kernel
theorem d_L_law_593 : decode c_L_law 593 = .ok (.aload_n 1, 1) := by decide +kernel
theorem d_L_law_594 : decode c_L_law 594 = .ok (.aload_n 0, 1) := by decide +kernel
theorem d_L_law_595 : decode c_L_law 595 = .ok (.iload_n 3, 1) := by decide +kernel
theorem d_L_law_596 : decode c_L_law 596 = .ok (.iconst 1, 1) := by decide +kernel
theorem d_L_law_597 : decode c_L_law 597 = .ok (.iadd, 1) := by decide +kernel
theorem d_L_law_598 : decode c_L_law 598 = .ok (.iaload, 1) := by decide +kernel
theorem d_L_law_599 : decode c_L_law 599 = .ok (.invokevirtual 76, 3) := by decide +kernel
theorem d_L_law_602 : decode c_L_law 602 = .ok (.aload_n 2, 1) := by decide +kernel
theorem d_L_law_603 : decode c_L_law 603 = .ok (.aload_n 0, 1) := by decide +kernel
theorem d_L_law_604 : decode c_L_law 604 = .ok (.iload_n 3, 1) := by decide +kernel
theorem d_L_law_605 : decode c_L_law 605 = .ok (.iconst 1, 1) := by decide +kernel
theorem d_L_law_606 : decode c_L_law 606 = .ok (.iadd, 1) := by decide +kernel
theorem d_L_law_607 : decode c_L_law 607 = .ok (.iaload, 1) := by decide +kernel
theorem d_L_law_608 : decode c_L_law 608 = .ok (.invokevirtual 79, 3) := by decide +kernel
theorem d_L_law_611 : decode c_L_law 611 = .ok (.if_icmp .eq 133, 3) := by decide +kernel
theorem d_L_law_614 : decode c_L_law 614 = .ok (.iconst 0, 1) := by decide +kernel
theorem d_L_law_615 : decode c_L_law 615 = .ok (.ireturn, 1) := by decide +kernel
theorem d_L_law_616 : decode c_L_law 616 = .ok (.aload_n 1, 1) := by decide +kernel
theorem d_L_law_617 : decode c_L_law 617 = .ok (.aload_n 0, 1) := by decide +kernel
theorem d_L_law_618 : decode c_L_law 618 = .ok (.iload_n 3, 1) := by decide +kernel
theorem d_L_law_619 : decode c_L_law 619 = .ok (.iconst 1, 1) := by decide +kernel
theorem d_L_law_620 : decode c_L_law 620 = .ok (.iadd, 1) := by decide +kernel
theorem d_L_law_621 : decode c_L_law 621 = .ok (.iaload, 1) := by decide +kernel
theorem d_L_law_622 : decode c_L_law 622 = .ok (.invokevirtual 80, 3) := by decide +kernel
theorem d_L_law_625 : decode c_L_law 625 = .ok (.aload_n 2, 1) := by decide +kernel
theorem d_L_law_626 : decode c_L_law 626 = .ok (.aload_n 0, 1) := by decide +kernel
theorem d_L_law_627 : decode c_L_law 627 = .ok (.iload_n 3, 1) := by decide +kernel
theorem d_L_law_628 : decode c_L_law 628 = .ok (.iconst 1, 1) := by decide +kernel
theorem d_L_law_629 : decode c_L_law 629 = .ok (.iadd, 1) := by decide +kernel
theorem d_L_law_630 : decode c_L_law 630 = .ok (.iaload, 1) := by decide +kernel
theorem d_L_law_631 : decode c_L_law 631 = .ok (.invokevirtual 83, 3) := by decide +kernel
theorem d_L_law_634 : decode c_L_law 634 = .ok (.if_icmp .eq 110, 3) := by decide +kernel
theorem d_L_law_637 : decode c_L_law 637 = .ok (.iconst 0, 1) := by decide +kernel
theorem d_L_law_638 : decode c_L_law 638 = .ok (.ireturn, 1) := by decide +kernel
theorem d_L_law_639 : decode c_L_law 639 = .ok (.aload_n 1, 1) := by decide +kernel
theorem d_L_law_640 : decode c_L_law 640 = .ok (.aload_n 0, 1) := by decide +kernel
theorem d_L_law_641 : decode c_L_law 641 = .ok (.iload_n 3, 1) := by decide +kernel
theorem d_L_law_642 : decode c_L_law 642 = .ok (.iconst 1, 1) := by decide +kernel
theorem d_L_law_643 : decode c_L_law 643 = .ok (.iadd, 1) := by decide +kernel
theorem d_L_law_644 : decode c_L_law 644 = .ok (.iaload, 1) := by decide +kernel
theorem d_L_law_645 : decode c_L_law 645 = .ok (.invokevirtual 84, 3) := by decide +kernel
theorem d_L_law_648 : decode c_L_law 648 = .ok (.aload_n 2, 1) := by decide +kernel
theorem d_L_law_649 : decode c_L_law 649 = .ok (.aload_n 0, 1) := by decide +kernel
theorem d_L_law_650 : decode c_L_law 650 = .ok (.iload_n 3, 1) := by decide +kernel
theorem d_L_law_651 : decode c_L_law 651 = .ok (.iconst 1, 1) := by decide +kernel
theorem d_L_law_652 : decode c_L_law 652 = .ok (.iadd, 1) := by decide +kernel
theorem d_L_law_653 : decode c_L_law 653 = .ok (.iaload, 1) := by decide +kernel
theorem d_L_law_654 : decode c_L_law 654 = .ok (.invokevirtual 87, 3) := by decide +kernel
theorem d_L_law_657 : decode c_L_law 657 = .ok (.if_icmp .eq 87, 3) := by decide +kernel
theorem d_L_law_660 : decode c_L_law 660 = .ok (.iconst 0, 1) := by decide +kernel
theorem d_L_law_661 : decode c_L_law 661 = .ok (.ireturn, 1) := by decide +kernel
theorem d_L_law_662 : decode c_L_law 662 = .ok (.aload_n 1, 1) := by decide +kernel
theorem d_L_law_663 : decode c_L_law 663 = .ok (.aload_n 0, 1) := by decide +kernel
theorem d_L_law_664 : decode c_L_law 664 = .ok (.iload_n 3, 1) := by decide +kernel
theorem d_L_law_665 : decode c_L_law 665 = .ok (.iconst 1, 1) := by decide +kernel
theorem d_L_law_666 : decode c_L_law 666 = .ok (.iadd, 1) := by decide +kernel
theorem d_L_law_667 : decode c_L_law 667 = .ok (.iaload, 1) := by decide +kernel
theorem d_L_law_668 : decode c_L_law 668 = .ok (.invokevirtual 88, 3) := by decide +kernel
theorem d_L_law_671 : decode c_L_law 671 = .ok (.aload_n 2, 1) := by decide +kernel
theorem d_L_law_672 : decode c_L_law 672 = .ok (.aload_n 0, 1) := by decide +kernel
theorem d_L_law_673 : decode c_L_law 673 = .ok (.iload_n 3, 1) := by decide +kernel
theorem d_L_law_674 : decode c_L_law 674 = .ok (.iconst 1, 1) := by decide +kernel
theorem d_L_law_675 : decode c_L_law 675 = .ok (.iadd, 1) := by decide +kernel
theorem d_L_law_676 : decode c_L_law 676 = .ok (.iaload, 1) := by decide +kernel
theorem d_L_law_677 : decode c_L_law 677 = .ok (.invokevirtual 91, 3) := by decide +kernel
theorem d_L_law_680 : decode c_L_law 680 = .ok (.if_icmp .eq 64, 3) := by decide +kernel
theorem d_L_law_683 : decode c_L_law 683 = .ok (.iconst 0, 1) := by decide +kernel
theorem d_L_law_684 : decode c_L_law 684 = .ok (.ireturn, 1) := by decide +kernel
theorem d_L_law_685 : decode c_L_law 685 = .ok (.aload_n 1, 1) := by decide +kernel
theorem d_L_law_686 : decode c_L_law 686 = .ok (.invokevirtual 92, 3) := by decide +kernel
theorem d_L_law_689 : decode c_L_law 689 = .ok (.aload_n 2, 1) := by decide +kernel
theorem d_L_law_690 : decode c_L_law 690 = .ok (.invokevirtual 95, 3) := by decide +kernel
theorem d_L_law_693 : decode c_L_law 693 = .ok (.if_icmp .eq 51, 3) := by decide +kernel
theorem d_L_law_696 : decode c_L_law 696 = .ok (.iconst 0, 1) := by decide +kernel
theorem d_L_law_697 : decode c_L_law 697 = .ok (.ireturn, 1) := by decide +kernel
theorem d_L_law_698 : decode c_L_law 698 = .ok (.aload_n 1, 1) := by decide +kernel
theorem d_L_law_699 : decode c_L_law 699 = .ok (.aload_n 0, 1) := by decide +kernel
theorem d_L_law_700 : decode c_L_law 700 = .ok (.iload_n 3, 1) := by decide +kernel
theorem d_L_law_701 : decode c_L_law 701 = .ok (.iconst 1, 1) := by decide +kernel
theorem d_L_law_702 : decode c_L_law 702 = .ok (.iadd, 1) := by decide +kernel
theorem d_L_law_703 : decode c_L_law 703 = .ok (.iaload, 1) := by decide +kernel
theorem d_L_law_704 : decode c_L_law 704 = .ok (.invokevirtual 96, 3) := by decide +kernel
theorem d_L_law_707 : decode c_L_law 707 = .ok (.aload_n 2, 1) := by decide +kernel
theorem d_L_law_708 : decode c_L_law 708 = .ok (.aload_n 0, 1) := by decide +kernel
theorem d_L_law_709 : decode c_L_law 709 = .ok (.iload_n 3, 1) := by decide +kernel
theorem d_L_law_710 : decode c_L_law 710 = .ok (.iconst 1, 1) := by decide +kernel
theorem d_L_law_711 : decode c_L_law 711 = .ok (.iadd, 1) := by decide +kernel
theorem d_L_law_712 : decode c_L_law 712 = .ok (.iaload, 1) := by decide +kernel
theorem d_L_law_713 : decode c_L_law 713 = .ok (.invokevirtual 99, 3) := by decide +kernel
theorem d_L_law_716 : decode c_L_law 716 = .ok (.if_icmp .eq 28, 3) := by decide +kernel
theorem d_L_law_719 : decode c_L_law 719 = .ok (.iconst 0, 1) := by decide +kernel
theorem d_L_law_720 : decode c_L_law 720 = .ok (.ireturn, 1) := by decide +kernel
theorem d_L_law_721 : decode c_L_law 721 = .ok (.aload_n 1, 1) := by decide +kernel
theorem d_L_law_722 : decode c_L_law 722 = .ok (.aload_n 0, 1) := by decide +kernel
theorem d_L_law_723 : decode c_L_law 723 = .ok (.iload_n 3, 1) := by decide +kernel
theorem d_L_law_724 : decode c_L_law 724 = .ok (.iconst 1, 1) := by decide +kernel
theorem d_L_law_725 : decode c_L_law 725 = .ok (.iadd, 1) := by decide +kernel
theorem d_L_law_726 : decode c_L_law 726 = .ok (.iaload, 1) := by decide +kernel
theorem d_L_law_727 : decode c_L_law 727 = .ok (.invokevirtual 100, 3) := by decide +kernel
theorem d_L_law_730 : decode c_L_law 730 = .ok (.aload_n 2, 1) := by decide +kernel
theorem d_L_law_731 : decode c_L_law 731 = .ok (.aload_n 0, 1) := by decide +kernel
theorem d_L_law_732 : decode c_L_law 732 = .ok (.iload_n 3, 1) := by decide +kernel
theorem d_L_law_733 : decode c_L_law 733 = .ok (.iconst 1, 1) := by decide +kernel
theorem d_L_law_734 : decode c_L_law 734 = .ok (.iadd, 1) := by decide +kernel
theorem d_L_law_735 : decode c_L_law 735 = .ok (.iaload, 1) := by decide +kernel
theorem d_L_law_736 : decode c_L_law 736 = .ok (.invokevirtual 103, 3) := by decide +kernel
theorem d_L_law_739 : decode c_L_law 739 = .ok (.if_icmp .eq 5, 3) := by decide +kernel
theorem d_L_law_742 : decode c_L_law 742 = .ok (.iconst 0, 1) := by decide +kernel
theorem d_L_law_743 : decode c_L_law 743 = .ok (.ireturn, 1) := by decide +kernel
theorem d_L_law_744 : decode c_L_law 744 = .ok (.iinc 3 5, 3) := by decide +kernel
theorem d_L_law_747 : decode c_L_law 747 = .ok (.goto (-729), 3) := by decide +kernel
theorem d_L_law_750 : decode c_L_law 750 = .ok (.iconst 1, 1) := by decide +kernel
theorem d_L_law_751 : decode c_L_law 751 = .ok (.ireturn, 1) := by decide +kernel
end
section
def fr_ws : List Cond := lw_tbl.filter goodWord
theorem fr_in {w : Cond} (h : w ∈ tables_1) (g : goodWord w = true) : w ∈ fr_ws := List.mem_filter.mpr ⟨List.mem_append_right _ h, g⟩
theorem fr_inp {y : MethodName} {n : Nat} (h : (y, n) ∈ lw_privs) : Cond.selects y.cls y y ∈ fr_ws := List.mem_filter.mpr ⟨List.mem_append_left _ (List.mem_map.mpr ⟨(y, n), h, rfl⟩), rfl⟩
theorem fr_good : ∀ w ∈ fr_ws, (w.onTables && w.keeps) = true ∨ ∃ ty, w = .arrayClass ty := fun w h => good_of_word (List.mem_filter.mp h).2
theorem fr_sub : ∀ w ∈ fr_ws, w ∈ lw_tbl := fun w h => (List.mem_filter.mp h).1
abbrev fr_aC : String := R_R
def fr_nw : List (String × Nat × MethodName × String) := [(R_F, 25, y_J_init, R_F), (R_R, 11, y_M_init, R_F), (R_R, 20, y_B_init, R_F)]
def fr_cf (q : vw_C) (ty0 : Nat → FieldType) : Prop := (∀ w ∈ u_ws q.1 q.2.1 q.2.2, w ∈ fr_ws) ∧ (∀ k, k < q.2.2 → parseFieldDescriptor (q.2.1 k).2.2.1 = some (ty0 k)) ∧ (∀ a, a < q.2.2 → ∀ b, b < q.2.2 → a ≠ b → (q.2.1 a).2.1 ≠ (q.2.1 b).2.1)
def fr_fl (own : String) (idx ci j : Nat) (ty : FieldType) (fin : Bool) : Prop := ∃ (q : vw_C) (ty0 : Nat → FieldType), fr_cl[ci]? = some q ∧ fr_cf q ty0 ∧ j < q.2.2 ∧ Cond.fieldLink own idx (q.2.1 j).1 (q.2.1 j).2.1 (q.2.1 j).2.2.1 ∈ fr_ws ∧ ty0 j = ty ∧ (q.2.1 j).2.2.2 = fin ∧ (q.2.1 j).1 = q.1
def fr_mb (own : String) (idx : Nat) (y : MethodName) (b : ByteArray) (n' : Nat) (rt : Option FieldType) (n : Nat) : Prop := Cond.methodLink own idx y ∈ fr_ws ∧ Cond.initialized y.cls ∈ fr_ws ∧ Cond.code y b n' rt ∈ fr_ws ∧ y.cls ≠ "java/lang/invoke/MethodHandle" ∧ y.cls ≠ "java/lang/invoke/VarHandle" ∧ (parseMethodDescriptor y.desc).map (fun d => d.parameters.length) = some n
def fr_mv (own : String) (idx : Nat) (y : MethodName) (b : ByteArray) (n' : Nat) (rt : Option FieldType) (n : Nat) : Prop := fr_mb own idx y b n' rt n ∧ Cond.instanceMethod y ∈ fr_ws ∧ Cond.selects y.cls y y ∈ fr_ws
def fr_ms (own : String) (idx : Nat) (y : MethodName) (b : ByteArray) (n' : Nat) (rt : Option FieldType) (n : Nat) : Prop := fr_mb own idx y b n' rt n ∧ Cond.static y ∈ fr_ws
def fr_mi (own : String) (idx : Nat) (y : MethodName) (b : ByteArray) (n' : Nat) (n : Nat) : Prop := fr_mb own idx y b n' none n ∧ Cond.instanceMethod y ∈ fr_ws ∧ y.name = "<init>"
def fr_mn (own : String) (idx : Nat) (y : MethodName) (host : String) (b : ByteArray) (n' : Nat) (n : Nat) : Prop := (own, idx, y, host) ∈ fr_nw ∧ Cond.initialized y.cls ∈ fr_ws ∧ Cond.code y b n' none ∈ fr_ws ∧ (y.cls ≠ "java/lang/invoke/MethodHandle" ∧ y.cls ≠ "java/lang/invoke/VarHandle" ∧ (parseMethodDescriptor y.desc).map (fun d => d.parameters.length) = some n) ∧ Cond.instanceMethod y ∈ fr_ws ∧ y.name = "<init>"
def fr_nc (own : String) (idx ci : Nat) (q : vw_C) (ty0 : Nat → FieldType) : Prop := Cond.classLink own idx q.1 ∈ fr_ws ∧ Cond.instantiable q.1 q.2.2 ∈ fr_ws ∧ Cond.initialized q.1 ∈ fr_ws ∧ fr_cl[ci]? = some q ∧ fr_cf q ty0
theorem ly_F_0 : u_lay R_F T_F 0 ∈ fr_ws := (fr_in (List.mem_append_left _ (List.mem_of_getElem? (i := 50) (by decide +kernel))) rfl)
theorem ly_F_1 : u_lay R_F T_F 1 ∈ fr_ws := (fr_in (List.mem_append_left _ (List.mem_of_getElem? (i := 52) (by decide +kernel))) rfl)
theorem ly_F_2 : u_lay R_F T_F 2 ∈ fr_ws := (fr_in (List.mem_append_left _ (List.mem_of_getElem? (i := 54) (by decide +kernel))) rfl)
theorem ly_F_3 : u_lay R_F T_F 3 ∈ fr_ws := (fr_in (List.mem_append_left _ (List.mem_of_getElem? (i := 56) (by decide +kernel))) rfl)
theorem ly_F_4 : u_lay R_F T_F 4 ∈ fr_ws := (fr_in (List.mem_append_left _ (List.mem_of_getElem? (i := 58) (by decide +kernel))) rfl)
theorem ly_F_5 : u_lay R_F T_F 5 ∈ fr_ws := (fr_in (List.mem_append_left _ (List.mem_of_getElem? (i := 60) (by decide +kernel))) rfl)
theorem cf_F : fr_cf fr_q0 ty_F := by
  refine ⟨?_, tk_F, nm_F⟩
  show ∀ w ∈ [u_lay R_F T_F 0, u_lay R_F T_F 1, u_lay R_F T_F 2, u_lay R_F T_F 3, u_lay R_F T_F 4, u_lay R_F T_F 5], w ∈ fr_ws
  exact List.forall_mem_cons.mpr ⟨ly_F_0, List.forall_mem_cons.mpr ⟨ly_F_1, List.forall_mem_cons.mpr ⟨ly_F_2, List.forall_mem_cons.mpr ⟨ly_F_3, List.forall_mem_cons.mpr ⟨ly_F_4, List.forall_mem_cons.mpr ⟨ly_F_5, fun _ h => absurd h List.not_mem_nil⟩⟩⟩⟩⟩⟩
theorem ly_J_0 : u_lay R_J T_J 0 ∈ fr_ws := (fr_in (List.mem_append_left _ (List.mem_of_getElem? (i := 33) (by decide +kernel))) rfl)
theorem ly_J_1 : u_lay R_J T_J 1 ∈ fr_ws := (fr_in (List.mem_append_left _ (List.mem_of_getElem? (i := 35) (by decide +kernel))) rfl)
theorem ly_J_2 : u_lay R_J T_J 2 ∈ fr_ws := (fr_in (List.mem_append_left _ (List.mem_of_getElem? (i := 37) (by decide +kernel))) rfl)
theorem ly_J_3 : u_lay R_J T_J 3 ∈ fr_ws := (fr_in (List.mem_append_left _ (List.mem_of_getElem? (i := 39) (by decide +kernel))) rfl)
theorem cf_J : fr_cf fr_q1 ty_J := by
  refine ⟨?_, tk_J, nm_J⟩
  show ∀ w ∈ [u_lay R_J T_J 0, u_lay R_J T_J 1, u_lay R_J T_J 2, u_lay R_J T_J 3], w ∈ fr_ws
  exact List.forall_mem_cons.mpr ⟨ly_J_0, List.forall_mem_cons.mpr ⟨ly_J_1, List.forall_mem_cons.mpr ⟨ly_J_2, List.forall_mem_cons.mpr ⟨ly_J_3, fun _ h => absurd h List.not_mem_nil⟩⟩⟩⟩
theorem ly_R_0 : u_lay R_R T_R 0 ∈ fr_ws := (fr_in (List.mem_append_left _ (List.mem_of_getElem? (i := 211) (by decide +kernel))) rfl)
theorem ly_R_1 : u_lay R_R T_R 1 ∈ fr_ws := (fr_in (List.mem_append_left _ (List.mem_of_getElem? (i := 213) (by decide +kernel))) rfl)
theorem ly_R_2 : u_lay R_R T_R 2 ∈ fr_ws := (fr_in (List.mem_append_left _ (List.mem_of_getElem? (i := 215) (by decide +kernel))) rfl)
theorem ly_R_3 : u_lay R_R T_R 3 ∈ fr_ws := (fr_in (List.mem_append_left _ (List.mem_of_getElem? (i := 217) (by decide +kernel))) rfl)
theorem ly_R_4 : u_lay R_R T_R 4 ∈ fr_ws := (fr_in (List.mem_append_left _ (List.mem_of_getElem? (i := 219) (by decide +kernel))) rfl)
theorem ly_R_5 : u_lay R_R T_R 5 ∈ fr_ws := (fr_in (List.mem_append_left _ (List.mem_of_getElem? (i := 221) (by decide +kernel))) rfl)
theorem ly_R_6 : u_lay R_R T_R 6 ∈ fr_ws := (fr_in (List.mem_append_left _ (List.mem_of_getElem? (i := 223) (by decide +kernel))) rfl)
theorem ly_R_7 : u_lay R_R T_R 7 ∈ fr_ws := (fr_in (List.mem_append_left _ (List.mem_of_getElem? (i := 225) (by decide +kernel))) rfl)
theorem ly_R_8 : u_lay R_R T_R 8 ∈ fr_ws := (fr_in (List.mem_append_left _ (List.mem_of_getElem? (i := 227) (by decide +kernel))) rfl)
theorem cf_R : fr_cf fr_q2 ty_R := by
  refine ⟨?_, tk_R, nm_R⟩
  show ∀ w ∈ [u_lay R_R T_R 0, u_lay R_R T_R 1, u_lay R_R T_R 2, u_lay R_R T_R 3, u_lay R_R T_R 4, u_lay R_R T_R 5, u_lay R_R T_R 6, u_lay R_R T_R 7, u_lay R_R T_R 8], w ∈ fr_ws
  exact List.forall_mem_cons.mpr ⟨ly_R_0, List.forall_mem_cons.mpr ⟨ly_R_1, List.forall_mem_cons.mpr ⟨ly_R_2, List.forall_mem_cons.mpr ⟨ly_R_3, List.forall_mem_cons.mpr ⟨ly_R_4, List.forall_mem_cons.mpr ⟨ly_R_5, List.forall_mem_cons.mpr ⟨ly_R_6, List.forall_mem_cons.mpr ⟨ly_R_7, List.forall_mem_cons.mpr ⟨ly_R_8, fun _ h => absurd h List.not_mem_nil⟩⟩⟩⟩⟩⟩⟩⟩⟩
theorem ly_M_0 : u_lay R_M T_M 0 ∈ fr_ws := (fr_in (List.mem_append_left _ (List.mem_of_getElem? (i := 97) (by decide +kernel))) rfl)
theorem ly_M_1 : u_lay R_M T_M 1 ∈ fr_ws := (fr_in (List.mem_append_left _ (List.mem_of_getElem? (i := 99) (by decide +kernel))) rfl)
theorem ly_M_2 : u_lay R_M T_M 2 ∈ fr_ws := (fr_in (List.mem_append_left _ (List.mem_of_getElem? (i := 101) (by decide +kernel))) rfl)
theorem ly_M_3 : u_lay R_M T_M 3 ∈ fr_ws := (fr_in (List.mem_append_left _ (List.mem_of_getElem? (i := 103) (by decide +kernel))) rfl)
theorem ly_M_4 : u_lay R_M T_M 4 ∈ fr_ws := (fr_in (List.mem_append_left _ (List.mem_of_getElem? (i := 105) (by decide +kernel))) rfl)
theorem ly_M_5 : u_lay R_M T_M 5 ∈ fr_ws := (fr_in (List.mem_append_left _ (List.mem_of_getElem? (i := 107) (by decide +kernel))) rfl)
theorem ly_M_6 : u_lay R_M T_M 6 ∈ fr_ws := (fr_in (List.mem_append_left _ (List.mem_of_getElem? (i := 109) (by decide +kernel))) rfl)
theorem ly_M_7 : u_lay R_M T_M 7 ∈ fr_ws := (fr_in (List.mem_append_left _ (List.mem_of_getElem? (i := 111) (by decide +kernel))) rfl)
theorem cf_M : fr_cf fr_q3 ty_M := by
  refine ⟨?_, tk_M, nm_M⟩
  show ∀ w ∈ [u_lay R_M T_M 0, u_lay R_M T_M 1, u_lay R_M T_M 2, u_lay R_M T_M 3, u_lay R_M T_M 4, u_lay R_M T_M 5, u_lay R_M T_M 6, u_lay R_M T_M 7], w ∈ fr_ws
  exact List.forall_mem_cons.mpr ⟨ly_M_0, List.forall_mem_cons.mpr ⟨ly_M_1, List.forall_mem_cons.mpr ⟨ly_M_2, List.forall_mem_cons.mpr ⟨ly_M_3, List.forall_mem_cons.mpr ⟨ly_M_4, List.forall_mem_cons.mpr ⟨ly_M_5, List.forall_mem_cons.mpr ⟨ly_M_6, List.forall_mem_cons.mpr ⟨ly_M_7, fun _ h => absurd h List.not_mem_nil⟩⟩⟩⟩⟩⟩⟩⟩
theorem ly_B_0 : u_lay R_B T_B 0 ∈ fr_ws := (fr_in (List.mem_append_left _ (List.mem_of_getElem? (i := 137) (by decide +kernel))) rfl)
theorem ly_B_1 : u_lay R_B T_B 1 ∈ fr_ws := (fr_in (List.mem_append_left _ (List.mem_of_getElem? (i := 139) (by decide +kernel))) rfl)
theorem ly_B_2 : u_lay R_B T_B 2 ∈ fr_ws := (fr_in (List.mem_append_left _ (List.mem_of_getElem? (i := 141) (by decide +kernel))) rfl)
theorem ly_B_3 : u_lay R_B T_B 3 ∈ fr_ws := (fr_in (List.mem_append_left _ (List.mem_of_getElem? (i := 143) (by decide +kernel))) rfl)
theorem ly_B_4 : u_lay R_B T_B 4 ∈ fr_ws := (fr_in (List.mem_append_left _ (List.mem_of_getElem? (i := 145) (by decide +kernel))) rfl)
theorem ly_B_5 : u_lay R_B T_B 5 ∈ fr_ws := (fr_in (List.mem_append_left _ (List.mem_of_getElem? (i := 147) (by decide +kernel))) rfl)
theorem ly_B_6 : u_lay R_B T_B 6 ∈ fr_ws := (fr_in (List.mem_append_left _ (List.mem_of_getElem? (i := 149) (by decide +kernel))) rfl)
theorem ly_B_7 : u_lay R_B T_B 7 ∈ fr_ws := (fr_in (List.mem_append_left _ (List.mem_of_getElem? (i := 151) (by decide +kernel))) rfl)
theorem ly_B_8 : u_lay R_B T_B 8 ∈ fr_ws := (fr_in (List.mem_append_left _ (List.mem_of_getElem? (i := 153) (by decide +kernel))) rfl)
theorem ly_B_9 : u_lay R_B T_B 9 ∈ fr_ws := (fr_in (List.mem_append_left _ (List.mem_of_getElem? (i := 155) (by decide +kernel))) rfl)
theorem ly_B_10 : u_lay R_B T_B 10 ∈ fr_ws := (fr_in (List.mem_append_left _ (List.mem_of_getElem? (i := 157) (by decide +kernel))) rfl)
theorem cf_B : fr_cf fr_q4 ty_B := by
  refine ⟨?_, tk_B, nm_B⟩
  show ∀ w ∈ [u_lay R_B T_B 0, u_lay R_B T_B 1, u_lay R_B T_B 2, u_lay R_B T_B 3, u_lay R_B T_B 4, u_lay R_B T_B 5, u_lay R_B T_B 6, u_lay R_B T_B 7, u_lay R_B T_B 8, u_lay R_B T_B 9, u_lay R_B T_B 10], w ∈ fr_ws
  exact List.forall_mem_cons.mpr ⟨ly_B_0, List.forall_mem_cons.mpr ⟨ly_B_1, List.forall_mem_cons.mpr ⟨ly_B_2, List.forall_mem_cons.mpr ⟨ly_B_3, List.forall_mem_cons.mpr ⟨ly_B_4, List.forall_mem_cons.mpr ⟨ly_B_5, List.forall_mem_cons.mpr ⟨ly_B_6, List.forall_mem_cons.mpr ⟨ly_B_7, List.forall_mem_cons.mpr ⟨ly_B_8, List.forall_mem_cons.mpr ⟨ly_B_9, List.forall_mem_cons.mpr ⟨ly_B_10, fun _ h => absurd h List.not_mem_nil⟩⟩⟩⟩⟩⟩⟩⟩⟩⟩⟩
theorem ly_W_0 : u_lay R_W T_W 0 ∈ fr_ws := (fr_in (List.mem_append_left _ (List.mem_of_getElem? (i := 178) (by decide +kernel))) rfl)
theorem ly_W_1 : u_lay R_W T_W 1 ∈ fr_ws := (fr_in (List.mem_append_left _ (List.mem_of_getElem? (i := 180) (by decide +kernel))) rfl)
theorem ly_W_2 : u_lay R_W T_W 2 ∈ fr_ws := (fr_in (List.mem_append_left _ (List.mem_of_getElem? (i := 182) (by decide +kernel))) rfl)
theorem ly_W_3 : u_lay R_W T_W 3 ∈ fr_ws := (fr_in (List.mem_append_left _ (List.mem_of_getElem? (i := 184) (by decide +kernel))) rfl)
theorem ly_W_4 : u_lay R_W T_W 4 ∈ fr_ws := (fr_in (List.mem_append_left _ (List.mem_of_getElem? (i := 186) (by decide +kernel))) rfl)
theorem ly_W_5 : u_lay R_W T_W 5 ∈ fr_ws := (fr_in (List.mem_append_left _ (List.mem_of_getElem? (i := 188) (by decide +kernel))) rfl)
theorem ly_W_6 : u_lay R_W T_W 6 ∈ fr_ws := (fr_in (List.mem_append_left _ (List.mem_of_getElem? (i := 190) (by decide +kernel))) rfl)
theorem ly_W_7 : u_lay R_W T_W 7 ∈ fr_ws := (fr_in (List.mem_append_left _ (List.mem_of_getElem? (i := 192) (by decide +kernel))) rfl)
theorem ly_W_8 : u_lay R_W T_W 8 ∈ fr_ws := (fr_in (List.mem_append_left _ (List.mem_of_getElem? (i := 194) (by decide +kernel))) rfl)
theorem cf_W : fr_cf fr_q5 ty_W := by
  refine ⟨?_, tk_W, nm_W⟩
  show ∀ w ∈ [u_lay R_W T_W 0, u_lay R_W T_W 1, u_lay R_W T_W 2, u_lay R_W T_W 3, u_lay R_W T_W 4, u_lay R_W T_W 5, u_lay R_W T_W 6, u_lay R_W T_W 7, u_lay R_W T_W 8], w ∈ fr_ws
  exact List.forall_mem_cons.mpr ⟨ly_W_0, List.forall_mem_cons.mpr ⟨ly_W_1, List.forall_mem_cons.mpr ⟨ly_W_2, List.forall_mem_cons.mpr ⟨ly_W_3, List.forall_mem_cons.mpr ⟨ly_W_4, List.forall_mem_cons.mpr ⟨ly_W_5, List.forall_mem_cons.mpr ⟨ly_W_6, List.forall_mem_cons.mpr ⟨ly_W_7, List.forall_mem_cons.mpr ⟨ly_W_8, fun _ h => absurd h List.not_mem_nil⟩⟩⟩⟩⟩⟩⟩⟩⟩
theorem ly_O_0 : u_lay R_O T_O 0 ∈ fr_ws := (fr_in (List.mem_append_right _ (List.mem_append_right _ (List.mem_append_left _ (List.mem_of_getElem? (i := 33) (by decide +kernel))))) rfl)
theorem ly_O_1 : u_lay R_O T_O 1 ∈ fr_ws := (fr_in (List.mem_append_right _ (List.mem_append_right _ (List.mem_append_left _ (List.mem_of_getElem? (i := 35) (by decide +kernel))))) rfl)
theorem ly_O_2 : u_lay R_O T_O 2 ∈ fr_ws := (fr_in (List.mem_append_right _ (List.mem_append_right _ (List.mem_append_left _ (List.mem_of_getElem? (i := 37) (by decide +kernel))))) rfl)
theorem ly_O_3 : u_lay R_O T_O 3 ∈ fr_ws := (fr_in (List.mem_append_right _ (List.mem_append_right _ (List.mem_append_left _ (List.mem_of_getElem? (i := 39) (by decide +kernel))))) rfl)
theorem ly_O_4 : u_lay R_O T_O 4 ∈ fr_ws := (fr_in (List.mem_append_right _ (List.mem_append_right _ (List.mem_append_left _ (List.mem_of_getElem? (i := 41) (by decide +kernel))))) rfl)
theorem ly_O_5 : u_lay R_O T_O 5 ∈ fr_ws := (fr_in (List.mem_append_right _ (List.mem_append_right _ (List.mem_append_left _ (List.mem_of_getElem? (i := 43) (by decide +kernel))))) rfl)
theorem ly_O_6 : u_lay R_O T_O 6 ∈ fr_ws := (fr_in (List.mem_append_right _ (List.mem_append_right _ (List.mem_append_left _ (List.mem_of_getElem? (i := 45) (by decide +kernel))))) rfl)
theorem ly_O_7 : u_lay R_O T_O 7 ∈ fr_ws := (fr_in (List.mem_append_right _ (List.mem_append_right _ (List.mem_append_left _ (List.mem_of_getElem? (i := 47) (by decide +kernel))))) rfl)
theorem ly_O_8 : u_lay R_O T_O 8 ∈ fr_ws := (fr_in (List.mem_append_right _ (List.mem_append_right _ (List.mem_append_left _ (List.mem_of_getElem? (i := 49) (by decide +kernel))))) rfl)
theorem ly_O_9 : u_lay R_O T_O 9 ∈ fr_ws := (fr_in (List.mem_append_right _ (List.mem_append_right _ (List.mem_append_left _ (List.mem_of_getElem? (i := 51) (by decide +kernel))))) rfl)
theorem ly_O_10 : u_lay R_O T_O 10 ∈ fr_ws := (fr_in (List.mem_append_right _ (List.mem_append_right _ (List.mem_append_left _ (List.mem_of_getElem? (i := 53) (by decide +kernel))))) rfl)
theorem ly_O_11 : u_lay R_O T_O 11 ∈ fr_ws := (fr_in (List.mem_append_right _ (List.mem_append_right _ (List.mem_append_left _ (List.mem_of_getElem? (i := 55) (by decide +kernel))))) rfl)
theorem ly_O_12 : u_lay R_O T_O 12 ∈ fr_ws := (fr_in (List.mem_append_right _ (List.mem_append_right _ (List.mem_append_left _ (List.mem_of_getElem? (i := 57) (by decide +kernel))))) rfl)
theorem ly_O_13 : u_lay R_O T_O 13 ∈ fr_ws := (fr_in (List.mem_append_right _ (List.mem_append_right _ (List.mem_append_left _ (List.mem_of_getElem? (i := 59) (by decide +kernel))))) rfl)
theorem ly_O_14 : u_lay R_O T_O 14 ∈ fr_ws := (fr_in (List.mem_append_right _ (List.mem_append_right _ (List.mem_append_left _ (List.mem_of_getElem? (i := 61) (by decide +kernel))))) rfl)
theorem ly_O_15 : u_lay R_O T_O 15 ∈ fr_ws := (fr_in (List.mem_append_right _ (List.mem_append_right _ (List.mem_append_left _ (List.mem_of_getElem? (i := 63) (by decide +kernel))))) rfl)
theorem ly_O_16 : u_lay R_O T_O 16 ∈ fr_ws := (fr_in (List.mem_append_right _ (List.mem_append_right _ (List.mem_append_left _ (List.mem_of_getElem? (i := 65) (by decide +kernel))))) rfl)
theorem ly_O_17 : u_lay R_O T_O 17 ∈ fr_ws := (fr_in (List.mem_append_right _ (List.mem_append_right _ (List.mem_append_left _ (List.mem_of_getElem? (i := 67) (by decide +kernel))))) rfl)
theorem ly_O_18 : u_lay R_O T_O 18 ∈ fr_ws := (fr_in (List.mem_append_right _ (List.mem_append_right _ (List.mem_append_left _ (List.mem_of_getElem? (i := 69) (by decide +kernel))))) rfl)
theorem ly_O_19 : u_lay R_O T_O 19 ∈ fr_ws := (fr_in (List.mem_append_right _ (List.mem_append_right _ (List.mem_append_left _ (List.mem_of_getElem? (i := 71) (by decide +kernel))))) rfl)
theorem ly_O_20 : u_lay R_O T_O 20 ∈ fr_ws := (fr_in (List.mem_append_right _ (List.mem_append_right _ (List.mem_append_left _ (List.mem_of_getElem? (i := 73) (by decide +kernel))))) rfl)
theorem ly_O_21 : u_lay R_O T_O 21 ∈ fr_ws := (fr_in (List.mem_append_right _ (List.mem_append_right _ (List.mem_append_left _ (List.mem_of_getElem? (i := 75) (by decide +kernel))))) rfl)
theorem ly_O_22 : u_lay R_O T_O 22 ∈ fr_ws := (fr_in (List.mem_append_right _ (List.mem_append_right _ (List.mem_append_left _ (List.mem_of_getElem? (i := 77) (by decide +kernel))))) rfl)
theorem ly_O_23 : u_lay R_O T_O 23 ∈ fr_ws := (fr_in (List.mem_append_right _ (List.mem_append_right _ (List.mem_append_left _ (List.mem_of_getElem? (i := 79) (by decide +kernel))))) rfl)
theorem ly_O_24 : u_lay R_O T_O 24 ∈ fr_ws := (fr_in (List.mem_append_right _ (List.mem_append_right _ (List.mem_append_left _ (List.mem_of_getElem? (i := 81) (by decide +kernel))))) rfl)
theorem ly_O_25 : u_lay R_O T_O 25 ∈ fr_ws := (fr_in (List.mem_append_right _ (List.mem_append_right _ (List.mem_append_left _ (List.mem_of_getElem? (i := 83) (by decide +kernel))))) rfl)
theorem ly_O_26 : u_lay R_O T_O 26 ∈ fr_ws := (fr_in (List.mem_append_right _ (List.mem_append_right _ (List.mem_append_left _ (List.mem_of_getElem? (i := 85) (by decide +kernel))))) rfl)
theorem ly_O_27 : u_lay R_O T_O 27 ∈ fr_ws := (fr_in (List.mem_append_right _ (List.mem_append_right _ (List.mem_append_left _ (List.mem_of_getElem? (i := 87) (by decide +kernel))))) rfl)
theorem ly_O_28 : u_lay R_O T_O 28 ∈ fr_ws := (fr_in (List.mem_append_right _ (List.mem_append_right _ (List.mem_append_left _ (List.mem_of_getElem? (i := 89) (by decide +kernel))))) rfl)
theorem ly_O_29 : u_lay R_O T_O 29 ∈ fr_ws := (fr_in (List.mem_append_right _ (List.mem_append_right _ (List.mem_append_left _ (List.mem_of_getElem? (i := 91) (by decide +kernel))))) rfl)
theorem ly_O_30 : u_lay R_O T_O 30 ∈ fr_ws := (fr_in (List.mem_append_right _ (List.mem_append_right _ (List.mem_append_left _ (List.mem_of_getElem? (i := 93) (by decide +kernel))))) rfl)
theorem ly_O_31 : u_lay R_O T_O 31 ∈ fr_ws := (fr_in (List.mem_append_right _ (List.mem_append_right _ (List.mem_append_left _ (List.mem_of_getElem? (i := 95) (by decide +kernel))))) rfl)
theorem ly_O_32 : u_lay R_O T_O 32 ∈ fr_ws := (fr_in (List.mem_append_right _ (List.mem_append_right _ (List.mem_append_left _ (List.mem_of_getElem? (i := 97) (by decide +kernel))))) rfl)
theorem ly_O_33 : u_lay R_O T_O 33 ∈ fr_ws := (fr_in (List.mem_append_right _ (List.mem_append_right _ (List.mem_append_left _ (List.mem_of_getElem? (i := 99) (by decide +kernel))))) rfl)
theorem ly_O_34 : u_lay R_O T_O 34 ∈ fr_ws := (fr_in (List.mem_append_right _ (List.mem_append_right _ (List.mem_append_left _ (List.mem_of_getElem? (i := 101) (by decide +kernel))))) rfl)
theorem ly_O_35 : u_lay R_O T_O 35 ∈ fr_ws := (fr_in (List.mem_append_right _ (List.mem_append_right _ (List.mem_append_left _ (List.mem_of_getElem? (i := 103) (by decide +kernel))))) rfl)
theorem ly_O_36 : u_lay R_O T_O 36 ∈ fr_ws := (fr_in (List.mem_append_right _ (List.mem_append_right _ (List.mem_append_left _ (List.mem_of_getElem? (i := 105) (by decide +kernel))))) rfl)
theorem cf_O : fr_cf fr_q6 ty_O := by
  refine ⟨?_, tk_O, nm_O⟩
  show ∀ w ∈ [u_lay R_O T_O 0, u_lay R_O T_O 1, u_lay R_O T_O 2, u_lay R_O T_O 3, u_lay R_O T_O 4, u_lay R_O T_O 5, u_lay R_O T_O 6, u_lay R_O T_O 7, u_lay R_O T_O 8, u_lay R_O T_O 9, u_lay R_O T_O 10, u_lay R_O T_O 11, u_lay R_O T_O 12, u_lay R_O T_O 13, u_lay R_O T_O 14, u_lay R_O T_O 15, u_lay R_O T_O 16, u_lay R_O T_O 17, u_lay R_O T_O 18, u_lay R_O T_O 19, u_lay R_O T_O 20, u_lay R_O T_O 21, u_lay R_O T_O 22, u_lay R_O T_O 23, u_lay R_O T_O 24, u_lay R_O T_O 25, u_lay R_O T_O 26, u_lay R_O T_O 27, u_lay R_O T_O 28, u_lay R_O T_O 29, u_lay R_O T_O 30, u_lay R_O T_O 31, u_lay R_O T_O 32, u_lay R_O T_O 33, u_lay R_O T_O 34, u_lay R_O T_O 35, u_lay R_O T_O 36], w ∈ fr_ws
  exact List.forall_mem_cons.mpr ⟨ly_O_0, List.forall_mem_cons.mpr ⟨ly_O_1, List.forall_mem_cons.mpr ⟨ly_O_2, List.forall_mem_cons.mpr ⟨ly_O_3, List.forall_mem_cons.mpr ⟨ly_O_4, List.forall_mem_cons.mpr ⟨ly_O_5, List.forall_mem_cons.mpr ⟨ly_O_6, List.forall_mem_cons.mpr ⟨ly_O_7, List.forall_mem_cons.mpr ⟨ly_O_8, List.forall_mem_cons.mpr ⟨ly_O_9, List.forall_mem_cons.mpr ⟨ly_O_10, List.forall_mem_cons.mpr ⟨ly_O_11, List.forall_mem_cons.mpr ⟨ly_O_12, List.forall_mem_cons.mpr ⟨ly_O_13, List.forall_mem_cons.mpr ⟨ly_O_14, List.forall_mem_cons.mpr ⟨ly_O_15, List.forall_mem_cons.mpr ⟨ly_O_16, List.forall_mem_cons.mpr ⟨ly_O_17, List.forall_mem_cons.mpr ⟨ly_O_18, List.forall_mem_cons.mpr ⟨ly_O_19, List.forall_mem_cons.mpr ⟨ly_O_20, List.forall_mem_cons.mpr ⟨ly_O_21, List.forall_mem_cons.mpr ⟨ly_O_22, List.forall_mem_cons.mpr ⟨ly_O_23, List.forall_mem_cons.mpr ⟨ly_O_24, List.forall_mem_cons.mpr ⟨ly_O_25, List.forall_mem_cons.mpr ⟨ly_O_26, List.forall_mem_cons.mpr ⟨ly_O_27, List.forall_mem_cons.mpr ⟨ly_O_28, List.forall_mem_cons.mpr ⟨ly_O_29, List.forall_mem_cons.mpr ⟨ly_O_30, List.forall_mem_cons.mpr ⟨ly_O_31, List.forall_mem_cons.mpr ⟨ly_O_32, List.forall_mem_cons.mpr ⟨ly_O_33, List.forall_mem_cons.mpr ⟨ly_O_34, List.forall_mem_cons.mpr ⟨ly_O_35, List.forall_mem_cons.mpr ⟨ly_O_36, fun _ h => absurd h List.not_mem_nil⟩⟩⟩⟩⟩⟩⟩⟩⟩⟩⟩⟩⟩⟩⟩⟩⟩⟩⟩⟩⟩⟩⟩⟩⟩⟩⟩⟩⟩⟩⟩⟩⟩⟩⟩⟩⟩
theorem mw_min1 : Cond.static Lib.Math.min.name ∈ fr_ws := (fr_in (List.mem_append_right _ (List.mem_append_left _ (List.mem_of_getElem? (i := 110) (by decide +kernel)))) rfl)
theorem mw_min2 : Cond.initialized "java/lang/Math" ∈ fr_ws := (fr_in (List.mem_append_left _ (List.mem_of_getElem? (i := 8) (by decide +kernel))) rfl)
theorem mw_min3 : Cond.code Lib.Math.min.name Lib.Math.min.code 2 (some .int) ∈ fr_ws := (fr_in (List.mem_append_right _ (List.mem_append_left _ (List.mem_of_getElem? (i := 111) rfl))) rfl)
theorem mw_oi1 : Cond.instanceMethod objectInit ∈ fr_ws := (fr_in (List.mem_append_left _ (List.mem_of_getElem? (i := 16) (by decide +kernel))) rfl)
theorem mw_oi2 : Cond.code objectInit ⟨#[0xb1]⟩ 1 none ∈ fr_ws := (fr_in (List.mem_append_left _ (List.mem_of_getElem? (i := 17) rfl)) rfl)
theorem mw_aint : Cond.arrayClass .int ∈ fr_ws := (fr_in (List.mem_append_left _ (List.mem_of_getElem? (i := 42) (by decide +kernel))) rfl)
theorem mw_aboolean : Cond.arrayClass .boolean ∈ fr_ws := (fr_in (List.mem_append_left _ (List.mem_of_getElem? (i := 43) (by decide +kernel))) rfl)
theorem mw_along : Cond.arrayClass .long ∈ fr_ws := (fr_in (List.mem_append_right _ (List.mem_append_right _ (List.mem_append_left _ (List.mem_of_getElem? (i := 108) (by decide +kernel))))) rfl)
theorem ml_F_1 : Cond.methodLink R_F 1 objectInit ∈ fr_ws := (fr_in (List.mem_append_left _ (List.mem_of_getElem? (i := 15) (by decide +kernel))) rfl)
theorem na_F_9 : Cond.classLink R_F 9 fr_aC ∈ fr_ws := (fr_in (List.mem_append_left _ (List.mem_of_getElem? (i := 18) (by decide +kernel))) rfl)
theorem fl_F_11 : fr_fl R_F 11 0 0 (.array (.object "FeederRelays$Relay")) true := ⟨fr_q0, ty_F, rfl, cf_F, by decide, (fr_in (List.mem_append_left _ (List.mem_of_getElem? (i := 44) (by decide +kernel))) rfl), rfl, rfl, rfl⟩
theorem fl_F_15 : fr_fl R_F 15 0 1 (.array .int) true := ⟨fr_q0, ty_F, rfl, cf_F, by decide, (fr_in (List.mem_append_left _ (List.mem_of_getElem? (i := 45) (by decide +kernel))) rfl), rfl, rfl, rfl⟩
theorem fl_F_19 : fr_fl R_F 19 0 2 (.array .boolean) true := ⟨fr_q0, ty_F, rfl, cf_F, by decide, (fr_in (List.mem_append_left _ (List.mem_of_getElem? (i := 46) (by decide +kernel))) rfl), rfl, rfl, rfl⟩
theorem wi_0 : Cond.initialized "FeederRelays$Journal" ∈ fr_ws := (fr_in (List.mem_append_left _ (List.mem_of_getElem? (i := 2) (by decide +kernel))) rfl)
theorem nc_F_23 : fr_nc R_F 23 1 fr_q1 ty_J := ⟨(fr_in (List.mem_append_left _ (List.mem_of_getElem? (i := 20) (by decide +kernel))) rfl), (fr_in (List.mem_append_left _ (List.mem_of_getElem? (i := 21) (by decide +kernel))) rfl), wi_0, rfl, cf_J⟩
theorem wc_J_init : Cond.code y_J_init c_J_init 1 none ∈ fr_ws := (fr_in (List.mem_append_left _ (List.mem_of_getElem? (i := 24) rfl)) rfl)
theorem wn_J_init : Cond.instanceMethod y_J_init ∈ fr_ws := (fr_in (List.mem_append_left _ (List.mem_of_getElem? (i := 23) (by decide +kernel))) rfl)
theorem mn_F_25 : fr_mn R_F 25 y_J_init R_F c_J_init 1 0 := ⟨List.mem_of_getElem? (i := 0) rfl, wi_0, wc_J_init, ⟨by decide, by decide, by decide +kernel⟩, wn_J_init, rfl⟩
theorem fl_F_26 : fr_fl R_F 26 0 3 (.object "FeederRelays$Journal") true := ⟨fr_q0, ty_F, rfl, cf_F, by decide, (fr_in (List.mem_append_left _ (List.mem_of_getElem? (i := 47) (by decide +kernel))) rfl), rfl, rfl, rfl⟩
theorem fl_F_30 : fr_fl R_F 30 0 4 .int false := ⟨fr_q0, ty_F, rfl, cf_F, by decide, (fr_in (List.mem_append_left _ (List.mem_of_getElem? (i := 48) (by decide +kernel))) rfl), rfl, rfl, rfl⟩
theorem fl_F_34 : fr_fl R_F 34 0 5 .int false := ⟨fr_q0, ty_F, rfl, cf_F, by decide, (fr_in (List.mem_append_left _ (List.mem_of_getElem? (i := 49) (by decide +kernel))) rfl), rfl, rfl, rfl⟩
theorem wi_1 : Cond.initialized "FeederRelays" ∈ fr_ws := (fr_in (List.mem_append_left _ (List.mem_of_getElem? (i := 1) (by decide +kernel))) rfl)
theorem wc_F_isPlaceFor : Cond.code y_F_isPlaceFor c_F_isPlaceFor 2 (some .boolean) ∈ fr_ws := (fr_in (List.mem_append_left _ (List.mem_of_getElem? (i := 70) rfl)) rfl)
theorem wn_F_isPlaceFor : Cond.instanceMethod y_F_isPlaceFor ∈ fr_ws := (fr_in (List.mem_append_left _ (List.mem_of_getElem? (i := 69) (by decide +kernel))) rfl)
theorem wl_F_isPlaceFor : Cond.selects y_F_isPlaceFor.cls y_F_isPlaceFor y_F_isPlaceFor ∈ fr_ws := fr_inp (y := y_F_isPlaceFor) (n := 6) (List.mem_append_left _ (List.mem_of_getElem? (i := 0) rfl))
theorem mv_F_37 : fr_mv R_F 37 y_F_isPlaceFor c_F_isPlaceFor 2 (some .boolean) 1 := ⟨⟨(fr_in (List.mem_append_left _ (List.mem_of_getElem? (i := 67) (by decide +kernel))) rfl), wi_1, wc_F_isPlaceFor, by decide, by decide, by decide +kernel⟩, wn_F_isPlaceFor, wl_F_isPlaceFor⟩
theorem wi_2 : Cond.initialized "FeederRelays$Relay" ∈ fr_ws := (fr_in (List.mem_append_left _ (List.mem_of_getElem? (i := 4) (by decide +kernel))) rfl)
theorem wc_R_init : Cond.code y_R_init c_R_init 2 none ∈ fr_ws := (fr_in (List.mem_append_left _ (List.mem_of_getElem? (i := 78) rfl)) rfl)
theorem wn_R_init : Cond.instanceMethod y_R_init ∈ fr_ws := (fr_in (List.mem_append_left _ (List.mem_of_getElem? (i := 77) (by decide +kernel))) rfl)
theorem mi_F_41 : fr_mi R_F 41 y_R_init c_R_init 2 1 := ⟨⟨(fr_in (List.mem_append_left _ (List.mem_of_getElem? (i := 76) (by decide +kernel))) rfl), wi_2, wc_R_init, by decide, by decide, by decide +kernel⟩, wn_R_init, rfl⟩
theorem wc_F_isRelay : Cond.code y_F_isRelay c_F_isRelay 2 (some .boolean) ∈ fr_ws := (fr_in (List.mem_append_left _ (List.mem_of_getElem? (i := 74) rfl)) rfl)
theorem wn_F_isRelay : Cond.instanceMethod y_F_isRelay ∈ fr_ws := (fr_in (List.mem_append_left _ (List.mem_of_getElem? (i := 73) (by decide +kernel))) rfl)
theorem wl_F_isRelay : Cond.selects y_F_isRelay.cls y_F_isRelay y_F_isRelay ∈ fr_ws := fr_inp (y := y_F_isRelay) (n := 6) (List.mem_append_left _ (List.mem_of_getElem? (i := 1) rfl))
theorem mv_F_44 : fr_mv R_F 44 y_F_isRelay c_F_isRelay 2 (some .boolean) 1 := ⟨⟨(fr_in (List.mem_append_left _ (List.mem_of_getElem? (i := 71) (by decide +kernel))) rfl), wi_1, wc_F_isRelay, by decide, by decide, by decide +kernel⟩, wn_F_isRelay, wl_F_isRelay⟩
theorem wc_F_isWithin : Cond.code y_F_isWithin c_F_isWithin 3 (some .boolean) ∈ fr_ws := (fr_in (List.mem_append_left _ (List.mem_of_getElem? (i := 236) rfl)) rfl)
theorem ms_F_47 : fr_ms R_F 47 y_F_isWithin c_F_isWithin 3 (some .boolean) 3 := ⟨⟨(fr_in (List.mem_append_left _ (List.mem_of_getElem? (i := 234) (by decide +kernel))) rfl), wi_1, wc_F_isWithin, by decide, by decide, by decide +kernel⟩, (fr_in (List.mem_append_left _ (List.mem_of_getElem? (i := 235) (by decide +kernel))) rfl)⟩
theorem fl_F_51 : fr_fl R_F 51 2 1 (.object "FeederRelays$Meter") true := ⟨fr_q2, ty_R, rfl, cf_R, by decide, (fr_in (List.mem_append_left _ (List.mem_of_getElem? (i := 200) (by decide +kernel))) rfl), rfl, rfl, rfl⟩
theorem wi_3 : Cond.initialized "FeederRelays$Meter" ∈ fr_ws := (fr_in (List.mem_append_left _ (List.mem_of_getElem? (i := 5) (by decide +kernel))) rfl)
theorem wc_M_set : Cond.code y_M_set c_M_set 4 none ∈ fr_ws := (fr_in (List.mem_append_right _ (List.mem_append_left _ (List.mem_of_getElem? (i := 0) rfl))) rfl)
theorem wn_M_set : Cond.instanceMethod y_M_set ∈ fr_ws := (fr_in (List.mem_append_left _ (List.mem_of_getElem? (i := 238) (by decide +kernel))) rfl)
theorem wl_M_set : Cond.selects y_M_set.cls y_M_set y_M_set ∈ fr_ws := (fr_in (List.mem_append_left _ (List.mem_of_getElem? (i := 239) (by decide +kernel))) rfl)
theorem mv_F_55 : fr_mv R_F 55 y_M_set c_M_set 4 none 3 := ⟨⟨(fr_in (List.mem_append_left _ (List.mem_of_getElem? (i := 237) (by decide +kernel))) rfl), wi_3, wc_M_set, by decide, by decide, by decide +kernel⟩, wn_M_set, wl_M_set⟩
theorem fl_F_61 : fr_fl R_F 61 2 4 .boolean false := ⟨fr_q2, ty_R, rfl, cf_R, by decide, (fr_in (List.mem_append_left _ (List.mem_of_getElem? (i := 205) (by decide +kernel))) rfl), rfl, rfl, rfl⟩
theorem fl_F_65 : fr_fl R_F 65 2 5 .int false := ⟨fr_q2, ty_R, rfl, cf_R, by decide, (fr_in (List.mem_append_left _ (List.mem_of_getElem? (i := 206) (by decide +kernel))) rfl), rfl, rfl, rfl⟩
theorem fl_F_68 : fr_fl R_F 68 2 6 .int false := ⟨fr_q2, ty_R, rfl, cf_R, by decide, (fr_in (List.mem_append_left _ (List.mem_of_getElem? (i := 208) (by decide +kernel))) rfl), rfl, rfl, rfl⟩
theorem fl_F_71 : fr_fl R_F 71 2 7 .int false := ⟨fr_q2, ty_R, rfl, cf_R, by decide, (fr_in (List.mem_append_left _ (List.mem_of_getElem? (i := 209) (by decide +kernel))) rfl), rfl, rfl, rfl⟩
theorem fl_F_74 : fr_fl R_F 74 2 8 .int false := ⟨fr_q2, ty_R, rfl, cf_R, by decide, (fr_in (List.mem_append_left _ (List.mem_of_getElem? (i := 210) (by decide +kernel))) rfl), rfl, rfl, rfl⟩
theorem fl_F_77 : fr_fl R_F 77 2 2 (.object "FeederRelays$Breaker") true := ⟨fr_q2, ty_R, rfl, cf_R, by decide, (fr_in (List.mem_append_left _ (List.mem_of_getElem? (i := 202) (by decide +kernel))) rfl), rfl, rfl, rfl⟩
theorem fl_F_81 : fr_fl R_F 81 4 1 .boolean false := ⟨fr_q4, ty_B, rfl, cf_B, by decide, (fr_in (List.mem_append_left _ (List.mem_of_getElem? (i := 123) (by decide +kernel))) rfl), rfl, rfl, rfl⟩
theorem fl_F_86 : fr_fl R_F 86 2 3 (.object "FeederRelays$Wire") true := ⟨fr_q2, ty_R, rfl, cf_R, by decide, (fr_in (List.mem_append_left _ (List.mem_of_getElem? (i := 204) (by decide +kernel))) rfl), rfl, rfl, rfl⟩
theorem fl_F_90 : fr_fl R_F 90 5 3 .int false := ⟨fr_q5, ty_W, rfl, cf_W, by decide, (fr_in (List.mem_append_left _ (List.mem_of_getElem? (i := 170) (by decide +kernel))) rfl), rfl, rfl, rfl⟩
theorem fl_F_95 : fr_fl R_F 95 4 0 .boolean false := ⟨fr_q4, ty_B, rfl, cf_B, by decide, (fr_in (List.mem_append_left _ (List.mem_of_getElem? (i := 121) (by decide +kernel))) rfl), rfl, rfl, rfl⟩
theorem wi_4 : Cond.initialized "FeederRelays$Breaker" ∈ fr_ws := (fr_in (List.mem_append_left _ (List.mem_of_getElem? (i := 6) (by decide +kernel))) rfl)
theorem wc_B_forget : Cond.code y_B_forget c_B_forget 1 none ∈ fr_ws := (fr_in (List.mem_append_right _ (List.mem_append_left _ (List.mem_of_getElem? (i := 28) rfl))) rfl)
theorem wn_B_forget : Cond.instanceMethod y_B_forget ∈ fr_ws := (fr_in (List.mem_append_right _ (List.mem_append_left _ (List.mem_of_getElem? (i := 26) (by decide +kernel)))) rfl)
theorem wl_B_forget : Cond.selects y_B_forget.cls y_B_forget y_B_forget ∈ fr_ws := (fr_in (List.mem_append_right _ (List.mem_append_left _ (List.mem_of_getElem? (i := 27) (by decide +kernel)))) rfl)
theorem mv_F_98 : fr_mv R_F 98 y_B_forget c_B_forget 1 none 0 := ⟨⟨(fr_in (List.mem_append_right _ (List.mem_append_left _ (List.mem_of_getElem? (i := 25) (by decide +kernel)))) rfl), wi_4, wc_B_forget, by decide, by decide, by decide +kernel⟩, wn_B_forget, wl_B_forget⟩
theorem wc_F_tick : Cond.code y_F_tick c_F_tick 2 none ∈ fr_ws := (fr_in (List.mem_append_right _ (List.mem_append_left _ (List.mem_of_getElem? (i := 36) rfl))) rfl)
theorem wn_F_tick : Cond.instanceMethod y_F_tick ∈ fr_ws := (fr_in (List.mem_append_right _ (List.mem_append_left _ (List.mem_of_getElem? (i := 35) (by decide +kernel)))) rfl)
theorem wl_F_tick : Cond.selects y_F_tick.cls y_F_tick y_F_tick ∈ fr_ws := fr_inp (y := y_F_tick) (n := 6) (List.mem_append_left _ (List.mem_of_getElem? (i := 2) rfl))
theorem mv_F_101 : fr_mv R_F 101 y_F_tick c_F_tick 2 none 0 := ⟨⟨(fr_in (List.mem_append_right _ (List.mem_append_left _ (List.mem_of_getElem? (i := 33) (by decide +kernel)))) rfl), wi_1, wc_F_tick, by decide, by decide, by decide +kernel⟩, wn_F_tick, wl_F_tick⟩
theorem wc_M_forget : Cond.code y_M_forget c_M_forget 1 none ∈ fr_ws := (fr_in (List.mem_append_right _ (List.mem_append_left _ (List.mem_of_getElem? (i := 164) rfl))) rfl)
theorem wn_M_forget : Cond.instanceMethod y_M_forget ∈ fr_ws := (fr_in (List.mem_append_right _ (List.mem_append_left _ (List.mem_of_getElem? (i := 162) (by decide +kernel)))) rfl)
theorem wl_M_forget : Cond.selects y_M_forget.cls y_M_forget y_M_forget ∈ fr_ws := (fr_in (List.mem_append_right _ (List.mem_append_left _ (List.mem_of_getElem? (i := 163) (by decide +kernel)))) rfl)
theorem mv_F_104 : fr_mv R_F 104 y_M_forget c_M_forget 1 none 0 := ⟨⟨(fr_in (List.mem_append_right _ (List.mem_append_left _ (List.mem_of_getElem? (i := 161) (by decide +kernel)))) rfl), wi_3, wc_M_forget, by decide, by decide, by decide +kernel⟩, wn_M_forget, wl_M_forget⟩
theorem wi_5 : Cond.initialized "FeederRelays$Wire" ∈ fr_ws := (fr_in (List.mem_append_left _ (List.mem_of_getElem? (i := 7) (by decide +kernel))) rfl)
theorem wc_W_forget : Cond.code y_W_forget c_W_forget 1 none ∈ fr_ws := (fr_in (List.mem_append_right _ (List.mem_append_left _ (List.mem_of_getElem? (i := 171) rfl))) rfl)
theorem wn_W_forget : Cond.instanceMethod y_W_forget ∈ fr_ws := (fr_in (List.mem_append_right _ (List.mem_append_left _ (List.mem_of_getElem? (i := 169) (by decide +kernel)))) rfl)
theorem wl_W_forget : Cond.selects y_W_forget.cls y_W_forget y_W_forget ∈ fr_ws := (fr_in (List.mem_append_right _ (List.mem_append_left _ (List.mem_of_getElem? (i := 170) (by decide +kernel)))) rfl)
theorem mv_F_105 : fr_mv R_F 105 y_W_forget c_W_forget 1 none 0 := ⟨⟨(fr_in (List.mem_append_right _ (List.mem_append_left _ (List.mem_of_getElem? (i := 168) (by decide +kernel)))) rfl), wi_5, wc_W_forget, by decide, by decide, by decide +kernel⟩, wn_W_forget, wl_W_forget⟩
theorem wc_J_dropUnstored : Cond.code y_J_dropUnstored c_J_dropUnstored 2 (some .int) ∈ fr_ws := (fr_in (List.mem_append_right _ (List.mem_append_left _ (List.mem_of_getElem? (i := 176) rfl))) rfl)
theorem wn_J_dropUnstored : Cond.instanceMethod y_J_dropUnstored ∈ fr_ws := (fr_in (List.mem_append_right _ (List.mem_append_left _ (List.mem_of_getElem? (i := 174) (by decide +kernel)))) rfl)
theorem wl_J_dropUnstored : Cond.selects y_J_dropUnstored.cls y_J_dropUnstored y_J_dropUnstored ∈ fr_ws := (fr_in (List.mem_append_right _ (List.mem_append_left _ (List.mem_of_getElem? (i := 175) (by decide +kernel)))) rfl)
theorem mv_F_106 : fr_mv R_F 106 y_J_dropUnstored c_J_dropUnstored 2 (some .int) 0 := ⟨⟨(fr_in (List.mem_append_right _ (List.mem_append_left _ (List.mem_of_getElem? (i := 173) (by decide +kernel)))) rfl), wi_0, wc_J_dropUnstored, by decide, by decide, by decide +kernel⟩, wn_J_dropUnstored, wl_J_dropUnstored⟩
theorem wc_F_findFlows : Cond.code y_F_findFlows c_F_findFlows 3 none ∈ fr_ws := (fr_in (List.mem_append_right _ (List.mem_append_left _ (List.mem_of_getElem? (i := 90) rfl))) rfl)
theorem wn_F_findFlows : Cond.instanceMethod y_F_findFlows ∈ fr_ws := (fr_in (List.mem_append_right _ (List.mem_append_left _ (List.mem_of_getElem? (i := 89) (by decide +kernel)))) rfl)
theorem wl_F_findFlows : Cond.selects y_F_findFlows.cls y_F_findFlows y_F_findFlows ∈ fr_ws := fr_inp (y := y_F_findFlows) (n := 6) (List.mem_append_left _ (List.mem_of_getElem? (i := 6) rfl))
theorem mv_F_110 : fr_mv R_F 110 y_F_findFlows c_F_findFlows 3 none 0 := ⟨⟨(fr_in (List.mem_append_right _ (List.mem_append_left _ (List.mem_of_getElem? (i := 87) (by decide +kernel)))) rfl), wi_1, wc_F_findFlows, by decide, by decide, by decide +kernel⟩, wn_F_findFlows, wl_F_findFlows⟩
theorem wc_B_bits : Cond.code y_B_bits c_B_bits 2 (some .int) ∈ fr_ws := (fr_in (List.mem_append_right _ (List.mem_append_left _ (List.mem_of_getElem? (i := 192) rfl))) rfl)
theorem wn_B_bits : Cond.instanceMethod y_B_bits ∈ fr_ws := (fr_in (List.mem_append_right _ (List.mem_append_left _ (List.mem_of_getElem? (i := 190) (by decide +kernel)))) rfl)
theorem wl_B_bits : Cond.selects y_B_bits.cls y_B_bits y_B_bits ∈ fr_ws := (fr_in (List.mem_append_right _ (List.mem_append_left _ (List.mem_of_getElem? (i := 191) (by decide +kernel)))) rfl)
theorem mv_F_113 : fr_mv R_F 113 y_B_bits c_B_bits 2 (some .int) 0 := ⟨⟨(fr_in (List.mem_append_right _ (List.mem_append_left _ (List.mem_of_getElem? (i := 189) (by decide +kernel)))) rfl), wi_4, wc_B_bits, by decide, by decide, by decide +kernel⟩, wn_B_bits, wl_B_bits⟩
theorem fl_F_116 : fr_fl R_F 116 3 6 .boolean false := ⟨fr_q3, ty_M, rfl, cf_M, by decide, (fr_in (List.mem_append_left _ (List.mem_of_getElem? (i := 94) (by decide +kernel))) rfl), rfl, rfl, rfl⟩
theorem wc_F_isBlocked : Cond.code y_F_isBlocked c_F_isBlocked 3 (some .boolean) ∈ fr_ws := (fr_in (List.mem_append_right _ (List.mem_append_left _ (List.mem_of_getElem? (i := 135) rfl))) rfl)
theorem wn_F_isBlocked : Cond.instanceMethod y_F_isBlocked ∈ fr_ws := (fr_in (List.mem_append_right _ (List.mem_append_left _ (List.mem_of_getElem? (i := 134) (by decide +kernel)))) rfl)
theorem wl_F_isBlocked : Cond.selects y_F_isBlocked.cls y_F_isBlocked y_F_isBlocked ∈ fr_ws := fr_inp (y := y_F_isBlocked) (n := 6) (List.mem_append_left _ (List.mem_of_getElem? (i := 12) rfl))
theorem mv_F_119 : fr_mv R_F 119 y_F_isBlocked c_F_isBlocked 3 (some .boolean) 1 := ⟨⟨(fr_in (List.mem_append_right _ (List.mem_append_left _ (List.mem_of_getElem? (i := 132) (by decide +kernel)))) rfl), wi_1, wc_F_isBlocked, by decide, by decide, by decide +kernel⟩, wn_F_isBlocked, wl_F_isBlocked⟩
theorem fl_F_122 : fr_fl R_F 122 3 7 .long false := ⟨fr_q3, ty_M, rfl, cf_M, by decide, (fr_in (List.mem_append_left _ (List.mem_of_getElem? (i := 96) (by decide +kernel))) rfl), rfl, rfl, rfl⟩
theorem lc_F_126 : Cond.constantLong R_F 126 (-1) ∈ fr_ws := (fr_in (List.mem_append_right _ (List.mem_append_left _ (List.mem_of_getElem? (i := 197) (by decide +kernel)))) rfl)
theorem fl_F_128 : fr_fl R_F 128 4 5 .int false := ⟨fr_q4, ty_B, rfl, cf_B, by decide, (fr_in (List.mem_append_left _ (List.mem_of_getElem? (i := 131) (by decide +kernel))) rfl), rfl, rfl, rfl⟩
theorem fl_F_131 : fr_fl R_F 131 5 4 .int false := ⟨fr_q5, ty_W, rfl, cf_W, by decide, (fr_in (List.mem_append_left _ (List.mem_of_getElem? (i := 172) (by decide +kernel))) rfl), rfl, rfl, rfl⟩
theorem fl_F_134 : fr_fl R_F 134 2 0 .int true := ⟨fr_q2, ty_R, rfl, cf_R, by decide, (fr_in (List.mem_append_left _ (List.mem_of_getElem? (i := 198) (by decide +kernel))) rfl), rfl, rfl, rfl⟩
theorem fl_F_137 : fr_fl R_F 137 5 5 .int false := ⟨fr_q5, ty_W, rfl, cf_W, by decide, (fr_in (List.mem_append_left _ (List.mem_of_getElem? (i := 174) (by decide +kernel))) rfl), rfl, rfl, rfl⟩
theorem fl_F_140 : fr_fl R_F 140 3 5 .int false := ⟨fr_q3, ty_M, rfl, cf_M, by decide, (fr_in (List.mem_append_left _ (List.mem_of_getElem? (i := 92) (by decide +kernel))) rfl), rfl, rfl, rfl⟩
theorem fl_F_143 : fr_fl R_F 143 1 2 .int false := ⟨fr_q1, ty_J, rfl, cf_J, by decide, (fr_in (List.mem_append_left _ (List.mem_of_getElem? (i := 31) (by decide +kernel))) rfl), rfl, rfl, rfl⟩
theorem wc_J_has : Cond.code y_J_has c_J_has 2 (some .boolean) ∈ fr_ws := (fr_in (List.mem_append_right _ (List.mem_append_left _ (List.mem_of_getElem? (i := 225) rfl))) rfl)
theorem wn_J_has : Cond.instanceMethod y_J_has ∈ fr_ws := (fr_in (List.mem_append_right _ (List.mem_append_left _ (List.mem_of_getElem? (i := 223) (by decide +kernel)))) rfl)
theorem wl_J_has : Cond.selects y_J_has.cls y_J_has y_J_has ∈ fr_ws := (fr_in (List.mem_append_right _ (List.mem_append_left _ (List.mem_of_getElem? (i := 224) (by decide +kernel)))) rfl)
theorem mv_F_146 : fr_mv R_F 146 y_J_has c_J_has 2 (some .boolean) 1 := ⟨⟨(fr_in (List.mem_append_right _ (List.mem_append_left _ (List.mem_of_getElem? (i := 222) (by decide +kernel)))) rfl), wi_0, wc_J_has, by decide, by decide, by decide +kernel⟩, wn_J_has, wl_J_has⟩
theorem fl_F_149 : fr_fl R_F 149 1 0 (.array .int) true := ⟨fr_q1, ty_J, rfl, cf_J, by decide, (fr_in (List.mem_append_left _ (List.mem_of_getElem? (i := 27) (by decide +kernel))) rfl), rfl, rfl, rfl⟩
theorem fl_F_152 : fr_fl R_F 152 1 1 (.array .int) true := ⟨fr_q1, ty_J, rfl, cf_J, by decide, (fr_in (List.mem_append_left _ (List.mem_of_getElem? (i := 29) (by decide +kernel))) rfl), rfl, rfl, rfl⟩
theorem wc_W_deliver : Cond.code y_W_deliver c_W_deliver 4 none ∈ fr_ws := (fr_in (List.mem_append_right _ (List.mem_append_left _ (List.mem_of_getElem? (i := 40) rfl))) rfl)
theorem wn_W_deliver : Cond.instanceMethod y_W_deliver ∈ fr_ws := (fr_in (List.mem_append_right _ (List.mem_append_left _ (List.mem_of_getElem? (i := 38) (by decide +kernel)))) rfl)
theorem wl_W_deliver : Cond.selects y_W_deliver.cls y_W_deliver y_W_deliver ∈ fr_ws := (fr_in (List.mem_append_right _ (List.mem_append_left _ (List.mem_of_getElem? (i := 39) (by decide +kernel)))) rfl)
theorem mv_F_155 : fr_mv R_F 155 y_W_deliver c_W_deliver 4 none 1 := ⟨⟨(fr_in (List.mem_append_right _ (List.mem_append_left _ (List.mem_of_getElem? (i := 37) (by decide +kernel)))) rfl), wi_5, wc_W_deliver, by decide, by decide, by decide +kernel⟩, wn_W_deliver, wl_W_deliver⟩
theorem wc_F_moveBreaker : Cond.code y_F_moveBreaker c_F_moveBreaker 4 none ∈ fr_ws := (fr_in (List.mem_append_right _ (List.mem_append_left _ (List.mem_of_getElem? (i := 51) rfl))) rfl)
theorem wn_F_moveBreaker : Cond.instanceMethod y_F_moveBreaker ∈ fr_ws := (fr_in (List.mem_append_right _ (List.mem_append_left _ (List.mem_of_getElem? (i := 50) (by decide +kernel)))) rfl)
theorem wl_F_moveBreaker : Cond.selects y_F_moveBreaker.cls y_F_moveBreaker y_F_moveBreaker ∈ fr_ws := fr_inp (y := y_F_moveBreaker) (n := 6) (List.mem_append_left _ (List.mem_of_getElem? (i := 4) rfl))
theorem mv_F_158 : fr_mv R_F 158 y_F_moveBreaker c_F_moveBreaker 4 none 1 := ⟨⟨(fr_in (List.mem_append_right _ (List.mem_append_left _ (List.mem_of_getElem? (i := 48) (by decide +kernel)))) rfl), wi_1, wc_F_moveBreaker, by decide, by decide, by decide +kernel⟩, wn_F_moveBreaker, wl_F_moveBreaker⟩
theorem wc_F_measureAll : Cond.code y_F_measureAll c_F_measureAll 4 none ∈ fr_ws := (fr_in (List.mem_append_right _ (List.mem_append_left _ (List.mem_of_getElem? (i := 86) rfl))) rfl)
theorem wn_F_measureAll : Cond.instanceMethod y_F_measureAll ∈ fr_ws := (fr_in (List.mem_append_right _ (List.mem_append_left _ (List.mem_of_getElem? (i := 85) (by decide +kernel)))) rfl)
theorem wl_F_measureAll : Cond.selects y_F_measureAll.cls y_F_measureAll y_F_measureAll ∈ fr_ws := fr_inp (y := y_F_measureAll) (n := 6) (List.mem_append_left _ (List.mem_of_getElem? (i := 5) rfl))
theorem mv_F_161 : fr_mv R_F 161 y_F_measureAll c_F_measureAll 4 none 0 := ⟨⟨(fr_in (List.mem_append_right _ (List.mem_append_left _ (List.mem_of_getElem? (i := 83) (by decide +kernel)))) rfl), wi_1, wc_F_measureAll, by decide, by decide, by decide +kernel⟩, wn_F_measureAll, wl_F_measureAll⟩
theorem wc_F_tripIfDue : Cond.code y_F_tripIfDue c_F_tripIfDue 3 none ∈ fr_ws := (fr_in (List.mem_append_right _ (List.mem_append_left _ (List.mem_of_getElem? (i := 119) rfl))) rfl)
theorem wn_F_tripIfDue : Cond.instanceMethod y_F_tripIfDue ∈ fr_ws := (fr_in (List.mem_append_right _ (List.mem_append_left _ (List.mem_of_getElem? (i := 118) (by decide +kernel)))) rfl)
theorem wl_F_tripIfDue : Cond.selects y_F_tripIfDue.cls y_F_tripIfDue y_F_tripIfDue ∈ fr_ws := fr_inp (y := y_F_tripIfDue) (n := 6) (List.mem_append_left _ (List.mem_of_getElem? (i := 10) rfl))
theorem mv_F_164 : fr_mv R_F 164 y_F_tripIfDue c_F_tripIfDue 3 none 1 := ⟨⟨(fr_in (List.mem_append_right _ (List.mem_append_left _ (List.mem_of_getElem? (i := 116) (by decide +kernel)))) rfl), wi_1, wc_F_tripIfDue, by decide, by decide, by decide +kernel⟩, wn_F_tripIfDue, wl_F_tripIfDue⟩
theorem wc_F_failIfDue : Cond.code y_F_failIfDue c_F_failIfDue 4 none ∈ fr_ws := (fr_in (List.mem_append_right _ (List.mem_append_left _ (List.mem_of_getElem? (i := 147) rfl))) rfl)
theorem wn_F_failIfDue : Cond.instanceMethod y_F_failIfDue ∈ fr_ws := (fr_in (List.mem_append_right _ (List.mem_append_left _ (List.mem_of_getElem? (i := 146) (by decide +kernel)))) rfl)
theorem wl_F_failIfDue : Cond.selects y_F_failIfDue.cls y_F_failIfDue y_F_failIfDue ∈ fr_ws := fr_inp (y := y_F_failIfDue) (n := 6) (List.mem_append_left _ (List.mem_of_getElem? (i := 13) rfl))
theorem mv_F_167 : fr_mv R_F 167 y_F_failIfDue c_F_failIfDue 4 none 1 := ⟨⟨(fr_in (List.mem_append_right _ (List.mem_append_left _ (List.mem_of_getElem? (i := 144) (by decide +kernel)))) rfl), wi_1, wc_F_failIfDue, by decide, by decide, by decide +kernel⟩, wn_F_failIfDue, wl_F_failIfDue⟩
theorem wc_J_store : Cond.code y_J_store c_J_store 1 none ∈ fr_ws := (fr_in (List.mem_append_right _ (List.mem_append_left _ (List.mem_of_getElem? (i := 155) rfl))) rfl)
theorem wn_J_store : Cond.instanceMethod y_J_store ∈ fr_ws := (fr_in (List.mem_append_right _ (List.mem_append_left _ (List.mem_of_getElem? (i := 153) (by decide +kernel)))) rfl)
theorem wl_J_store : Cond.selects y_J_store.cls y_J_store y_J_store ∈ fr_ws := (fr_in (List.mem_append_right _ (List.mem_append_left _ (List.mem_of_getElem? (i := 154) (by decide +kernel)))) rfl)
theorem mv_F_170 : fr_mv R_F 170 y_J_store c_J_store 1 none 0 := ⟨⟨(fr_in (List.mem_append_right _ (List.mem_append_left _ (List.mem_of_getElem? (i := 152) (by decide +kernel)))) rfl), wi_0, wc_J_store, by decide, by decide, by decide +kernel⟩, wn_J_store, wl_J_store⟩
theorem wc_B_mustOpen : Cond.code y_B_mustOpen c_B_mustOpen 2 (some .boolean) ∈ fr_ws := (fr_in (List.mem_append_right _ (List.mem_append_left _ (List.mem_of_getElem? (i := 55) rfl))) rfl)
theorem wn_B_mustOpen : Cond.instanceMethod y_B_mustOpen ∈ fr_ws := (fr_in (List.mem_append_right _ (List.mem_append_left _ (List.mem_of_getElem? (i := 53) (by decide +kernel)))) rfl)
theorem wl_B_mustOpen : Cond.selects y_B_mustOpen.cls y_B_mustOpen y_B_mustOpen ∈ fr_ws := (fr_in (List.mem_append_right _ (List.mem_append_left _ (List.mem_of_getElem? (i := 54) (by decide +kernel)))) rfl)
theorem mv_F_173 : fr_mv R_F 173 y_B_mustOpen c_B_mustOpen 2 (some .boolean) 1 := ⟨⟨(fr_in (List.mem_append_right _ (List.mem_append_left _ (List.mem_of_getElem? (i := 52) (by decide +kernel)))) rfl), wi_4, wc_B_mustOpen, by decide, by decide, by decide +kernel⟩, wn_B_mustOpen, wl_B_mustOpen⟩
theorem fl_F_176 : fr_fl R_F 176 4 4 .boolean false := ⟨fr_q4, ty_B, rfl, cf_B, by decide, (fr_in (List.mem_append_left _ (List.mem_of_getElem? (i := 129) (by decide +kernel))) rfl), rfl, rfl, rfl⟩
theorem wc_B_open : Cond.code y_B_open c_B_open 1 none ∈ fr_ws := (fr_in (List.mem_append_right _ (List.mem_append_left _ (List.mem_of_getElem? (i := 59) rfl))) rfl)
theorem wn_B_open : Cond.instanceMethod y_B_open ∈ fr_ws := (fr_in (List.mem_append_right _ (List.mem_append_left _ (List.mem_of_getElem? (i := 57) (by decide +kernel)))) rfl)
theorem wl_B_open : Cond.selects y_B_open.cls y_B_open y_B_open ∈ fr_ws := (fr_in (List.mem_append_right _ (List.mem_append_left _ (List.mem_of_getElem? (i := 58) (by decide +kernel)))) rfl)
theorem mv_F_179 : fr_mv R_F 179 y_B_open c_B_open 1 none 0 := ⟨⟨(fr_in (List.mem_append_right _ (List.mem_append_left _ (List.mem_of_getElem? (i := 56) (by decide +kernel)))) rfl), wi_4, wc_B_open, by decide, by decide, by decide +kernel⟩, wn_B_open, wl_B_open⟩
theorem wc_J_add : Cond.code y_J_add c_J_add 4 none ∈ fr_ws := (fr_in (List.mem_append_right _ (List.mem_append_left _ (List.mem_of_getElem? (i := 63) rfl))) rfl)
theorem wn_J_add : Cond.instanceMethod y_J_add ∈ fr_ws := (fr_in (List.mem_append_right _ (List.mem_append_left _ (List.mem_of_getElem? (i := 61) (by decide +kernel)))) rfl)
theorem wl_J_add : Cond.selects y_J_add.cls y_J_add y_J_add ∈ fr_ws := (fr_in (List.mem_append_right _ (List.mem_append_left _ (List.mem_of_getElem? (i := 62) (by decide +kernel)))) rfl)
theorem mv_F_182 : fr_mv R_F 182 y_J_add c_J_add 4 none 3 := ⟨⟨(fr_in (List.mem_append_right _ (List.mem_append_left _ (List.mem_of_getElem? (i := 60) (by decide +kernel)))) rfl), wi_0, wc_J_add, by decide, by decide, by decide +kernel⟩, wn_J_add, wl_J_add⟩
theorem wc_B_awaitClosing : Cond.code y_B_awaitClosing c_B_awaitClosing 2 none ∈ fr_ws := (fr_in (List.mem_append_right _ (List.mem_append_left _ (List.mem_of_getElem? (i := 67) rfl))) rfl)
theorem wn_B_awaitClosing : Cond.instanceMethod y_B_awaitClosing ∈ fr_ws := (fr_in (List.mem_append_right _ (List.mem_append_left _ (List.mem_of_getElem? (i := 65) (by decide +kernel)))) rfl)
theorem wl_B_awaitClosing : Cond.selects y_B_awaitClosing.cls y_B_awaitClosing y_B_awaitClosing ∈ fr_ws := (fr_in (List.mem_append_right _ (List.mem_append_left _ (List.mem_of_getElem? (i := 66) (by decide +kernel)))) rfl)
theorem mv_F_185 : fr_mv R_F 185 y_B_awaitClosing c_B_awaitClosing 2 none 1 := ⟨⟨(fr_in (List.mem_append_right _ (List.mem_append_left _ (List.mem_of_getElem? (i := 64) (by decide +kernel)))) rfl), wi_4, wc_B_awaitClosing, by decide, by decide, by decide +kernel⟩, wn_B_awaitClosing, wl_B_awaitClosing⟩
theorem fl_F_188 : fr_fl R_F 188 4 2 .boolean false := ⟨fr_q4, ty_B, rfl, cf_B, by decide, (fr_in (List.mem_append_left _ (List.mem_of_getElem? (i := 125) (by decide +kernel))) rfl), rfl, rfl, rfl⟩
theorem wc_B_mustClose : Cond.code y_B_mustClose c_B_mustClose 2 (some .boolean) ∈ fr_ws := (fr_in (List.mem_append_right _ (List.mem_append_left _ (List.mem_of_getElem? (i := 74) rfl))) rfl)
theorem wn_B_mustClose : Cond.instanceMethod y_B_mustClose ∈ fr_ws := (fr_in (List.mem_append_right _ (List.mem_append_left _ (List.mem_of_getElem? (i := 72) (by decide +kernel)))) rfl)
theorem wl_B_mustClose : Cond.selects y_B_mustClose.cls y_B_mustClose y_B_mustClose ∈ fr_ws := (fr_in (List.mem_append_right _ (List.mem_append_left _ (List.mem_of_getElem? (i := 73) (by decide +kernel)))) rfl)
theorem mv_F_191 : fr_mv R_F 191 y_B_mustClose c_B_mustClose 2 (some .boolean) 1 := ⟨⟨(fr_in (List.mem_append_right _ (List.mem_append_left _ (List.mem_of_getElem? (i := 71) (by decide +kernel)))) rfl), wi_4, wc_B_mustClose, by decide, by decide, by decide +kernel⟩, wn_B_mustClose, wl_B_mustClose⟩
theorem wc_B_closeAgain : Cond.code y_B_closeAgain c_B_closeAgain 2 none ∈ fr_ws := (fr_in (List.mem_append_right _ (List.mem_append_left _ (List.mem_of_getElem? (i := 78) rfl))) rfl)
theorem wn_B_closeAgain : Cond.instanceMethod y_B_closeAgain ∈ fr_ws := (fr_in (List.mem_append_right _ (List.mem_append_left _ (List.mem_of_getElem? (i := 76) (by decide +kernel)))) rfl)
theorem wl_B_closeAgain : Cond.selects y_B_closeAgain.cls y_B_closeAgain y_B_closeAgain ∈ fr_ws := (fr_in (List.mem_append_right _ (List.mem_append_left _ (List.mem_of_getElem? (i := 77) (by decide +kernel)))) rfl)
theorem mv_F_194 : fr_mv R_F 194 y_B_closeAgain c_B_closeAgain 2 none 1 := ⟨⟨(fr_in (List.mem_append_right _ (List.mem_append_left _ (List.mem_of_getElem? (i := 75) (by decide +kernel)))) rfl), wi_4, wc_B_closeAgain, by decide, by decide, by decide +kernel⟩, wn_B_closeAgain, wl_B_closeAgain⟩
theorem wc_B_mustReclaim : Cond.code y_B_mustReclaim c_B_mustReclaim 2 (some .boolean) ∈ fr_ws := (fr_in (List.mem_append_right _ (List.mem_append_left _ (List.mem_of_getElem? (i := 82) rfl))) rfl)
theorem wn_B_mustReclaim : Cond.instanceMethod y_B_mustReclaim ∈ fr_ws := (fr_in (List.mem_append_right _ (List.mem_append_left _ (List.mem_of_getElem? (i := 80) (by decide +kernel)))) rfl)
theorem wl_B_mustReclaim : Cond.selects y_B_mustReclaim.cls y_B_mustReclaim y_B_mustReclaim ∈ fr_ws := (fr_in (List.mem_append_right _ (List.mem_append_left _ (List.mem_of_getElem? (i := 81) (by decide +kernel)))) rfl)
theorem mv_F_197 : fr_mv R_F 197 y_B_mustReclaim c_B_mustReclaim 2 (some .boolean) 1 := ⟨⟨(fr_in (List.mem_append_right _ (List.mem_append_left _ (List.mem_of_getElem? (i := 79) (by decide +kernel)))) rfl), wi_4, wc_B_mustReclaim, by decide, by decide, by decide +kernel⟩, wn_B_mustReclaim, wl_B_mustReclaim⟩
theorem wc_M_measure : Cond.code y_M_measure c_M_measure 2 none ∈ fr_ws := (fr_in (List.mem_append_right _ (List.mem_append_left _ (List.mem_of_getElem? (i := 94) rfl))) rfl)
theorem wn_M_measure : Cond.instanceMethod y_M_measure ∈ fr_ws := (fr_in (List.mem_append_right _ (List.mem_append_left _ (List.mem_of_getElem? (i := 92) (by decide +kernel)))) rfl)
theorem wl_M_measure : Cond.selects y_M_measure.cls y_M_measure y_M_measure ∈ fr_ws := (fr_in (List.mem_append_right _ (List.mem_append_left _ (List.mem_of_getElem? (i := 93) (by decide +kernel)))) rfl)
theorem mv_F_200 : fr_mv R_F 200 y_M_measure c_M_measure 2 none 1 := ⟨⟨(fr_in (List.mem_append_right _ (List.mem_append_left _ (List.mem_of_getElem? (i := 91) (by decide +kernel)))) rfl), wi_3, wc_M_measure, by decide, by decide, by decide +kernel⟩, wn_M_measure, wl_M_measure⟩
theorem wc_W_report : Cond.code y_W_report c_W_report 4 none ∈ fr_ws := (fr_in (List.mem_append_right _ (List.mem_append_left _ (List.mem_of_getElem? (i := 108) rfl))) rfl)
theorem wn_W_report : Cond.instanceMethod y_W_report ∈ fr_ws := (fr_in (List.mem_append_right _ (List.mem_append_left _ (List.mem_of_getElem? (i := 106) (by decide +kernel)))) rfl)
theorem wl_W_report : Cond.selects y_W_report.cls y_W_report y_W_report ∈ fr_ws := (fr_in (List.mem_append_right _ (List.mem_append_left _ (List.mem_of_getElem? (i := 107) (by decide +kernel)))) rfl)
theorem mv_F_203 : fr_mv R_F 203 y_W_report c_W_report 4 none 3 := ⟨⟨(fr_in (List.mem_append_right _ (List.mem_append_left _ (List.mem_of_getElem? (i := 105) (by decide +kernel)))) rfl), wi_5, wc_W_report, by decide, by decide, by decide +kernel⟩, wn_W_report, wl_W_report⟩
theorem wc_M_isOverLimit : Cond.code y_M_isOverLimit c_M_isOverLimit 1 (some .boolean) ∈ fr_ws := (fr_in (List.mem_append_right _ (List.mem_append_left _ (List.mem_of_getElem? (i := 123) rfl))) rfl)
theorem wn_M_isOverLimit : Cond.instanceMethod y_M_isOverLimit ∈ fr_ws := (fr_in (List.mem_append_right _ (List.mem_append_left _ (List.mem_of_getElem? (i := 121) (by decide +kernel)))) rfl)
theorem wl_M_isOverLimit : Cond.selects y_M_isOverLimit.cls y_M_isOverLimit y_M_isOverLimit ∈ fr_ws := (fr_in (List.mem_append_right _ (List.mem_append_left _ (List.mem_of_getElem? (i := 122) (by decide +kernel)))) rfl)
theorem mv_F_207 : fr_mv R_F 207 y_M_isOverLimit c_M_isOverLimit 1 (some .boolean) 0 := ⟨⟨(fr_in (List.mem_append_right _ (List.mem_append_left _ (List.mem_of_getElem? (i := 120) (by decide +kernel)))) rfl), wi_3, wc_M_isOverLimit, by decide, by decide, by decide +kernel⟩, wn_M_isOverLimit, wl_M_isOverLimit⟩
theorem wc_B_takesOrder : Cond.code y_B_takesOrder c_B_takesOrder 1 (some .boolean) ∈ fr_ws := (fr_in (List.mem_append_right _ (List.mem_append_left _ (List.mem_of_getElem? (i := 131) rfl))) rfl)
theorem wn_B_takesOrder : Cond.instanceMethod y_B_takesOrder ∈ fr_ws := (fr_in (List.mem_append_right _ (List.mem_append_left _ (List.mem_of_getElem? (i := 129) (by decide +kernel)))) rfl)
theorem wl_B_takesOrder : Cond.selects y_B_takesOrder.cls y_B_takesOrder y_B_takesOrder ∈ fr_ws := (fr_in (List.mem_append_right _ (List.mem_append_left _ (List.mem_of_getElem? (i := 130) (by decide +kernel)))) rfl)
theorem mv_F_211 : fr_mv R_F 211 y_B_takesOrder c_B_takesOrder 1 (some .boolean) 0 := ⟨⟨(fr_in (List.mem_append_right _ (List.mem_append_left _ (List.mem_of_getElem? (i := 128) (by decide +kernel)))) rfl), wi_4, wc_B_takesOrder, by decide, by decide, by decide +kernel⟩, wn_B_takesOrder, wl_B_takesOrder⟩
theorem wc_B_giveOrder : Cond.code y_B_giveOrder c_B_giveOrder 3 none ∈ fr_ws := (fr_in (List.mem_append_right _ (List.mem_append_left _ (List.mem_of_getElem? (i := 143) rfl))) rfl)
theorem wn_B_giveOrder : Cond.instanceMethod y_B_giveOrder ∈ fr_ws := (fr_in (List.mem_append_right _ (List.mem_append_left _ (List.mem_of_getElem? (i := 141) (by decide +kernel)))) rfl)
theorem wl_B_giveOrder : Cond.selects y_B_giveOrder.cls y_B_giveOrder y_B_giveOrder ∈ fr_ws := (fr_in (List.mem_append_right _ (List.mem_append_left _ (List.mem_of_getElem? (i := 142) (by decide +kernel)))) rfl)
theorem mv_F_214 : fr_mv R_F 214 y_B_giveOrder c_B_giveOrder 3 none 2 := ⟨⟨(fr_in (List.mem_append_right _ (List.mem_append_left _ (List.mem_of_getElem? (i := 140) (by decide +kernel)))) rfl), wi_4, wc_B_giveOrder, by decide, by decide, by decide +kernel⟩, wn_B_giveOrder, wl_B_giveOrder⟩
theorem wc_B_isOverdue : Cond.code y_B_isOverdue c_B_isOverdue 3 (some .boolean) ∈ fr_ws := (fr_in (List.mem_append_right _ (List.mem_append_left _ (List.mem_of_getElem? (i := 151) rfl))) rfl)
theorem wn_B_isOverdue : Cond.instanceMethod y_B_isOverdue ∈ fr_ws := (fr_in (List.mem_append_right _ (List.mem_append_left _ (List.mem_of_getElem? (i := 149) (by decide +kernel)))) rfl)
theorem wl_B_isOverdue : Cond.selects y_B_isOverdue.cls y_B_isOverdue y_B_isOverdue ∈ fr_ws := (fr_in (List.mem_append_right _ (List.mem_append_left _ (List.mem_of_getElem? (i := 150) (by decide +kernel)))) rfl)
theorem mv_F_218 : fr_mv R_F 218 y_B_isOverdue c_B_isOverdue 3 (some .boolean) 2 := ⟨⟨(fr_in (List.mem_append_right _ (List.mem_append_left _ (List.mem_of_getElem? (i := 148) (by decide +kernel)))) rfl), wi_4, wc_B_isOverdue, by decide, by decide, by decide +kernel⟩, wn_B_isOverdue, wl_B_isOverdue⟩
theorem fl_F_222 : fr_fl R_F 222 4 3 .boolean false := ⟨fr_q4, ty_B, rfl, cf_B, by decide, (fr_in (List.mem_append_left _ (List.mem_of_getElem? (i := 127) (by decide +kernel))) rfl), rfl, rfl, rfl⟩
theorem wc_W_holdsBack : Cond.code y_W_holdsBack c_W_holdsBack 2 (some .boolean) ∈ fr_ws := (fr_in (List.mem_append_right _ (List.mem_append_left _ (List.mem_of_getElem? (i := 139) rfl))) rfl)
theorem wn_W_holdsBack : Cond.instanceMethod y_W_holdsBack ∈ fr_ws := (fr_in (List.mem_append_right _ (List.mem_append_left _ (List.mem_of_getElem? (i := 137) (by decide +kernel)))) rfl)
theorem wl_W_holdsBack : Cond.selects y_W_holdsBack.cls y_W_holdsBack y_W_holdsBack ∈ fr_ws := (fr_in (List.mem_append_right _ (List.mem_append_left _ (List.mem_of_getElem? (i := 138) (by decide +kernel)))) rfl)
theorem mv_F_225 : fr_mv R_F 225 y_W_holdsBack c_W_holdsBack 2 (some .boolean) 1 := ⟨⟨(fr_in (List.mem_append_right _ (List.mem_append_left _ (List.mem_of_getElem? (i := 136) (by decide +kernel)))) rfl), wi_5, wc_W_holdsBack, by decide, by decide, by decide +kernel⟩, wn_W_holdsBack, wl_W_holdsBack⟩
theorem ml_O_1 : Cond.methodLink R_O 1 objectInit ∈ fr_ws := (fr_in (List.mem_append_right _ (List.mem_append_left _ (List.mem_of_getElem? (i := 235) (by decide +kernel)))) rfl)
theorem fl_O_7 : fr_fl R_O 7 6 2 (.array .int) false := ⟨fr_q6, ty_O, rfl, cf_O, by decide, (fr_in (List.mem_append_right _ (List.mem_append_left _ (List.mem_of_getElem? (i := 238) (by decide +kernel)))) rfl), rfl, rfl, rfl⟩
theorem fl_O_13 : fr_fl R_O 13 6 3 (.array .boolean) false := ⟨fr_q6, ty_O, rfl, cf_O, by decide, (fr_in (List.mem_append_right _ (List.mem_append_left _ (List.mem_of_getElem? (i := 239) (by decide +kernel)))) rfl), rfl, rfl, rfl⟩
theorem fl_O_17 : fr_fl R_O 17 6 4 (.array .boolean) false := ⟨fr_q6, ty_O, rfl, cf_O, by decide, (fr_in (List.mem_append_right _ (List.mem_append_right _ (List.mem_append_left _ (List.mem_of_getElem? (i := 0) (by decide +kernel))))) rfl), rfl, rfl, rfl⟩
theorem fl_O_20 : fr_fl R_O 20 6 5 (.array .int) false := ⟨fr_q6, ty_O, rfl, cf_O, by decide, (fr_in (List.mem_append_right _ (List.mem_append_right _ (List.mem_append_left _ (List.mem_of_getElem? (i := 1) (by decide +kernel))))) rfl), rfl, rfl, rfl⟩
theorem fl_O_23 : fr_fl R_O 23 6 6 (.array .int) false := ⟨fr_q6, ty_O, rfl, cf_O, by decide, (fr_in (List.mem_append_right _ (List.mem_append_right _ (List.mem_append_left _ (List.mem_of_getElem? (i := 2) (by decide +kernel))))) rfl), rfl, rfl, rfl⟩
theorem fl_O_26 : fr_fl R_O 26 6 7 (.array .int) false := ⟨fr_q6, ty_O, rfl, cf_O, by decide, (fr_in (List.mem_append_right _ (List.mem_append_right _ (List.mem_append_left _ (List.mem_of_getElem? (i := 3) (by decide +kernel))))) rfl), rfl, rfl, rfl⟩
theorem fl_O_29 : fr_fl R_O 29 6 8 (.array .int) false := ⟨fr_q6, ty_O, rfl, cf_O, by decide, (fr_in (List.mem_append_right _ (List.mem_append_right _ (List.mem_append_left _ (List.mem_of_getElem? (i := 4) (by decide +kernel))))) rfl), rfl, rfl, rfl⟩
theorem fl_O_32 : fr_fl R_O 32 6 9 (.array .int) false := ⟨fr_q6, ty_O, rfl, cf_O, by decide, (fr_in (List.mem_append_right _ (List.mem_append_right _ (List.mem_append_left _ (List.mem_of_getElem? (i := 5) (by decide +kernel))))) rfl), rfl, rfl, rfl⟩
theorem fl_O_35 : fr_fl R_O 35 6 10 (.array .boolean) false := ⟨fr_q6, ty_O, rfl, cf_O, by decide, (fr_in (List.mem_append_right _ (List.mem_append_right _ (List.mem_append_left _ (List.mem_of_getElem? (i := 6) (by decide +kernel))))) rfl), rfl, rfl, rfl⟩
theorem fl_O_38 : fr_fl R_O 38 6 11 (.array .int) false := ⟨fr_q6, ty_O, rfl, cf_O, by decide, (fr_in (List.mem_append_right _ (List.mem_append_right _ (List.mem_append_left _ (List.mem_of_getElem? (i := 7) (by decide +kernel))))) rfl), rfl, rfl, rfl⟩
theorem fl_O_41 : fr_fl R_O 41 6 12 (.array .int) false := ⟨fr_q6, ty_O, rfl, cf_O, by decide, (fr_in (List.mem_append_right _ (List.mem_append_right _ (List.mem_append_left _ (List.mem_of_getElem? (i := 8) (by decide +kernel))))) rfl), rfl, rfl, rfl⟩
theorem fl_O_44 : fr_fl R_O 44 6 13 (.array .int) false := ⟨fr_q6, ty_O, rfl, cf_O, by decide, (fr_in (List.mem_append_right _ (List.mem_append_right _ (List.mem_append_left _ (List.mem_of_getElem? (i := 9) (by decide +kernel))))) rfl), rfl, rfl, rfl⟩
theorem fl_O_47 : fr_fl R_O 47 6 14 (.array .int) false := ⟨fr_q6, ty_O, rfl, cf_O, by decide, (fr_in (List.mem_append_right _ (List.mem_append_right _ (List.mem_append_left _ (List.mem_of_getElem? (i := 10) (by decide +kernel))))) rfl), rfl, rfl, rfl⟩
theorem fl_O_50 : fr_fl R_O 50 6 15 (.array .long) false := ⟨fr_q6, ty_O, rfl, cf_O, by decide, (fr_in (List.mem_append_right _ (List.mem_append_right _ (List.mem_append_left _ (List.mem_of_getElem? (i := 11) (by decide +kernel))))) rfl), rfl, rfl, rfl⟩
theorem fl_O_54 : fr_fl R_O 54 6 16 (.array .boolean) false := ⟨fr_q6, ty_O, rfl, cf_O, by decide, (fr_in (List.mem_append_right _ (List.mem_append_right _ (List.mem_append_left _ (List.mem_of_getElem? (i := 12) (by decide +kernel))))) rfl), rfl, rfl, rfl⟩
theorem fl_O_57 : fr_fl R_O 57 6 17 (.array .int) false := ⟨fr_q6, ty_O, rfl, cf_O, by decide, (fr_in (List.mem_append_right _ (List.mem_append_right _ (List.mem_append_left _ (List.mem_of_getElem? (i := 13) (by decide +kernel))))) rfl), rfl, rfl, rfl⟩
theorem fl_O_60 : fr_fl R_O 60 6 18 (.array .int) false := ⟨fr_q6, ty_O, rfl, cf_O, by decide, (fr_in (List.mem_append_right _ (List.mem_append_right _ (List.mem_append_left _ (List.mem_of_getElem? (i := 14) (by decide +kernel))))) rfl), rfl, rfl, rfl⟩
theorem fl_O_63 : fr_fl R_O 63 6 19 (.array .int) false := ⟨fr_q6, ty_O, rfl, cf_O, by decide, (fr_in (List.mem_append_right _ (List.mem_append_right _ (List.mem_append_left _ (List.mem_of_getElem? (i := 15) (by decide +kernel))))) rfl), rfl, rfl, rfl⟩
theorem fl_O_66 : fr_fl R_O 66 6 20 (.array .int) false := ⟨fr_q6, ty_O, rfl, cf_O, by decide, (fr_in (List.mem_append_right _ (List.mem_append_right _ (List.mem_append_left _ (List.mem_of_getElem? (i := 16) (by decide +kernel))))) rfl), rfl, rfl, rfl⟩
theorem fl_O_69 : fr_fl R_O 69 6 21 (.array .int) false := ⟨fr_q6, ty_O, rfl, cf_O, by decide, (fr_in (List.mem_append_right _ (List.mem_append_right _ (List.mem_append_left _ (List.mem_of_getElem? (i := 17) (by decide +kernel))))) rfl), rfl, rfl, rfl⟩
theorem fl_O_72 : fr_fl R_O 72 6 22 (.array .boolean) false := ⟨fr_q6, ty_O, rfl, cf_O, by decide, (fr_in (List.mem_append_right _ (List.mem_append_right _ (List.mem_append_left _ (List.mem_of_getElem? (i := 18) (by decide +kernel))))) rfl), rfl, rfl, rfl⟩
theorem fl_O_75 : fr_fl R_O 75 6 23 (.array .boolean) false := ⟨fr_q6, ty_O, rfl, cf_O, by decide, (fr_in (List.mem_append_right _ (List.mem_append_right _ (List.mem_append_left _ (List.mem_of_getElem? (i := 19) (by decide +kernel))))) rfl), rfl, rfl, rfl⟩
theorem fl_O_78 : fr_fl R_O 78 6 24 (.array .int) false := ⟨fr_q6, ty_O, rfl, cf_O, by decide, (fr_in (List.mem_append_right _ (List.mem_append_right _ (List.mem_append_left _ (List.mem_of_getElem? (i := 20) (by decide +kernel))))) rfl), rfl, rfl, rfl⟩
theorem fl_O_81 : fr_fl R_O 81 6 25 (.array .boolean) false := ⟨fr_q6, ty_O, rfl, cf_O, by decide, (fr_in (List.mem_append_right _ (List.mem_append_right _ (List.mem_append_left _ (List.mem_of_getElem? (i := 21) (by decide +kernel))))) rfl), rfl, rfl, rfl⟩
theorem fl_O_84 : fr_fl R_O 84 6 26 (.array .int) false := ⟨fr_q6, ty_O, rfl, cf_O, by decide, (fr_in (List.mem_append_right _ (List.mem_append_right _ (List.mem_append_left _ (List.mem_of_getElem? (i := 22) (by decide +kernel))))) rfl), rfl, rfl, rfl⟩
theorem fl_O_87 : fr_fl R_O 87 6 27 (.array .int) false := ⟨fr_q6, ty_O, rfl, cf_O, by decide, (fr_in (List.mem_append_right _ (List.mem_append_right _ (List.mem_append_left _ (List.mem_of_getElem? (i := 23) (by decide +kernel))))) rfl), rfl, rfl, rfl⟩
theorem fl_O_90 : fr_fl R_O 90 6 28 (.array .int) false := ⟨fr_q6, ty_O, rfl, cf_O, by decide, (fr_in (List.mem_append_right _ (List.mem_append_right _ (List.mem_append_left _ (List.mem_of_getElem? (i := 24) (by decide +kernel))))) rfl), rfl, rfl, rfl⟩
theorem fl_O_93 : fr_fl R_O 93 6 29 (.array .int) false := ⟨fr_q6, ty_O, rfl, cf_O, by decide, (fr_in (List.mem_append_right _ (List.mem_append_right _ (List.mem_append_left _ (List.mem_of_getElem? (i := 25) (by decide +kernel))))) rfl), rfl, rfl, rfl⟩
theorem fl_O_96 : fr_fl R_O 96 6 30 (.array .int) false := ⟨fr_q6, ty_O, rfl, cf_O, by decide, (fr_in (List.mem_append_right _ (List.mem_append_right _ (List.mem_append_left _ (List.mem_of_getElem? (i := 26) (by decide +kernel))))) rfl), rfl, rfl, rfl⟩
theorem fl_O_99 : fr_fl R_O 99 6 31 (.array .int) false := ⟨fr_q6, ty_O, rfl, cf_O, by decide, (fr_in (List.mem_append_right _ (List.mem_append_right _ (List.mem_append_left _ (List.mem_of_getElem? (i := 27) (by decide +kernel))))) rfl), rfl, rfl, rfl⟩
theorem fl_O_102 : fr_fl R_O 102 6 32 (.array .int) false := ⟨fr_q6, ty_O, rfl, cf_O, by decide, (fr_in (List.mem_append_right _ (List.mem_append_right _ (List.mem_append_left _ (List.mem_of_getElem? (i := 28) (by decide +kernel))))) rfl), rfl, rfl, rfl⟩
theorem fl_O_105 : fr_fl R_O 105 6 35 (.array .int) false := ⟨fr_q6, ty_O, rfl, cf_O, by decide, (fr_in (List.mem_append_right _ (List.mem_append_right _ (List.mem_append_left _ (List.mem_of_getElem? (i := 31) (by decide +kernel))))) rfl), rfl, rfl, rfl⟩
theorem fl_O_108 : fr_fl R_O 108 6 36 (.array .int) false := ⟨fr_q6, ty_O, rfl, cf_O, by decide, (fr_in (List.mem_append_right _ (List.mem_append_right _ (List.mem_append_left _ (List.mem_of_getElem? (i := 32) (by decide +kernel))))) rfl), rfl, rfl, rfl⟩
theorem fl_O_111 : fr_fl R_O 111 6 0 .int false := ⟨fr_q6, ty_O, rfl, cf_O, by decide, (fr_in (List.mem_append_right _ (List.mem_append_left _ (List.mem_of_getElem? (i := 236) (by decide +kernel)))) rfl), rfl, rfl, rfl⟩
theorem fl_O_115 : fr_fl R_O 115 6 1 .int false := ⟨fr_q6, ty_O, rfl, cf_O, by decide, (fr_in (List.mem_append_right _ (List.mem_append_left _ (List.mem_of_getElem? (i := 237) (by decide +kernel)))) rfl), rfl, rfl, rfl⟩
theorem wi_6 : Cond.initialized "FeederRelaysModel" ∈ fr_ws := (fr_in (List.mem_append_left _ (List.mem_of_getElem? (i := 3) (by decide +kernel))) rfl)
theorem wc_O_none : Cond.code y_O_none c_O_none 2 (some .boolean) ∈ fr_ws := (fr_in (List.mem_append_right _ (List.mem_append_right _ (List.mem_append_left _ (List.mem_of_getElem? (i := 116) rfl)))) rfl)
theorem wn_O_none : Cond.instanceMethod y_O_none ∈ fr_ws := (fr_in (List.mem_append_right _ (List.mem_append_right _ (List.mem_append_left _ (List.mem_of_getElem? (i := 115) (by decide +kernel))))) rfl)
theorem wl_O_none : Cond.selects y_O_none.cls y_O_none y_O_none ∈ fr_ws := fr_inp (y := y_O_none) (n := 37) (List.mem_append_left _ (List.mem_of_getElem? (i := 14) rfl))
theorem mv_O_118 : fr_mv R_O 118 y_O_none c_O_none 2 (some .boolean) 1 := ⟨⟨(fr_in (List.mem_append_right _ (List.mem_append_right _ (List.mem_append_left _ (List.mem_of_getElem? (i := 113) (by decide +kernel))))) rfl), wi_6, wc_O_none, by decide, by decide, by decide +kernel⟩, wn_O_none, wl_O_none⟩
theorem lc_O_122 : Cond.constantLong R_O 122 1048576 ∈ fr_ws := (fr_in (List.mem_append_right _ (List.mem_append_right _ (List.mem_append_left _ (List.mem_of_getElem? (i := 177) (by decide +kernel))))) rfl)
theorem lc_O_124 : Cond.constantLong R_O 124 4 ∈ fr_ws := (fr_in (List.mem_append_right _ (List.mem_append_right _ (List.mem_append_left _ (List.mem_of_getElem? (i := 178) (by decide +kernel))))) rfl)
theorem lc_O_126 : Cond.constantLong R_O 126 2 ∈ fr_ws := (fr_in (List.mem_append_right _ (List.mem_append_right _ (List.mem_append_left _ (List.mem_of_getElem? (i := 179) (by decide +kernel))))) rfl)
theorem fl_O_128 : fr_fl R_O 128 6 33 .int false := ⟨fr_q6, ty_O, rfl, cf_O, by decide, (fr_in (List.mem_append_right _ (List.mem_append_right _ (List.mem_append_left _ (List.mem_of_getElem? (i := 29) (by decide +kernel))))) rfl), rfl, rfl, rfl⟩
theorem wc_O_note : Cond.code y_O_note c_O_note 3 none ∈ fr_ws := (fr_in (List.mem_append_right _ (List.mem_append_right _ (List.mem_append_left _ (List.mem_of_getElem? (i := 164) rfl)))) rfl)
theorem wn_O_note : Cond.instanceMethod y_O_note ∈ fr_ws := (fr_in (List.mem_append_right _ (List.mem_append_right _ (List.mem_append_left _ (List.mem_of_getElem? (i := 163) (by decide +kernel))))) rfl)
theorem wl_O_note : Cond.selects y_O_note.cls y_O_note y_O_note ∈ fr_ws := fr_inp (y := y_O_note) (n := 37) (List.mem_append_right _ (List.mem_of_getElem? (i := 2) rfl))
theorem mv_O_131 : fr_mv R_O 131 y_O_note c_O_note 3 none 2 := ⟨⟨(fr_in (List.mem_append_right _ (List.mem_append_right _ (List.mem_append_left _ (List.mem_of_getElem? (i := 161) (by decide +kernel))))) rfl), wi_6, wc_O_note, by decide, by decide, by decide +kernel⟩, wn_O_note, wl_O_note⟩
theorem wc_O_flow : Cond.code y_O_flow c_O_flow 8 (some .int) ∈ fr_ws := (fr_in (List.mem_append_right _ (List.mem_append_right _ (List.mem_append_left _ (List.mem_of_getElem? (i := 172) rfl)))) rfl)
theorem wn_O_flow : Cond.instanceMethod y_O_flow ∈ fr_ws := (fr_in (List.mem_append_right _ (List.mem_append_right _ (List.mem_append_left _ (List.mem_of_getElem? (i := 171) (by decide +kernel))))) rfl)
theorem wl_O_flow : Cond.selects y_O_flow.cls y_O_flow y_O_flow ∈ fr_ws := fr_inp (y := y_O_flow) (n := 37) (List.mem_append_right _ (List.mem_of_getElem? (i := 4) rfl))
theorem mv_O_135 : fr_mv R_O 135 y_O_flow c_O_flow 8 (some .int) 1 := ⟨⟨(fr_in (List.mem_append_right _ (List.mem_append_right _ (List.mem_append_left _ (List.mem_of_getElem? (i := 169) (by decide +kernel))))) rfl), wi_6, wc_O_flow, by decide, by decide, by decide +kernel⟩, wn_O_flow, wl_O_flow⟩
theorem wc_O_root : Cond.code y_O_root c_O_root 10 (some .int) ∈ fr_ws := (fr_in (List.mem_append_right _ (List.mem_append_right _ (List.mem_append_left _ (List.mem_of_getElem? (i := 176) rfl)))) rfl)
theorem wn_O_root : Cond.instanceMethod y_O_root ∈ fr_ws := (fr_in (List.mem_append_right _ (List.mem_append_right _ (List.mem_append_left _ (List.mem_of_getElem? (i := 175) (by decide +kernel))))) rfl)
theorem wl_O_root : Cond.selects y_O_root.cls y_O_root y_O_root ∈ fr_ws := fr_inp (y := y_O_root) (n := 37) (List.mem_append_right _ (List.mem_of_getElem? (i := 5) rfl))
theorem mv_O_139 : fr_mv R_O 139 y_O_root c_O_root 10 (some .int) 1 := ⟨⟨(fr_in (List.mem_append_right _ (List.mem_append_right _ (List.mem_append_left _ (List.mem_of_getElem? (i := 173) (by decide +kernel))))) rfl), wi_6, wc_O_root, by decide, by decide, by decide +kernel⟩, wn_O_root, wl_O_root⟩
theorem wc_O_send : Cond.code y_O_send c_O_send 3 none ∈ fr_ws := (fr_in (List.mem_append_right _ (List.mem_append_right _ (List.mem_append_left _ (List.mem_of_getElem? (i := 183) rfl)))) rfl)
theorem wn_O_send : Cond.instanceMethod y_O_send ∈ fr_ws := (fr_in (List.mem_append_right _ (List.mem_append_right _ (List.mem_append_left _ (List.mem_of_getElem? (i := 182) (by decide +kernel))))) rfl)
theorem wl_O_send : Cond.selects y_O_send.cls y_O_send y_O_send ∈ fr_ws := fr_inp (y := y_O_send) (n := 37) (List.mem_append_right _ (List.mem_of_getElem? (i := 6) rfl))
theorem mv_O_142 : fr_mv R_O 142 y_O_send c_O_send 3 none 1 := ⟨⟨(fr_in (List.mem_append_right _ (List.mem_append_right _ (List.mem_append_left _ (List.mem_of_getElem? (i := 180) (by decide +kernel))))) rfl), wi_6, wc_O_send, by decide, by decide, by decide +kernel⟩, wn_O_send, wl_O_send⟩
theorem wc_O_blocked : Cond.code y_O_blocked c_O_blocked 4 (some .boolean) ∈ fr_ws := (fr_in (List.mem_append_right _ (List.mem_append_right _ (List.mem_append_left _ (List.mem_of_getElem? (i := 191) rfl)))) rfl)
theorem wn_O_blocked : Cond.instanceMethod y_O_blocked ∈ fr_ws := (fr_in (List.mem_append_right _ (List.mem_append_right _ (List.mem_append_left _ (List.mem_of_getElem? (i := 190) (by decide +kernel))))) rfl)
theorem wl_O_blocked : Cond.selects y_O_blocked.cls y_O_blocked y_O_blocked ∈ fr_ws := fr_inp (y := y_O_blocked) (n := 37) (List.mem_append_right _ (List.mem_of_getElem? (i := 8) rfl))
theorem mv_O_146 : fr_mv R_O 146 y_O_blocked c_O_blocked 4 (some .boolean) 1 := ⟨⟨(fr_in (List.mem_append_right _ (List.mem_append_right _ (List.mem_append_left _ (List.mem_of_getElem? (i := 188) (by decide +kernel))))) rfl), wi_6, wc_O_blocked, by decide, by decide, by decide +kernel⟩, wn_O_blocked, wl_O_blocked⟩
theorem wc_O_give : Cond.code y_O_give c_O_give 3 none ∈ fr_ws := (fr_in (List.mem_append_right _ (List.mem_append_right _ (List.mem_append_left _ (List.mem_of_getElem? (i := 195) rfl)))) rfl)
theorem wn_O_give : Cond.instanceMethod y_O_give ∈ fr_ws := (fr_in (List.mem_append_right _ (List.mem_append_right _ (List.mem_append_left _ (List.mem_of_getElem? (i := 194) (by decide +kernel))))) rfl)
theorem wl_O_give : Cond.selects y_O_give.cls y_O_give y_O_give ∈ fr_ws := fr_inp (y := y_O_give) (n := 37) (List.mem_append_right _ (List.mem_of_getElem? (i := 9) rfl))
theorem mv_O_149 : fr_mv R_O 149 y_O_give c_O_give 3 none 2 := ⟨⟨(fr_in (List.mem_append_right _ (List.mem_append_right _ (List.mem_append_left _ (List.mem_of_getElem? (i := 192) (by decide +kernel))))) rfl), wi_6, wc_O_give, by decide, by decide, by decide +kernel⟩, wn_O_give, wl_O_give⟩
theorem wc_O_receive : Cond.code y_O_receive c_O_receive 4 none ∈ fr_ws := (fr_in (List.mem_append_right _ (List.mem_append_right _ (List.mem_append_left _ (List.mem_of_getElem? (i := 156) rfl)))) rfl)
theorem wn_O_receive : Cond.instanceMethod y_O_receive ∈ fr_ws := (fr_in (List.mem_append_right _ (List.mem_append_right _ (List.mem_append_left _ (List.mem_of_getElem? (i := 155) (by decide +kernel))))) rfl)
theorem wl_O_receive : Cond.selects y_O_receive.cls y_O_receive y_O_receive ∈ fr_ws := fr_inp (y := y_O_receive) (n := 37) (List.mem_append_right _ (List.mem_of_getElem? (i := 0) rfl))
theorem mv_O_152 : fr_mv R_O 152 y_O_receive c_O_receive 4 none 1 := ⟨⟨(fr_in (List.mem_append_right _ (List.mem_append_right _ (List.mem_append_left _ (List.mem_of_getElem? (i := 153) (by decide +kernel))))) rfl), wi_6, wc_O_receive, by decide, by decide, by decide +kernel⟩, wn_O_receive, wl_O_receive⟩
theorem wc_O_breaker : Cond.code y_O_breaker c_O_breaker 3 none ∈ fr_ws := (fr_in (List.mem_append_right _ (List.mem_append_right _ (List.mem_append_left _ (List.mem_of_getElem? (i := 160) rfl)))) rfl)
theorem wn_O_breaker : Cond.instanceMethod y_O_breaker ∈ fr_ws := (fr_in (List.mem_append_right _ (List.mem_append_right _ (List.mem_append_left _ (List.mem_of_getElem? (i := 159) (by decide +kernel))))) rfl)
theorem wl_O_breaker : Cond.selects y_O_breaker.cls y_O_breaker y_O_breaker ∈ fr_ws := fr_inp (y := y_O_breaker) (n := 37) (List.mem_append_right _ (List.mem_of_getElem? (i := 1) rfl))
theorem mv_O_155 : fr_mv R_O 155 y_O_breaker c_O_breaker 3 none 1 := ⟨⟨(fr_in (List.mem_append_right _ (List.mem_append_right _ (List.mem_append_left _ (List.mem_of_getElem? (i := 157) (by decide +kernel))))) rfl), wi_6, wc_O_breaker, by decide, by decide, by decide +kernel⟩, wn_O_breaker, wl_O_breaker⟩
theorem wc_O_measure : Cond.code y_O_measure c_O_measure 7 none ∈ fr_ws := (fr_in (List.mem_append_right _ (List.mem_append_right _ (List.mem_append_left _ (List.mem_of_getElem? (i := 168) rfl)))) rfl)
theorem wn_O_measure : Cond.instanceMethod y_O_measure ∈ fr_ws := (fr_in (List.mem_append_right _ (List.mem_append_right _ (List.mem_append_left _ (List.mem_of_getElem? (i := 167) (by decide +kernel))))) rfl)
theorem wl_O_measure : Cond.selects y_O_measure.cls y_O_measure y_O_measure ∈ fr_ws := fr_inp (y := y_O_measure) (n := 37) (List.mem_append_right _ (List.mem_of_getElem? (i := 3) rfl))
theorem mv_O_158 : fr_mv R_O 158 y_O_measure c_O_measure 7 none 1 := ⟨⟨(fr_in (List.mem_append_right _ (List.mem_append_right _ (List.mem_append_left _ (List.mem_of_getElem? (i := 165) (by decide +kernel))))) rfl), wi_6, wc_O_measure, by decide, by decide, by decide +kernel⟩, wn_O_measure, wl_O_measure⟩
theorem wc_O_trip : Cond.code y_O_trip c_O_trip 4 none ∈ fr_ws := (fr_in (List.mem_append_right _ (List.mem_append_right _ (List.mem_append_left _ (List.mem_of_getElem? (i := 187) rfl)))) rfl)
theorem wn_O_trip : Cond.instanceMethod y_O_trip ∈ fr_ws := (fr_in (List.mem_append_right _ (List.mem_append_right _ (List.mem_append_left _ (List.mem_of_getElem? (i := 186) (by decide +kernel))))) rfl)
theorem wl_O_trip : Cond.selects y_O_trip.cls y_O_trip y_O_trip ∈ fr_ws := fr_inp (y := y_O_trip) (n := 37) (List.mem_append_right _ (List.mem_of_getElem? (i := 7) rfl))
theorem mv_O_161 : fr_mv R_O 161 y_O_trip c_O_trip 4 none 1 := ⟨⟨(fr_in (List.mem_append_right _ (List.mem_append_right _ (List.mem_append_left _ (List.mem_of_getElem? (i := 184) (by decide +kernel))))) rfl), wi_6, wc_O_trip, by decide, by decide, by decide +kernel⟩, wn_O_trip, wl_O_trip⟩
theorem wc_O_fail : Cond.code y_O_fail c_O_fail 3 none ∈ fr_ws := (fr_in (List.mem_append_right _ (List.mem_append_right _ (List.mem_append_left _ (List.mem_of_getElem? (i := 199) rfl)))) rfl)
theorem wn_O_fail : Cond.instanceMethod y_O_fail ∈ fr_ws := (fr_in (List.mem_append_right _ (List.mem_append_right _ (List.mem_append_left _ (List.mem_of_getElem? (i := 198) (by decide +kernel))))) rfl)
theorem wl_O_fail : Cond.selects y_O_fail.cls y_O_fail y_O_fail ∈ fr_ws := fr_inp (y := y_O_fail) (n := 37) (List.mem_append_right _ (List.mem_of_getElem? (i := 10) rfl))
theorem mv_O_164 : fr_mv R_O 164 y_O_fail c_O_fail 3 none 1 := ⟨⟨(fr_in (List.mem_append_right _ (List.mem_append_right _ (List.mem_append_left _ (List.mem_of_getElem? (i := 196) (by decide +kernel))))) rfl), wi_6, wc_O_fail, by decide, by decide, by decide +kernel⟩, wn_O_fail, wl_O_fail⟩
theorem fl_O_167 : fr_fl R_O 167 6 34 .int false := ⟨fr_q6, ty_O, rfl, cf_O, by decide, (fr_in (List.mem_append_right _ (List.mem_append_right _ (List.mem_append_left _ (List.mem_of_getElem? (i := 30) (by decide +kernel))))) rfl), rfl, rfl, rfl⟩
theorem wc_O_tick : Cond.code y_O_tick c_O_tick 2 none ∈ fr_ws := (fr_in (List.mem_append_right _ (List.mem_append_right _ (List.mem_append_left _ (List.mem_of_getElem? (i := 152) rfl)))) rfl)
theorem wn_O_tick : Cond.instanceMethod y_O_tick ∈ fr_ws := (fr_in (List.mem_append_right _ (List.mem_append_right _ (List.mem_append_left _ (List.mem_of_getElem? (i := 151) (by decide +kernel))))) rfl)
theorem wl_O_tick : Cond.selects y_O_tick.cls y_O_tick y_O_tick ∈ fr_ws := fr_inp (y := y_O_tick) (n := 37) (List.mem_append_left _ (List.mem_of_getElem? (i := 15) rfl))
theorem mv_O_170 : fr_mv R_O 170 y_O_tick c_O_tick 2 none 0 := ⟨⟨(fr_in (List.mem_append_right _ (List.mem_append_right _ (List.mem_append_left _ (List.mem_of_getElem? (i := 149) (by decide +kernel))))) rfl), wi_6, wc_O_tick, by decide, by decide, by decide +kernel⟩, wn_O_tick, wl_O_tick⟩
theorem lc_O_173 : Cond.constantLong R_O 173 (-1) ∈ fr_ws := (fr_in (List.mem_append_right _ (List.mem_append_right _ (List.mem_append_left _ (List.mem_of_getElem? (i := 220) (by decide +kernel))))) rfl)
theorem ml_B_1 : Cond.methodLink R_B 1 objectInit ∈ fr_ws := (fr_in (List.mem_append_left _ (List.mem_of_getElem? (i := 119) (by decide +kernel))) rfl)
theorem fl_B_7 : fr_fl R_B 7 4 0 .boolean false := ⟨fr_q4, ty_B, rfl, cf_B, by decide, (fr_in (List.mem_append_left _ (List.mem_of_getElem? (i := 120) (by decide +kernel))) rfl), rfl, rfl, rfl⟩
theorem fl_B_13 : fr_fl R_B 13 4 6 .boolean false := ⟨fr_q4, ty_B, rfl, cf_B, by decide, (fr_in (List.mem_append_left _ (List.mem_of_getElem? (i := 132) (by decide +kernel))) rfl), rfl, rfl, rfl⟩
theorem fl_B_16 : fr_fl R_B 16 4 4 .boolean false := ⟨fr_q4, ty_B, rfl, cf_B, by decide, (fr_in (List.mem_append_left _ (List.mem_of_getElem? (i := 128) (by decide +kernel))) rfl), rfl, rfl, rfl⟩
theorem fl_B_19 : fr_fl R_B 19 4 7 .int false := ⟨fr_q4, ty_B, rfl, cf_B, by decide, (fr_in (List.mem_append_left _ (List.mem_of_getElem? (i := 133) (by decide +kernel))) rfl), rfl, rfl, rfl⟩
theorem fl_B_23 : fr_fl R_B 23 4 3 .boolean false := ⟨fr_q4, ty_B, rfl, cf_B, by decide, (fr_in (List.mem_append_left _ (List.mem_of_getElem? (i := 126) (by decide +kernel))) rfl), rfl, rfl, rfl⟩
theorem fl_B_26 : fr_fl R_B 26 4 1 .boolean false := ⟨fr_q4, ty_B, rfl, cf_B, by decide, (fr_in (List.mem_append_left _ (List.mem_of_getElem? (i := 122) (by decide +kernel))) rfl), rfl, rfl, rfl⟩
theorem fl_B_29 : fr_fl R_B 29 4 8 .boolean false := ⟨fr_q4, ty_B, rfl, cf_B, by decide, (fr_in (List.mem_append_left _ (List.mem_of_getElem? (i := 134) (by decide +kernel))) rfl), rfl, rfl, rfl⟩
theorem fl_B_32 : fr_fl R_B 32 4 5 .int false := ⟨fr_q4, ty_B, rfl, cf_B, by decide, (fr_in (List.mem_append_left _ (List.mem_of_getElem? (i := 130) (by decide +kernel))) rfl), rfl, rfl, rfl⟩
theorem wc_B_pauseAfter : Cond.code y_B_pauseAfter c_B_pauseAfter 1 (some .int) ∈ fr_ws := (fr_in (List.mem_append_right _ (List.mem_append_left _ (List.mem_of_getElem? (i := 70) rfl))) rfl)
theorem ms_B_35 : fr_ms R_B 35 y_B_pauseAfter c_B_pauseAfter 1 (some .int) 1 := ⟨⟨(fr_in (List.mem_append_right _ (List.mem_append_left _ (List.mem_of_getElem? (i := 68) (by decide +kernel)))) rfl), wi_4, wc_B_pauseAfter, by decide, by decide, by decide +kernel⟩, (fr_in (List.mem_append_right _ (List.mem_append_left _ (List.mem_of_getElem? (i := 69) (by decide +kernel)))) rfl)⟩
theorem fl_B_39 : fr_fl R_B 39 4 9 .int false := ⟨fr_q4, ty_B, rfl, cf_B, by decide, (fr_in (List.mem_append_left _ (List.mem_of_getElem? (i := 135) (by decide +kernel))) rfl), rfl, rfl, rfl⟩
theorem fl_B_42 : fr_fl R_B 42 4 10 .int false := ⟨fr_q4, ty_B, rfl, cf_B, by decide, (fr_in (List.mem_append_left _ (List.mem_of_getElem? (i := 136) (by decide +kernel))) rfl), rfl, rfl, rfl⟩
theorem fl_B_45 : fr_fl R_B 45 4 2 .boolean false := ⟨fr_q4, ty_B, rfl, cf_B, by decide, (fr_in (List.mem_append_left _ (List.mem_of_getElem? (i := 124) (by decide +kernel))) rfl), rfl, rfl, rfl⟩
theorem ml_J_1 : Cond.methodLink R_J 1 objectInit ∈ fr_ws := (fr_in (List.mem_append_left _ (List.mem_of_getElem? (i := 25) (by decide +kernel))) rfl)
theorem fl_J_9 : fr_fl R_J 9 1 0 (.array .int) true := ⟨fr_q1, ty_J, rfl, cf_J, by decide, (fr_in (List.mem_append_left _ (List.mem_of_getElem? (i := 26) (by decide +kernel))) rfl), rfl, rfl, rfl⟩
theorem fl_J_13 : fr_fl R_J 13 1 1 (.array .int) true := ⟨fr_q1, ty_J, rfl, cf_J, by decide, (fr_in (List.mem_append_left _ (List.mem_of_getElem? (i := 28) (by decide +kernel))) rfl), rfl, rfl, rfl⟩
theorem fl_J_16 : fr_fl R_J 16 1 2 .int false := ⟨fr_q1, ty_J, rfl, cf_J, by decide, (fr_in (List.mem_append_left _ (List.mem_of_getElem? (i := 30) (by decide +kernel))) rfl), rfl, rfl, rfl⟩
theorem fl_J_20 : fr_fl R_J 20 1 3 .int false := ⟨fr_q1, ty_J, rfl, cf_J, by decide, (fr_in (List.mem_append_left _ (List.mem_of_getElem? (i := 32) (by decide +kernel))) rfl), rfl, rfl, rfl⟩
theorem ml_J_23 : Cond.methodLink R_J 23 Lib.Math.min.name ∈ fr_ws := (fr_in (List.mem_append_right _ (List.mem_append_left _ (List.mem_of_getElem? (i := 156) (by decide +kernel)))) rfl)
theorem ml_M_1 : Cond.methodLink R_M 1 objectInit ∈ fr_ws := (fr_in (List.mem_append_left _ (List.mem_of_getElem? (i := 85) (by decide +kernel))) rfl)
theorem fl_M_9 : fr_fl R_M 9 3 0 (.array .int) true := ⟨fr_q3, ty_M, rfl, cf_M, by decide, (fr_in (List.mem_append_left _ (List.mem_of_getElem? (i := 86) (by decide +kernel))) rfl), rfl, rfl, rfl⟩
theorem fl_M_13 : fr_fl R_M 13 3 3 .int false := ⟨fr_q3, ty_M, rfl, cf_M, by decide, (fr_in (List.mem_append_left _ (List.mem_of_getElem? (i := 89) (by decide +kernel))) rfl), rfl, rfl, rfl⟩
theorem fl_M_17 : fr_fl R_M 17 3 4 .int false := ⟨fr_q3, ty_M, rfl, cf_M, by decide, (fr_in (List.mem_append_left _ (List.mem_of_getElem? (i := 90) (by decide +kernel))) rfl), rfl, rfl, rfl⟩
theorem fl_M_20 : fr_fl R_M 20 3 2 .int false := ⟨fr_q3, ty_M, rfl, cf_M, by decide, (fr_in (List.mem_append_left _ (List.mem_of_getElem? (i := 88) (by decide +kernel))) rfl), rfl, rfl, rfl⟩
theorem fl_M_23 : fr_fl R_M 23 3 1 .int false := ⟨fr_q3, ty_M, rfl, cf_M, by decide, (fr_in (List.mem_append_left _ (List.mem_of_getElem? (i := 87) (by decide +kernel))) rfl), rfl, rfl, rfl⟩
theorem wc_M_rootOfMeanSquare : Cond.code y_M_rootOfMeanSquare c_M_rootOfMeanSquare 9 (some .int) ∈ fr_ws := (fr_in (List.mem_append_right _ (List.mem_append_left _ (List.mem_of_getElem? (i := 98) rfl))) rfl)
theorem wn_M_rootOfMeanSquare : Cond.instanceMethod y_M_rootOfMeanSquare ∈ fr_ws := (fr_in (List.mem_append_right _ (List.mem_append_left _ (List.mem_of_getElem? (i := 97) (by decide +kernel)))) rfl)
theorem wl_M_rootOfMeanSquare : Cond.selects y_M_rootOfMeanSquare.cls y_M_rootOfMeanSquare y_M_rootOfMeanSquare ∈ fr_ws := fr_inp (y := y_M_rootOfMeanSquare) (n := 8) (List.mem_append_left _ (List.mem_of_getElem? (i := 7) rfl))
theorem mv_M_26 : fr_mv R_M 26 y_M_rootOfMeanSquare c_M_rootOfMeanSquare 9 (some .int) 0 := ⟨⟨(fr_in (List.mem_append_right _ (List.mem_append_left _ (List.mem_of_getElem? (i := 95) (by decide +kernel)))) rfl), wi_3, wc_M_rootOfMeanSquare, by decide, by decide, by decide +kernel⟩, wn_M_rootOfMeanSquare, wl_M_rootOfMeanSquare⟩
theorem fl_M_30 : fr_fl R_M 30 3 5 .int false := ⟨fr_q3, ty_M, rfl, cf_M, by decide, (fr_in (List.mem_append_left _ (List.mem_of_getElem? (i := 91) (by decide +kernel))) rfl), rfl, rfl, rfl⟩
theorem fl_M_33 : fr_fl R_M 33 3 6 .boolean false := ⟨fr_q3, ty_M, rfl, cf_M, by decide, (fr_in (List.mem_append_left _ (List.mem_of_getElem? (i := 93) (by decide +kernel))) rfl), rfl, rfl, rfl⟩
theorem fl_M_37 : fr_fl R_M 37 3 7 .long false := ⟨fr_q3, ty_M, rfl, cf_M, by decide, (fr_in (List.mem_append_left _ (List.mem_of_getElem? (i := 95) (by decide +kernel))) rfl), rfl, rfl, rfl⟩
theorem wc_M_growth : Cond.code y_M_growth c_M_growth 1 (some .long) ∈ fr_ws := (fr_in (List.mem_append_right _ (List.mem_append_left _ (List.mem_of_getElem? (i := 104) rfl))) rfl)
theorem wn_M_growth : Cond.instanceMethod y_M_growth ∈ fr_ws := (fr_in (List.mem_append_right _ (List.mem_append_left _ (List.mem_of_getElem? (i := 103) (by decide +kernel)))) rfl)
theorem wl_M_growth : Cond.selects y_M_growth.cls y_M_growth y_M_growth ∈ fr_ws := fr_inp (y := y_M_growth) (n := 8) (List.mem_append_left _ (List.mem_of_getElem? (i := 8) rfl))
theorem mv_M_41 : fr_mv R_M 41 y_M_growth c_M_growth 1 (some .long) 0 := ⟨⟨(fr_in (List.mem_append_right _ (List.mem_append_left _ (List.mem_of_getElem? (i := 101) (by decide +kernel)))) rfl), wi_3, wc_M_growth, by decide, by decide, by decide +kernel⟩, wn_M_growth, wl_M_growth⟩
theorem wc_M_limit : Cond.code y_M_limit c_M_limit 1 (some .long) ∈ fr_ws := (fr_in (List.mem_append_right _ (List.mem_append_left _ (List.mem_of_getElem? (i := 127) rfl))) rfl)
theorem wn_M_limit : Cond.instanceMethod y_M_limit ∈ fr_ws := (fr_in (List.mem_append_right _ (List.mem_append_left _ (List.mem_of_getElem? (i := 126) (by decide +kernel)))) rfl)
theorem wl_M_limit : Cond.selects y_M_limit.cls y_M_limit y_M_limit ∈ fr_ws := fr_inp (y := y_M_limit) (n := 8) (List.mem_append_left _ (List.mem_of_getElem? (i := 11) rfl))
theorem mv_M_45 : fr_mv R_M 45 y_M_limit c_M_limit 1 (some .long) 0 := ⟨⟨(fr_in (List.mem_append_right _ (List.mem_append_left _ (List.mem_of_getElem? (i := 124) (by decide +kernel)))) rfl), wi_3, wc_M_limit, by decide, by decide, by decide +kernel⟩, wn_M_limit, wl_M_limit⟩
theorem wi_7 : Cond.initialized "java/util/Arrays" ∈ fr_ws := (fr_in (List.mem_append_left _ (List.mem_of_getElem? (i := 9) (by decide +kernel))) rfl)
theorem wc_A_fill : Cond.code y_A_fill c_A_fill 4 none ∈ fr_ws := (fr_in (List.mem_append_right _ (List.mem_append_left _ (List.mem_of_getElem? (i := 167) rfl))) rfl)
theorem ms_M_48 : fr_ms R_M 48 y_A_fill c_A_fill 4 none 2 := ⟨⟨(fr_in (List.mem_append_right _ (List.mem_append_left _ (List.mem_of_getElem? (i := 165) (by decide +kernel)))) rfl), wi_7, wc_A_fill, by decide, by decide, by decide +kernel⟩, (fr_in (List.mem_append_right _ (List.mem_append_left _ (List.mem_of_getElem? (i := 166) (by decide +kernel)))) rfl)⟩
theorem lc_M_54 : Cond.constantLong R_M 54 4 ∈ fr_ws := (fr_in (List.mem_append_right _ (List.mem_append_left _ (List.mem_of_getElem? (i := 99) (by decide +kernel)))) rfl)
theorem lc_M_56 : Cond.constant R_M 56 131072 ∈ fr_ws := (fr_in (List.mem_append_right _ (List.mem_append_left _ (List.mem_of_getElem? (i := 100) (by decide +kernel)))) rfl)
theorem ml_R_3 : Cond.methodLink R_R 3 objectInit ∈ fr_ws := (fr_in (List.mem_append_left _ (List.mem_of_getElem? (i := 79) (by decide +kernel))) rfl)
theorem nc_R_9 : fr_nc R_R 9 3 fr_q3 ty_M := ⟨(fr_in (List.mem_append_left _ (List.mem_of_getElem? (i := 80) (by decide +kernel))) rfl), (fr_in (List.mem_append_left _ (List.mem_of_getElem? (i := 81) (by decide +kernel))) rfl), wi_3, rfl, cf_M⟩
theorem wc_M_init : Cond.code y_M_init c_M_init 1 none ∈ fr_ws := (fr_in (List.mem_append_left _ (List.mem_of_getElem? (i := 84) rfl)) rfl)
theorem wn_M_init : Cond.instanceMethod y_M_init ∈ fr_ws := (fr_in (List.mem_append_left _ (List.mem_of_getElem? (i := 83) (by decide +kernel))) rfl)
theorem mn_R_11 : fr_mn R_R 11 y_M_init R_F c_M_init 1 0 := ⟨List.mem_of_getElem? (i := 1) rfl, wi_3, wc_M_init, ⟨by decide, by decide, by decide +kernel⟩, wn_M_init, rfl⟩
theorem fl_R_12 : fr_fl R_R 12 2 1 (.object "FeederRelays$Meter") true := ⟨fr_q2, ty_R, rfl, cf_R, by decide, (fr_in (List.mem_append_left _ (List.mem_of_getElem? (i := 199) (by decide +kernel))) rfl), rfl, rfl, rfl⟩
theorem nc_R_18 : fr_nc R_R 18 4 fr_q4 ty_B := ⟨(fr_in (List.mem_append_left _ (List.mem_of_getElem? (i := 114) (by decide +kernel))) rfl), (fr_in (List.mem_append_left _ (List.mem_of_getElem? (i := 115) (by decide +kernel))) rfl), wi_4, rfl, cf_B⟩
theorem wc_B_init : Cond.code y_B_init c_B_init 1 none ∈ fr_ws := (fr_in (List.mem_append_left _ (List.mem_of_getElem? (i := 118) rfl)) rfl)
theorem wn_B_init : Cond.instanceMethod y_B_init ∈ fr_ws := (fr_in (List.mem_append_left _ (List.mem_of_getElem? (i := 117) (by decide +kernel))) rfl)
theorem mn_R_20 : fr_mn R_R 20 y_B_init R_F c_B_init 1 0 := ⟨List.mem_of_getElem? (i := 2) rfl, wi_4, wc_B_init, ⟨by decide, by decide, by decide +kernel⟩, wn_B_init, rfl⟩
theorem fl_R_21 : fr_fl R_R 21 2 2 (.object "FeederRelays$Breaker") true := ⟨fr_q2, ty_R, rfl, cf_R, by decide, (fr_in (List.mem_append_left _ (List.mem_of_getElem? (i := 201) (by decide +kernel))) rfl), rfl, rfl, rfl⟩
theorem fl_R_25 : fr_fl R_R 25 2 6 .int false := ⟨fr_q2, ty_R, rfl, cf_R, by decide, (fr_in (List.mem_append_left _ (List.mem_of_getElem? (i := 207) (by decide +kernel))) rfl), rfl, rfl, rfl⟩
theorem fl_R_29 : fr_fl R_R 29 2 0 .int true := ⟨fr_q2, ty_R, rfl, cf_R, by decide, (fr_in (List.mem_append_left _ (List.mem_of_getElem? (i := 197) (by decide +kernel))) rfl), rfl, rfl, rfl⟩
theorem nc_R_32 : fr_nc R_R 32 5 fr_q5 ty_W := ⟨(fr_in (List.mem_append_left _ (List.mem_of_getElem? (i := 160) (by decide +kernel))) rfl), (fr_in (List.mem_append_left _ (List.mem_of_getElem? (i := 161) (by decide +kernel))) rfl), wi_5, rfl, cf_W⟩
theorem wc_W_init : Cond.code y_W_init c_W_init 2 none ∈ fr_ws := (fr_in (List.mem_append_left _ (List.mem_of_getElem? (i := 164) rfl)) rfl)
theorem wn_W_init : Cond.instanceMethod y_W_init ∈ fr_ws := (fr_in (List.mem_append_left _ (List.mem_of_getElem? (i := 163) (by decide +kernel))) rfl)
theorem mi_R_34 : fr_mi R_R 34 y_W_init c_W_init 2 1 := ⟨⟨(fr_in (List.mem_append_left _ (List.mem_of_getElem? (i := 162) (by decide +kernel))) rfl), wi_5, wc_W_init, by decide, by decide, by decide +kernel⟩, wn_W_init, rfl⟩
theorem fl_R_37 : fr_fl R_R 37 2 3 (.object "FeederRelays$Wire") true := ⟨fr_q2, ty_R, rfl, cf_R, by decide, (fr_in (List.mem_append_left _ (List.mem_of_getElem? (i := 203) (by decide +kernel))) rfl), rfl, rfl, rfl⟩
theorem ml_W_1 : Cond.methodLink R_W 1 objectInit ∈ fr_ws := (fr_in (List.mem_append_left _ (List.mem_of_getElem? (i := 165) (by decide +kernel))) rfl)
theorem fl_W_9 : fr_fl R_W 9 5 1 (.array .int) true := ⟨fr_q5, ty_W, rfl, cf_W, by decide, (fr_in (List.mem_append_left _ (List.mem_of_getElem? (i := 167) (by decide +kernel))) rfl), rfl, rfl, rfl⟩
theorem fl_W_13 : fr_fl R_W 13 5 2 (.array .int) true := ⟨fr_q5, ty_W, rfl, cf_W, by decide, (fr_in (List.mem_append_left _ (List.mem_of_getElem? (i := 168) (by decide +kernel))) rfl), rfl, rfl, rfl⟩
theorem fl_W_16 : fr_fl R_W 16 5 3 .int false := ⟨fr_q5, ty_W, rfl, cf_W, by decide, (fr_in (List.mem_append_left _ (List.mem_of_getElem? (i := 169) (by decide +kernel))) rfl), rfl, rfl, rfl⟩
theorem fl_W_20 : fr_fl R_W 20 5 8 .int false := ⟨fr_q5, ty_W, rfl, cf_W, by decide, (fr_in (List.mem_append_left _ (List.mem_of_getElem? (i := 177) (by decide +kernel))) rfl), rfl, rfl, rfl⟩
theorem fl_W_23 : fr_fl R_W 23 5 0 .boolean true := ⟨fr_q5, ty_W, rfl, cf_W, by decide, (fr_in (List.mem_append_left _ (List.mem_of_getElem? (i := 166) (by decide +kernel))) rfl), rfl, rfl, rfl⟩
theorem wc_W_placeOf : Cond.code y_W_placeOf c_W_placeOf 1 (some .int) ∈ fr_ws := (fr_in (List.mem_append_right _ (List.mem_append_left _ (List.mem_of_getElem? (i := 43) rfl))) rfl)
theorem ms_W_27 : fr_ms R_W 27 y_W_placeOf c_W_placeOf 1 (some .int) 1 := ⟨⟨(fr_in (List.mem_append_right _ (List.mem_append_left _ (List.mem_of_getElem? (i := 41) (by decide +kernel)))) rfl), wi_5, wc_W_placeOf, by decide, by decide, by decide +kernel⟩, (fr_in (List.mem_append_right _ (List.mem_append_left _ (List.mem_of_getElem? (i := 42) (by decide +kernel)))) rfl)⟩
theorem wc_W_learn : Cond.code y_W_learn c_W_learn 3 none ∈ fr_ws := (fr_in (List.mem_append_right _ (List.mem_append_left _ (List.mem_of_getElem? (i := 47) rfl))) rfl)
theorem wn_W_learn : Cond.instanceMethod y_W_learn ∈ fr_ws := (fr_in (List.mem_append_right _ (List.mem_append_left _ (List.mem_of_getElem? (i := 46) (by decide +kernel)))) rfl)
theorem wl_W_learn : Cond.selects y_W_learn.cls y_W_learn y_W_learn ∈ fr_ws := fr_inp (y := y_W_learn) (n := 9) (List.mem_append_left _ (List.mem_of_getElem? (i := 3) rfl))
theorem mv_W_31 : fr_mv R_W 31 y_W_learn c_W_learn 3 none 2 := ⟨⟨(fr_in (List.mem_append_right _ (List.mem_append_left _ (List.mem_of_getElem? (i := 44) (by decide +kernel)))) rfl), wi_5, wc_W_learn, by decide, by decide, by decide +kernel⟩, wn_W_learn, wl_W_learn⟩
theorem fl_W_35 : fr_fl R_W 35 5 4 .int false := ⟨fr_q5, ty_W, rfl, cf_W, by decide, (fr_in (List.mem_append_left _ (List.mem_of_getElem? (i := 171) (by decide +kernel))) rfl), rfl, rfl, rfl⟩
theorem fl_W_38 : fr_fl R_W 38 5 7 .int false := ⟨fr_q5, ty_W, rfl, cf_W, by decide, (fr_in (List.mem_append_left _ (List.mem_of_getElem? (i := 176) (by decide +kernel))) rfl), rfl, rfl, rfl⟩
theorem ml_W_41 : Cond.methodLink R_W 41 Lib.Math.min.name ∈ fr_ws := (fr_in (List.mem_append_right _ (List.mem_append_left _ (List.mem_of_getElem? (i := 109) (by decide +kernel)))) rfl)
theorem wc_W_send : Cond.code y_W_send c_W_send 4 none ∈ fr_ws := (fr_in (List.mem_append_right _ (List.mem_append_left _ (List.mem_of_getElem? (i := 115) rfl))) rfl)
theorem wn_W_send : Cond.instanceMethod y_W_send ∈ fr_ws := (fr_in (List.mem_append_right _ (List.mem_append_left _ (List.mem_of_getElem? (i := 114) (by decide +kernel)))) rfl)
theorem wl_W_send : Cond.selects y_W_send.cls y_W_send y_W_send ∈ fr_ws := fr_inp (y := y_W_send) (n := 9) (List.mem_append_left _ (List.mem_of_getElem? (i := 9) rfl))
theorem mv_W_47 : fr_mv R_W 47 y_W_send c_W_send 4 none 2 := ⟨⟨(fr_in (List.mem_append_right _ (List.mem_append_left _ (List.mem_of_getElem? (i := 112) (by decide +kernel)))) rfl), wi_5, wc_W_send, by decide, by decide, by decide +kernel⟩, wn_W_send, wl_W_send⟩
theorem fl_W_50 : fr_fl R_W 50 5 5 .int false := ⟨fr_q5, ty_W, rfl, cf_W, by decide, (fr_in (List.mem_append_left _ (List.mem_of_getElem? (i := 173) (by decide +kernel))) rfl), rfl, rfl, rfl⟩
theorem fl_W_53 : fr_fl R_W 53 5 6 .int false := ⟨fr_q5, ty_W, rfl, cf_W, by decide, (fr_in (List.mem_append_left _ (List.mem_of_getElem? (i := 175) (by decide +kernel))) rfl), rfl, rfl, rfl⟩
theorem ms_W_56 : fr_ms R_W 56 y_A_fill c_A_fill 4 none 2 := ⟨⟨(fr_in (List.mem_append_right _ (List.mem_append_left _ (List.mem_of_getElem? (i := 172) (by decide +kernel)))) rfl), wi_7, wc_A_fill, by decide, by decide, by decide +kernel⟩, (fr_in (List.mem_append_right _ (List.mem_append_left _ (List.mem_of_getElem? (i := 166) (by decide +kernel)))) rfl)⟩
theorem nc_L_7 : fr_nc R_L 7 0 fr_q0 ty_F := ⟨(fr_in (List.mem_append_left _ (List.mem_of_getElem? (i := 10) (by decide +kernel))) rfl), (fr_in (List.mem_append_left _ (List.mem_of_getElem? (i := 11) (by decide +kernel))) rfl), wi_1, rfl, cf_F⟩
theorem wc_F_init : Cond.code y_F_init c_F_init 1 none ∈ fr_ws := (fr_in (List.mem_append_left _ (List.mem_of_getElem? (i := 14) rfl)) rfl)
theorem wn_F_init : Cond.instanceMethod y_F_init ∈ fr_ws := (fr_in (List.mem_append_left _ (List.mem_of_getElem? (i := 13) (by decide +kernel))) rfl)
theorem mi_L_9 : fr_mi R_L 9 y_F_init c_F_init 1 0 := ⟨⟨(fr_in (List.mem_append_left _ (List.mem_of_getElem? (i := 12) (by decide +kernel))) rfl), wi_1, wc_F_init, by decide, by decide, by decide +kernel⟩, wn_F_init, rfl⟩
theorem nc_L_10 : fr_nc R_L 10 6 fr_q6 ty_O := ⟨(fr_in (List.mem_append_right _ (List.mem_append_left _ (List.mem_of_getElem? (i := 230) (by decide +kernel)))) rfl), (fr_in (List.mem_append_right _ (List.mem_append_left _ (List.mem_of_getElem? (i := 231) (by decide +kernel)))) rfl), wi_6, rfl, cf_O⟩
theorem wc_O_init : Cond.code y_O_init c_O_init 1 none ∈ fr_ws := (fr_in (List.mem_append_right _ (List.mem_append_left _ (List.mem_of_getElem? (i := 234) rfl))) rfl)
theorem wn_O_init : Cond.instanceMethod y_O_init ∈ fr_ws := (fr_in (List.mem_append_right _ (List.mem_append_left _ (List.mem_of_getElem? (i := 233) (by decide +kernel)))) rfl)
theorem mi_L_12 : fr_mi R_L 12 y_O_init c_O_init 1 0 := ⟨⟨(fr_in (List.mem_append_right _ (List.mem_append_left _ (List.mem_of_getElem? (i := 232) (by decide +kernel)))) rfl), wi_6, wc_O_init, by decide, by decide, by decide +kernel⟩, wn_O_init, rfl⟩
theorem wc_F_relay : Cond.code y_F_relay c_F_relay 2 (some .int) ∈ fr_ws := (fr_in (List.mem_append_left _ (List.mem_of_getElem? (i := 66) rfl)) rfl)
theorem wn_F_relay : Cond.instanceMethod y_F_relay ∈ fr_ws := (fr_in (List.mem_append_left _ (List.mem_of_getElem? (i := 64) (by decide +kernel))) rfl)
theorem wl_F_relay : Cond.selects y_F_relay.cls y_F_relay y_F_relay ∈ fr_ws := (fr_in (List.mem_append_left _ (List.mem_of_getElem? (i := 65) (by decide +kernel))) rfl)
theorem mv_L_13 : fr_mv R_L 13 y_F_relay c_F_relay 2 (some .int) 1 := ⟨⟨(fr_in (List.mem_append_left _ (List.mem_of_getElem? (i := 63) (by decide +kernel))) rfl), wi_1, wc_F_relay, by decide, by decide, by decide +kernel⟩, wn_F_relay, wl_F_relay⟩
theorem wc_O_relay : Cond.code y_O_relay c_O_relay 2 (some .int) ∈ fr_ws := (fr_in (List.mem_append_right _ (List.mem_append_right _ (List.mem_append_left _ (List.mem_of_getElem? (i := 112) rfl)))) rfl)
theorem wn_O_relay : Cond.instanceMethod y_O_relay ∈ fr_ws := (fr_in (List.mem_append_right _ (List.mem_append_right _ (List.mem_append_left _ (List.mem_of_getElem? (i := 110) (by decide +kernel))))) rfl)
theorem wl_O_relay : Cond.selects y_O_relay.cls y_O_relay y_O_relay ∈ fr_ws := (fr_in (List.mem_append_right _ (List.mem_append_right _ (List.mem_append_left _ (List.mem_of_getElem? (i := 111) (by decide +kernel))))) rfl)
theorem mv_L_17 : fr_mv R_L 17 y_O_relay c_O_relay 2 (some .int) 1 := ⟨⟨(fr_in (List.mem_append_right _ (List.mem_append_right _ (List.mem_append_left _ (List.mem_of_getElem? (i := 109) (by decide +kernel))))) rfl), wi_6, wc_O_relay, by decide, by decide, by decide +kernel⟩, wn_O_relay, wl_O_relay⟩
theorem wc_F_settings : Cond.code y_F_settings c_F_settings 5 (some .boolean) ∈ fr_ws := (fr_in (List.mem_append_left _ (List.mem_of_getElem? (i := 233) rfl)) rfl)
theorem wn_F_settings : Cond.instanceMethod y_F_settings ∈ fr_ws := (fr_in (List.mem_append_left _ (List.mem_of_getElem? (i := 231) (by decide +kernel))) rfl)
theorem wl_F_settings : Cond.selects y_F_settings.cls y_F_settings y_F_settings ∈ fr_ws := (fr_in (List.mem_append_left _ (List.mem_of_getElem? (i := 232) (by decide +kernel))) rfl)
theorem mv_L_18 : fr_mv R_L 18 y_F_settings c_F_settings 5 (some .boolean) 4 := ⟨⟨(fr_in (List.mem_append_left _ (List.mem_of_getElem? (i := 230) (by decide +kernel))) rfl), wi_1, wc_F_settings, by decide, by decide, by decide +kernel⟩, wn_F_settings, wl_F_settings⟩
theorem wc_O_settings : Cond.code y_O_settings c_O_settings 5 (some .boolean) ∈ fr_ws := (fr_in (List.mem_append_right _ (List.mem_append_right _ (List.mem_append_left _ (List.mem_of_getElem? (i := 120) rfl)))) rfl)
theorem wn_O_settings : Cond.instanceMethod y_O_settings ∈ fr_ws := (fr_in (List.mem_append_right _ (List.mem_append_right _ (List.mem_append_left _ (List.mem_of_getElem? (i := 118) (by decide +kernel))))) rfl)
theorem wl_O_settings : Cond.selects y_O_settings.cls y_O_settings y_O_settings ∈ fr_ws := (fr_in (List.mem_append_right _ (List.mem_append_right _ (List.mem_append_left _ (List.mem_of_getElem? (i := 119) (by decide +kernel))))) rfl)
theorem mv_L_22 : fr_mv R_L 22 y_O_settings c_O_settings 5 (some .boolean) 4 := ⟨⟨(fr_in (List.mem_append_right _ (List.mem_append_right _ (List.mem_append_left _ (List.mem_of_getElem? (i := 117) (by decide +kernel))))) rfl), wi_6, wc_O_settings, by decide, by decide, by decide +kernel⟩, wn_O_settings, wl_O_settings⟩
theorem wc_F_options : Cond.code y_F_options c_F_options 6 (some .boolean) ∈ fr_ws := (fr_in (List.mem_append_right _ (List.mem_append_left _ (List.mem_of_getElem? (i := 4) rfl))) rfl)
theorem wn_F_options : Cond.instanceMethod y_F_options ∈ fr_ws := (fr_in (List.mem_append_right _ (List.mem_append_left _ (List.mem_of_getElem? (i := 2) (by decide +kernel)))) rfl)
theorem wl_F_options : Cond.selects y_F_options.cls y_F_options y_F_options ∈ fr_ws := (fr_in (List.mem_append_right _ (List.mem_append_left _ (List.mem_of_getElem? (i := 3) (by decide +kernel)))) rfl)
theorem mv_L_23 : fr_mv R_L 23 y_F_options c_F_options 6 (some .boolean) 4 := ⟨⟨(fr_in (List.mem_append_right _ (List.mem_append_left _ (List.mem_of_getElem? (i := 1) (by decide +kernel)))) rfl), wi_1, wc_F_options, by decide, by decide, by decide +kernel⟩, wn_F_options, wl_F_options⟩
theorem wc_O_options : Cond.code y_O_options c_O_options 5 (some .boolean) ∈ fr_ws := (fr_in (List.mem_append_right _ (List.mem_append_right _ (List.mem_append_left _ (List.mem_of_getElem? (i := 124) rfl)))) rfl)
theorem wn_O_options : Cond.instanceMethod y_O_options ∈ fr_ws := (fr_in (List.mem_append_right _ (List.mem_append_right _ (List.mem_append_left _ (List.mem_of_getElem? (i := 122) (by decide +kernel))))) rfl)
theorem wl_O_options : Cond.selects y_O_options.cls y_O_options y_O_options ∈ fr_ws := (fr_in (List.mem_append_right _ (List.mem_append_right _ (List.mem_append_left _ (List.mem_of_getElem? (i := 123) (by decide +kernel))))) rfl)
theorem mv_L_27 : fr_mv R_L 27 y_O_options c_O_options 5 (some .boolean) 4 := ⟨⟨(fr_in (List.mem_append_right _ (List.mem_append_right _ (List.mem_append_left _ (List.mem_of_getElem? (i := 121) (by decide +kernel))))) rfl), wi_6, wc_O_options, by decide, by decide, by decide +kernel⟩, wn_O_options, wl_O_options⟩
theorem wc_F_load : Cond.code y_F_load c_F_load 3 (some .boolean) ∈ fr_ws := (fr_in (List.mem_append_right _ (List.mem_append_left _ (List.mem_of_getElem? (i := 8) rfl))) rfl)
theorem wn_F_load : Cond.instanceMethod y_F_load ∈ fr_ws := (fr_in (List.mem_append_right _ (List.mem_append_left _ (List.mem_of_getElem? (i := 6) (by decide +kernel)))) rfl)
theorem wl_F_load : Cond.selects y_F_load.cls y_F_load y_F_load ∈ fr_ws := (fr_in (List.mem_append_right _ (List.mem_append_left _ (List.mem_of_getElem? (i := 7) (by decide +kernel)))) rfl)
theorem mv_L_28 : fr_mv R_L 28 y_F_load c_F_load 3 (some .boolean) 2 := ⟨⟨(fr_in (List.mem_append_right _ (List.mem_append_left _ (List.mem_of_getElem? (i := 5) (by decide +kernel)))) rfl), wi_1, wc_F_load, by decide, by decide, by decide +kernel⟩, wn_F_load, wl_F_load⟩
theorem wc_O_load : Cond.code y_O_load c_O_load 3 (some .boolean) ∈ fr_ws := (fr_in (List.mem_append_right _ (List.mem_append_right _ (List.mem_append_left _ (List.mem_of_getElem? (i := 128) rfl)))) rfl)
theorem wn_O_load : Cond.instanceMethod y_O_load ∈ fr_ws := (fr_in (List.mem_append_right _ (List.mem_append_right _ (List.mem_append_left _ (List.mem_of_getElem? (i := 126) (by decide +kernel))))) rfl)
theorem wl_O_load : Cond.selects y_O_load.cls y_O_load y_O_load ∈ fr_ws := (fr_in (List.mem_append_right _ (List.mem_append_right _ (List.mem_append_left _ (List.mem_of_getElem? (i := 127) (by decide +kernel))))) rfl)
theorem mv_L_32 : fr_mv R_L 32 y_O_load c_O_load 3 (some .boolean) 2 := ⟨⟨(fr_in (List.mem_append_right _ (List.mem_append_right _ (List.mem_append_left _ (List.mem_of_getElem? (i := 125) (by decide +kernel))))) rfl), wi_6, wc_O_load, by decide, by decide, by decide +kernel⟩, wn_O_load, wl_O_load⟩
theorem wc_F_fault : Cond.code y_F_fault c_F_fault 3 (some .boolean) ∈ fr_ws := (fr_in (List.mem_append_right _ (List.mem_append_left _ (List.mem_of_getElem? (i := 12) rfl))) rfl)
theorem wn_F_fault : Cond.instanceMethod y_F_fault ∈ fr_ws := (fr_in (List.mem_append_right _ (List.mem_append_left _ (List.mem_of_getElem? (i := 10) (by decide +kernel)))) rfl)
theorem wl_F_fault : Cond.selects y_F_fault.cls y_F_fault y_F_fault ∈ fr_ws := (fr_in (List.mem_append_right _ (List.mem_append_left _ (List.mem_of_getElem? (i := 11) (by decide +kernel)))) rfl)
theorem mv_L_33 : fr_mv R_L 33 y_F_fault c_F_fault 3 (some .boolean) 2 := ⟨⟨(fr_in (List.mem_append_right _ (List.mem_append_left _ (List.mem_of_getElem? (i := 9) (by decide +kernel)))) rfl), wi_1, wc_F_fault, by decide, by decide, by decide +kernel⟩, wn_F_fault, wl_F_fault⟩
theorem wc_O_fault : Cond.code y_O_fault c_O_fault 3 (some .boolean) ∈ fr_ws := (fr_in (List.mem_append_right _ (List.mem_append_right _ (List.mem_append_left _ (List.mem_of_getElem? (i := 132) rfl)))) rfl)
theorem wn_O_fault : Cond.instanceMethod y_O_fault ∈ fr_ws := (fr_in (List.mem_append_right _ (List.mem_append_right _ (List.mem_append_left _ (List.mem_of_getElem? (i := 130) (by decide +kernel))))) rfl)
theorem wl_O_fault : Cond.selects y_O_fault.cls y_O_fault y_O_fault ∈ fr_ws := (fr_in (List.mem_append_right _ (List.mem_append_right _ (List.mem_append_left _ (List.mem_of_getElem? (i := 131) (by decide +kernel))))) rfl)
theorem mv_L_36 : fr_mv R_L 36 y_O_fault c_O_fault 3 (some .boolean) 2 := ⟨⟨(fr_in (List.mem_append_right _ (List.mem_append_right _ (List.mem_append_left _ (List.mem_of_getElem? (i := 129) (by decide +kernel))))) rfl), wi_6, wc_O_fault, by decide, by decide, by decide +kernel⟩, wn_O_fault, wl_O_fault⟩
theorem wc_F_jam : Cond.code y_F_jam c_F_jam 3 (some .boolean) ∈ fr_ws := (fr_in (List.mem_append_right _ (List.mem_append_left _ (List.mem_of_getElem? (i := 16) rfl))) rfl)
theorem wn_F_jam : Cond.instanceMethod y_F_jam ∈ fr_ws := (fr_in (List.mem_append_right _ (List.mem_append_left _ (List.mem_of_getElem? (i := 14) (by decide +kernel)))) rfl)
theorem wl_F_jam : Cond.selects y_F_jam.cls y_F_jam y_F_jam ∈ fr_ws := (fr_in (List.mem_append_right _ (List.mem_append_left _ (List.mem_of_getElem? (i := 15) (by decide +kernel)))) rfl)
theorem mv_L_37 : fr_mv R_L 37 y_F_jam c_F_jam 3 (some .boolean) 2 := ⟨⟨(fr_in (List.mem_append_right _ (List.mem_append_left _ (List.mem_of_getElem? (i := 13) (by decide +kernel)))) rfl), wi_1, wc_F_jam, by decide, by decide, by decide +kernel⟩, wn_F_jam, wl_F_jam⟩
theorem wc_O_jam : Cond.code y_O_jam c_O_jam 3 (some .boolean) ∈ fr_ws := (fr_in (List.mem_append_right _ (List.mem_append_right _ (List.mem_append_left _ (List.mem_of_getElem? (i := 136) rfl)))) rfl)
theorem wn_O_jam : Cond.instanceMethod y_O_jam ∈ fr_ws := (fr_in (List.mem_append_right _ (List.mem_append_right _ (List.mem_append_left _ (List.mem_of_getElem? (i := 134) (by decide +kernel))))) rfl)
theorem wl_O_jam : Cond.selects y_O_jam.cls y_O_jam y_O_jam ∈ fr_ws := (fr_in (List.mem_append_right _ (List.mem_append_right _ (List.mem_append_left _ (List.mem_of_getElem? (i := 135) (by decide +kernel))))) rfl)
theorem mv_L_41 : fr_mv R_L 41 y_O_jam c_O_jam 3 (some .boolean) 2 := ⟨⟨(fr_in (List.mem_append_right _ (List.mem_append_right _ (List.mem_append_left _ (List.mem_of_getElem? (i := 133) (by decide +kernel))))) rfl), wi_6, wc_O_jam, by decide, by decide, by decide +kernel⟩, wn_O_jam, wl_O_jam⟩
theorem wc_F_line : Cond.code y_F_line c_F_line 3 (some .boolean) ∈ fr_ws := (fr_in (List.mem_append_right _ (List.mem_append_left _ (List.mem_of_getElem? (i := 20) rfl))) rfl)
theorem wn_F_line : Cond.instanceMethod y_F_line ∈ fr_ws := (fr_in (List.mem_append_right _ (List.mem_append_left _ (List.mem_of_getElem? (i := 18) (by decide +kernel)))) rfl)
theorem wl_F_line : Cond.selects y_F_line.cls y_F_line y_F_line ∈ fr_ws := (fr_in (List.mem_append_right _ (List.mem_append_left _ (List.mem_of_getElem? (i := 19) (by decide +kernel)))) rfl)
theorem mv_L_42 : fr_mv R_L 42 y_F_line c_F_line 3 (some .boolean) 2 := ⟨⟨(fr_in (List.mem_append_right _ (List.mem_append_left _ (List.mem_of_getElem? (i := 17) (by decide +kernel)))) rfl), wi_1, wc_F_line, by decide, by decide, by decide +kernel⟩, wn_F_line, wl_F_line⟩
theorem wc_O_line : Cond.code y_O_line c_O_line 3 (some .boolean) ∈ fr_ws := (fr_in (List.mem_append_right _ (List.mem_append_right _ (List.mem_append_left _ (List.mem_of_getElem? (i := 140) rfl)))) rfl)
theorem wn_O_line : Cond.instanceMethod y_O_line ∈ fr_ws := (fr_in (List.mem_append_right _ (List.mem_append_right _ (List.mem_append_left _ (List.mem_of_getElem? (i := 138) (by decide +kernel))))) rfl)
theorem wl_O_line : Cond.selects y_O_line.cls y_O_line y_O_line ∈ fr_ws := (fr_in (List.mem_append_right _ (List.mem_append_right _ (List.mem_append_left _ (List.mem_of_getElem? (i := 139) (by decide +kernel))))) rfl)
theorem mv_L_45 : fr_mv R_L 45 y_O_line c_O_line 3 (some .boolean) 2 := ⟨⟨(fr_in (List.mem_append_right _ (List.mem_append_right _ (List.mem_append_left _ (List.mem_of_getElem? (i := 137) (by decide +kernel))))) rfl), wi_6, wc_O_line, by decide, by decide, by decide +kernel⟩, wn_O_line, wl_O_line⟩
theorem wc_F_operate : Cond.code y_F_operate c_F_operate 3 (some .boolean) ∈ fr_ws := (fr_in (List.mem_append_right _ (List.mem_append_left _ (List.mem_of_getElem? (i := 24) rfl))) rfl)
theorem wn_F_operate : Cond.instanceMethod y_F_operate ∈ fr_ws := (fr_in (List.mem_append_right _ (List.mem_append_left _ (List.mem_of_getElem? (i := 22) (by decide +kernel)))) rfl)
theorem wl_F_operate : Cond.selects y_F_operate.cls y_F_operate y_F_operate ∈ fr_ws := (fr_in (List.mem_append_right _ (List.mem_append_left _ (List.mem_of_getElem? (i := 23) (by decide +kernel)))) rfl)
theorem mv_L_46 : fr_mv R_L 46 y_F_operate c_F_operate 3 (some .boolean) 2 := ⟨⟨(fr_in (List.mem_append_right _ (List.mem_append_left _ (List.mem_of_getElem? (i := 21) (by decide +kernel)))) rfl), wi_1, wc_F_operate, by decide, by decide, by decide +kernel⟩, wn_F_operate, wl_F_operate⟩
theorem wc_O_operate : Cond.code y_O_operate c_O_operate 3 (some .boolean) ∈ fr_ws := (fr_in (List.mem_append_right _ (List.mem_append_right _ (List.mem_append_left _ (List.mem_of_getElem? (i := 144) rfl)))) rfl)
theorem wn_O_operate : Cond.instanceMethod y_O_operate ∈ fr_ws := (fr_in (List.mem_append_right _ (List.mem_append_right _ (List.mem_append_left _ (List.mem_of_getElem? (i := 142) (by decide +kernel))))) rfl)
theorem wl_O_operate : Cond.selects y_O_operate.cls y_O_operate y_O_operate ∈ fr_ws := (fr_in (List.mem_append_right _ (List.mem_append_right _ (List.mem_append_left _ (List.mem_of_getElem? (i := 143) (by decide +kernel))))) rfl)
theorem mv_L_49 : fr_mv R_L 49 y_O_operate c_O_operate 3 (some .boolean) 2 := ⟨⟨(fr_in (List.mem_append_right _ (List.mem_append_right _ (List.mem_append_left _ (List.mem_of_getElem? (i := 141) (by decide +kernel))))) rfl), wi_6, wc_O_operate, by decide, by decide, by decide +kernel⟩, wn_O_operate, wl_O_operate⟩
theorem wc_F_run : Cond.code y_F_run c_F_run 3 (some .int) ∈ fr_ws := (fr_in (List.mem_append_right _ (List.mem_append_left _ (List.mem_of_getElem? (i := 32) rfl))) rfl)
theorem wn_F_run : Cond.instanceMethod y_F_run ∈ fr_ws := (fr_in (List.mem_append_right _ (List.mem_append_left _ (List.mem_of_getElem? (i := 30) (by decide +kernel)))) rfl)
theorem wl_F_run : Cond.selects y_F_run.cls y_F_run y_F_run ∈ fr_ws := (fr_in (List.mem_append_right _ (List.mem_append_left _ (List.mem_of_getElem? (i := 31) (by decide +kernel)))) rfl)
theorem mv_L_50 : fr_mv R_L 50 y_F_run c_F_run 3 (some .int) 1 := ⟨⟨(fr_in (List.mem_append_right _ (List.mem_append_left _ (List.mem_of_getElem? (i := 29) (by decide +kernel)))) rfl), wi_1, wc_F_run, by decide, by decide, by decide +kernel⟩, wn_F_run, wl_F_run⟩
theorem wc_O_run : Cond.code y_O_run c_O_run 3 (some .int) ∈ fr_ws := (fr_in (List.mem_append_right _ (List.mem_append_right _ (List.mem_append_left _ (List.mem_of_getElem? (i := 148) rfl)))) rfl)
theorem wn_O_run : Cond.instanceMethod y_O_run ∈ fr_ws := (fr_in (List.mem_append_right _ (List.mem_append_right _ (List.mem_append_left _ (List.mem_of_getElem? (i := 146) (by decide +kernel))))) rfl)
theorem wl_O_run : Cond.selects y_O_run.cls y_O_run y_O_run ∈ fr_ws := (fr_in (List.mem_append_right _ (List.mem_append_right _ (List.mem_append_left _ (List.mem_of_getElem? (i := 147) (by decide +kernel))))) rfl)
theorem mv_L_53 : fr_mv R_L 53 y_O_run c_O_run 3 (some .int) 1 := ⟨⟨(fr_in (List.mem_append_right _ (List.mem_append_right _ (List.mem_append_left _ (List.mem_of_getElem? (i := 145) (by decide +kernel))))) rfl), wi_6, wc_O_run, by decide, by decide, by decide +kernel⟩, wn_O_run, wl_O_run⟩
theorem wc_F_crash : Cond.code y_F_crash c_F_crash 2 (some .int) ∈ fr_ws := (fr_in (List.mem_append_right _ (List.mem_append_left _ (List.mem_of_getElem? (i := 160) rfl))) rfl)
theorem wn_F_crash : Cond.instanceMethod y_F_crash ∈ fr_ws := (fr_in (List.mem_append_right _ (List.mem_append_left _ (List.mem_of_getElem? (i := 158) (by decide +kernel)))) rfl)
theorem wl_F_crash : Cond.selects y_F_crash.cls y_F_crash y_F_crash ∈ fr_ws := (fr_in (List.mem_append_right _ (List.mem_append_left _ (List.mem_of_getElem? (i := 159) (by decide +kernel)))) rfl)
theorem mv_L_54 : fr_mv R_L 54 y_F_crash c_F_crash 2 (some .int) 0 := ⟨⟨(fr_in (List.mem_append_right _ (List.mem_append_left _ (List.mem_of_getElem? (i := 157) (by decide +kernel)))) rfl), wi_1, wc_F_crash, by decide, by decide, by decide +kernel⟩, wn_F_crash, wl_F_crash⟩
theorem wc_O_crash : Cond.code y_O_crash c_O_crash 4 (some .int) ∈ fr_ws := (fr_in (List.mem_append_right _ (List.mem_append_right _ (List.mem_append_left _ (List.mem_of_getElem? (i := 203) rfl)))) rfl)
theorem wn_O_crash : Cond.instanceMethod y_O_crash ∈ fr_ws := (fr_in (List.mem_append_right _ (List.mem_append_right _ (List.mem_append_left _ (List.mem_of_getElem? (i := 201) (by decide +kernel))))) rfl)
theorem wl_O_crash : Cond.selects y_O_crash.cls y_O_crash y_O_crash ∈ fr_ws := (fr_in (List.mem_append_right _ (List.mem_append_right _ (List.mem_append_left _ (List.mem_of_getElem? (i := 202) (by decide +kernel))))) rfl)
theorem mv_L_58 : fr_mv R_L 58 y_O_crash c_O_crash 4 (some .int) 0 := ⟨⟨(fr_in (List.mem_append_right _ (List.mem_append_right _ (List.mem_append_left _ (List.mem_of_getElem? (i := 200) (by decide +kernel))))) rfl), wi_6, wc_O_crash, by decide, by decide, by decide +kernel⟩, wn_O_crash, wl_O_crash⟩
theorem wc_F_time : Cond.code y_F_time c_F_time 1 (some .int) ∈ fr_ws := (fr_in (List.mem_append_right _ (List.mem_append_left _ (List.mem_of_getElem? (i := 180) rfl))) rfl)
theorem wn_F_time : Cond.instanceMethod y_F_time ∈ fr_ws := (fr_in (List.mem_append_right _ (List.mem_append_left _ (List.mem_of_getElem? (i := 178) (by decide +kernel)))) rfl)
theorem wl_F_time : Cond.selects y_F_time.cls y_F_time y_F_time ∈ fr_ws := (fr_in (List.mem_append_right _ (List.mem_append_left _ (List.mem_of_getElem? (i := 179) (by decide +kernel)))) rfl)
theorem mv_L_59 : fr_mv R_L 59 y_F_time c_F_time 1 (some .int) 0 := ⟨⟨(fr_in (List.mem_append_right _ (List.mem_append_left _ (List.mem_of_getElem? (i := 177) (by decide +kernel)))) rfl), wi_1, wc_F_time, by decide, by decide, by decide +kernel⟩, wn_F_time, wl_F_time⟩
theorem wc_O_time : Cond.code y_O_time c_O_time 1 (some .int) ∈ fr_ws := (fr_in (List.mem_append_right _ (List.mem_append_right _ (List.mem_append_left _ (List.mem_of_getElem? (i := 207) rfl)))) rfl)
theorem wn_O_time : Cond.instanceMethod y_O_time ∈ fr_ws := (fr_in (List.mem_append_right _ (List.mem_append_right _ (List.mem_append_left _ (List.mem_of_getElem? (i := 205) (by decide +kernel))))) rfl)
theorem wl_O_time : Cond.selects y_O_time.cls y_O_time y_O_time ∈ fr_ws := (fr_in (List.mem_append_right _ (List.mem_append_right _ (List.mem_append_left _ (List.mem_of_getElem? (i := 206) (by decide +kernel))))) rfl)
theorem mv_L_62 : fr_mv R_L 62 y_O_time c_O_time 1 (some .int) 0 := ⟨⟨(fr_in (List.mem_append_right _ (List.mem_append_right _ (List.mem_append_left _ (List.mem_of_getElem? (i := 204) (by decide +kernel))))) rfl), wi_6, wc_O_time, by decide, by decide, by decide +kernel⟩, wn_O_time, wl_O_time⟩
theorem wc_F_current : Cond.code y_F_current c_F_current 2 (some .int) ∈ fr_ws := (fr_in (List.mem_append_right _ (List.mem_append_left _ (List.mem_of_getElem? (i := 184) rfl))) rfl)
theorem wn_F_current : Cond.instanceMethod y_F_current ∈ fr_ws := (fr_in (List.mem_append_right _ (List.mem_append_left _ (List.mem_of_getElem? (i := 182) (by decide +kernel)))) rfl)
theorem wl_F_current : Cond.selects y_F_current.cls y_F_current y_F_current ∈ fr_ws := (fr_in (List.mem_append_right _ (List.mem_append_left _ (List.mem_of_getElem? (i := 183) (by decide +kernel)))) rfl)
theorem mv_L_63 : fr_mv R_L 63 y_F_current c_F_current 2 (some .int) 1 := ⟨⟨(fr_in (List.mem_append_right _ (List.mem_append_left _ (List.mem_of_getElem? (i := 181) (by decide +kernel)))) rfl), wi_1, wc_F_current, by decide, by decide, by decide +kernel⟩, wn_F_current, wl_F_current⟩
theorem wc_O_current : Cond.code y_O_current c_O_current 2 (some .int) ∈ fr_ws := (fr_in (List.mem_append_right _ (List.mem_append_right _ (List.mem_append_left _ (List.mem_of_getElem? (i := 211) rfl)))) rfl)
theorem wn_O_current : Cond.instanceMethod y_O_current ∈ fr_ws := (fr_in (List.mem_append_right _ (List.mem_append_right _ (List.mem_append_left _ (List.mem_of_getElem? (i := 209) (by decide +kernel))))) rfl)
theorem wl_O_current : Cond.selects y_O_current.cls y_O_current y_O_current ∈ fr_ws := (fr_in (List.mem_append_right _ (List.mem_append_right _ (List.mem_append_left _ (List.mem_of_getElem? (i := 210) (by decide +kernel))))) rfl)
theorem mv_L_66 : fr_mv R_L 66 y_O_current c_O_current 2 (some .int) 1 := ⟨⟨(fr_in (List.mem_append_right _ (List.mem_append_right _ (List.mem_append_left _ (List.mem_of_getElem? (i := 208) (by decide +kernel))))) rfl), wi_6, wc_O_current, by decide, by decide, by decide +kernel⟩, wn_O_current, wl_O_current⟩
theorem wc_F_state : Cond.code y_F_state c_F_state 3 (some .int) ∈ fr_ws := (fr_in (List.mem_append_right _ (List.mem_append_left _ (List.mem_of_getElem? (i := 188) rfl))) rfl)
theorem wn_F_state : Cond.instanceMethod y_F_state ∈ fr_ws := (fr_in (List.mem_append_right _ (List.mem_append_left _ (List.mem_of_getElem? (i := 186) (by decide +kernel)))) rfl)
theorem wl_F_state : Cond.selects y_F_state.cls y_F_state y_F_state ∈ fr_ws := (fr_in (List.mem_append_right _ (List.mem_append_left _ (List.mem_of_getElem? (i := 187) (by decide +kernel)))) rfl)
theorem mv_L_67 : fr_mv R_L 67 y_F_state c_F_state 3 (some .int) 1 := ⟨⟨(fr_in (List.mem_append_right _ (List.mem_append_left _ (List.mem_of_getElem? (i := 185) (by decide +kernel)))) rfl), wi_1, wc_F_state, by decide, by decide, by decide +kernel⟩, wn_F_state, wl_F_state⟩
theorem wc_O_state : Cond.code y_O_state c_O_state 4 (some .int) ∈ fr_ws := (fr_in (List.mem_append_right _ (List.mem_append_right _ (List.mem_append_left _ (List.mem_of_getElem? (i := 215) rfl)))) rfl)
theorem wn_O_state : Cond.instanceMethod y_O_state ∈ fr_ws := (fr_in (List.mem_append_right _ (List.mem_append_right _ (List.mem_append_left _ (List.mem_of_getElem? (i := 213) (by decide +kernel))))) rfl)
theorem wl_O_state : Cond.selects y_O_state.cls y_O_state y_O_state ∈ fr_ws := (fr_in (List.mem_append_right _ (List.mem_append_right _ (List.mem_append_left _ (List.mem_of_getElem? (i := 214) (by decide +kernel))))) rfl)
theorem mv_L_70 : fr_mv R_L 70 y_O_state c_O_state 4 (some .int) 1 := ⟨⟨(fr_in (List.mem_append_right _ (List.mem_append_right _ (List.mem_append_left _ (List.mem_of_getElem? (i := 212) (by decide +kernel))))) rfl), wi_6, wc_O_state, by decide, by decide, by decide +kernel⟩, wn_O_state, wl_O_state⟩
theorem wc_F_sum : Cond.code y_F_sum c_F_sum 2 (some .long) ∈ fr_ws := (fr_in (List.mem_append_right _ (List.mem_append_left _ (List.mem_of_getElem? (i := 196) rfl))) rfl)
theorem wn_F_sum : Cond.instanceMethod y_F_sum ∈ fr_ws := (fr_in (List.mem_append_right _ (List.mem_append_left _ (List.mem_of_getElem? (i := 194) (by decide +kernel)))) rfl)
theorem wl_F_sum : Cond.selects y_F_sum.cls y_F_sum y_F_sum ∈ fr_ws := (fr_in (List.mem_append_right _ (List.mem_append_left _ (List.mem_of_getElem? (i := 195) (by decide +kernel)))) rfl)
theorem mv_L_71 : fr_mv R_L 71 y_F_sum c_F_sum 2 (some .long) 1 := ⟨⟨(fr_in (List.mem_append_right _ (List.mem_append_left _ (List.mem_of_getElem? (i := 193) (by decide +kernel)))) rfl), wi_1, wc_F_sum, by decide, by decide, by decide +kernel⟩, wn_F_sum, wl_F_sum⟩
theorem wc_O_sum : Cond.code y_O_sum c_O_sum 2 (some .long) ∈ fr_ws := (fr_in (List.mem_append_right _ (List.mem_append_right _ (List.mem_append_left _ (List.mem_of_getElem? (i := 219) rfl)))) rfl)
theorem wn_O_sum : Cond.instanceMethod y_O_sum ∈ fr_ws := (fr_in (List.mem_append_right _ (List.mem_append_right _ (List.mem_append_left _ (List.mem_of_getElem? (i := 217) (by decide +kernel))))) rfl)
theorem wl_O_sum : Cond.selects y_O_sum.cls y_O_sum y_O_sum ∈ fr_ws := (fr_in (List.mem_append_right _ (List.mem_append_right _ (List.mem_append_left _ (List.mem_of_getElem? (i := 218) (by decide +kernel))))) rfl)
theorem mv_L_75 : fr_mv R_L 75 y_O_sum c_O_sum 2 (some .long) 1 := ⟨⟨(fr_in (List.mem_append_right _ (List.mem_append_right _ (List.mem_append_left _ (List.mem_of_getElem? (i := 216) (by decide +kernel))))) rfl), wi_6, wc_O_sum, by decide, by decide, by decide +kernel⟩, wn_O_sum, wl_O_sum⟩
theorem wc_F_used : Cond.code y_F_used c_F_used 2 (some .int) ∈ fr_ws := (fr_in (List.mem_append_right _ (List.mem_append_left _ (List.mem_of_getElem? (i := 201) rfl))) rfl)
theorem wn_F_used : Cond.instanceMethod y_F_used ∈ fr_ws := (fr_in (List.mem_append_right _ (List.mem_append_left _ (List.mem_of_getElem? (i := 199) (by decide +kernel)))) rfl)
theorem wl_F_used : Cond.selects y_F_used.cls y_F_used y_F_used ∈ fr_ws := (fr_in (List.mem_append_right _ (List.mem_append_left _ (List.mem_of_getElem? (i := 200) (by decide +kernel)))) rfl)
theorem mv_L_76 : fr_mv R_L 76 y_F_used c_F_used 2 (some .int) 1 := ⟨⟨(fr_in (List.mem_append_right _ (List.mem_append_left _ (List.mem_of_getElem? (i := 198) (by decide +kernel)))) rfl), wi_1, wc_F_used, by decide, by decide, by decide +kernel⟩, wn_F_used, wl_F_used⟩
theorem wc_O_used : Cond.code y_O_used c_O_used 2 (some .int) ∈ fr_ws := (fr_in (List.mem_append_right _ (List.mem_append_right _ (List.mem_append_left _ (List.mem_of_getElem? (i := 224) rfl)))) rfl)
theorem wn_O_used : Cond.instanceMethod y_O_used ∈ fr_ws := (fr_in (List.mem_append_right _ (List.mem_append_right _ (List.mem_append_left _ (List.mem_of_getElem? (i := 222) (by decide +kernel))))) rfl)
theorem wl_O_used : Cond.selects y_O_used.cls y_O_used y_O_used ∈ fr_ws := (fr_in (List.mem_append_right _ (List.mem_append_right _ (List.mem_append_left _ (List.mem_of_getElem? (i := 223) (by decide +kernel))))) rfl)
theorem mv_L_79 : fr_mv R_L 79 y_O_used c_O_used 2 (some .int) 1 := ⟨⟨(fr_in (List.mem_append_right _ (List.mem_append_right _ (List.mem_append_left _ (List.mem_of_getElem? (i := 221) (by decide +kernel))))) rfl), wi_6, wc_O_used, by decide, by decide, by decide +kernel⟩, wn_O_used, wl_O_used⟩
theorem wc_F_changes : Cond.code y_F_changes c_F_changes 2 (some .int) ∈ fr_ws := (fr_in (List.mem_append_right _ (List.mem_append_left _ (List.mem_of_getElem? (i := 205) rfl))) rfl)
theorem wn_F_changes : Cond.instanceMethod y_F_changes ∈ fr_ws := (fr_in (List.mem_append_right _ (List.mem_append_left _ (List.mem_of_getElem? (i := 203) (by decide +kernel)))) rfl)
theorem wl_F_changes : Cond.selects y_F_changes.cls y_F_changes y_F_changes ∈ fr_ws := (fr_in (List.mem_append_right _ (List.mem_append_left _ (List.mem_of_getElem? (i := 204) (by decide +kernel)))) rfl)
theorem mv_L_80 : fr_mv R_L 80 y_F_changes c_F_changes 2 (some .int) 1 := ⟨⟨(fr_in (List.mem_append_right _ (List.mem_append_left _ (List.mem_of_getElem? (i := 202) (by decide +kernel)))) rfl), wi_1, wc_F_changes, by decide, by decide, by decide +kernel⟩, wn_F_changes, wl_F_changes⟩
theorem wc_O_changes : Cond.code y_O_changes c_O_changes 2 (some .int) ∈ fr_ws := (fr_in (List.mem_append_right _ (List.mem_append_right _ (List.mem_append_left _ (List.mem_of_getElem? (i := 228) rfl)))) rfl)
theorem wn_O_changes : Cond.instanceMethod y_O_changes ∈ fr_ws := (fr_in (List.mem_append_right _ (List.mem_append_right _ (List.mem_append_left _ (List.mem_of_getElem? (i := 226) (by decide +kernel))))) rfl)
theorem wl_O_changes : Cond.selects y_O_changes.cls y_O_changes y_O_changes ∈ fr_ws := (fr_in (List.mem_append_right _ (List.mem_append_right _ (List.mem_append_left _ (List.mem_of_getElem? (i := 227) (by decide +kernel))))) rfl)
theorem mv_L_83 : fr_mv R_L 83 y_O_changes c_O_changes 2 (some .int) 1 := ⟨⟨(fr_in (List.mem_append_right _ (List.mem_append_right _ (List.mem_append_left _ (List.mem_of_getElem? (i := 225) (by decide +kernel))))) rfl), wi_6, wc_O_changes, by decide, by decide, by decide +kernel⟩, wn_O_changes, wl_O_changes⟩
theorem wc_F_known : Cond.code y_F_known c_F_known 2 (some .int) ∈ fr_ws := (fr_in (List.mem_append_right _ (List.mem_append_left _ (List.mem_of_getElem? (i := 209) rfl))) rfl)
theorem wn_F_known : Cond.instanceMethod y_F_known ∈ fr_ws := (fr_in (List.mem_append_right _ (List.mem_append_left _ (List.mem_of_getElem? (i := 207) (by decide +kernel)))) rfl)
theorem wl_F_known : Cond.selects y_F_known.cls y_F_known y_F_known ∈ fr_ws := (fr_in (List.mem_append_right _ (List.mem_append_left _ (List.mem_of_getElem? (i := 208) (by decide +kernel)))) rfl)
theorem mv_L_84 : fr_mv R_L 84 y_F_known c_F_known 2 (some .int) 1 := ⟨⟨(fr_in (List.mem_append_right _ (List.mem_append_left _ (List.mem_of_getElem? (i := 206) (by decide +kernel)))) rfl), wi_1, wc_F_known, by decide, by decide, by decide +kernel⟩, wn_F_known, wl_F_known⟩
theorem wc_O_known : Cond.code y_O_known c_O_known 2 (some .int) ∈ fr_ws := (fr_in (List.mem_append_right _ (List.mem_append_right _ (List.mem_append_left _ (List.mem_of_getElem? (i := 232) rfl)))) rfl)
theorem wn_O_known : Cond.instanceMethod y_O_known ∈ fr_ws := (fr_in (List.mem_append_right _ (List.mem_append_right _ (List.mem_append_left _ (List.mem_of_getElem? (i := 230) (by decide +kernel))))) rfl)
theorem wl_O_known : Cond.selects y_O_known.cls y_O_known y_O_known ∈ fr_ws := (fr_in (List.mem_append_right _ (List.mem_append_right _ (List.mem_append_left _ (List.mem_of_getElem? (i := 231) (by decide +kernel))))) rfl)
theorem mv_L_87 : fr_mv R_L 87 y_O_known c_O_known 2 (some .int) 1 := ⟨⟨(fr_in (List.mem_append_right _ (List.mem_append_right _ (List.mem_append_left _ (List.mem_of_getElem? (i := 229) (by decide +kernel))))) rfl), wi_6, wc_O_known, by decide, by decide, by decide +kernel⟩, wn_O_known, wl_O_known⟩
theorem wc_F_effective : Cond.code y_F_effective c_F_effective 2 (some .int) ∈ fr_ws := (fr_in (List.mem_append_right _ (List.mem_append_left _ (List.mem_of_getElem? (i := 213) rfl))) rfl)
theorem wn_F_effective : Cond.instanceMethod y_F_effective ∈ fr_ws := (fr_in (List.mem_append_right _ (List.mem_append_left _ (List.mem_of_getElem? (i := 211) (by decide +kernel)))) rfl)
theorem wl_F_effective : Cond.selects y_F_effective.cls y_F_effective y_F_effective ∈ fr_ws := (fr_in (List.mem_append_right _ (List.mem_append_left _ (List.mem_of_getElem? (i := 212) (by decide +kernel)))) rfl)
theorem mv_L_88 : fr_mv R_L 88 y_F_effective c_F_effective 2 (some .int) 1 := ⟨⟨(fr_in (List.mem_append_right _ (List.mem_append_left _ (List.mem_of_getElem? (i := 210) (by decide +kernel)))) rfl), wi_1, wc_F_effective, by decide, by decide, by decide +kernel⟩, wn_F_effective, wl_F_effective⟩
theorem wc_O_effective : Cond.code y_O_effective c_O_effective 2 (some .int) ∈ fr_ws := (fr_in (List.mem_append_right _ (List.mem_append_right _ (List.mem_append_left _ (List.mem_of_getElem? (i := 236) rfl)))) rfl)
theorem wn_O_effective : Cond.instanceMethod y_O_effective ∈ fr_ws := (fr_in (List.mem_append_right _ (List.mem_append_right _ (List.mem_append_left _ (List.mem_of_getElem? (i := 234) (by decide +kernel))))) rfl)
theorem wl_O_effective : Cond.selects y_O_effective.cls y_O_effective y_O_effective ∈ fr_ws := (fr_in (List.mem_append_right _ (List.mem_append_right _ (List.mem_append_left _ (List.mem_of_getElem? (i := 235) (by decide +kernel))))) rfl)
theorem mv_L_91 : fr_mv R_L 91 y_O_effective c_O_effective 2 (some .int) 1 := ⟨⟨(fr_in (List.mem_append_right _ (List.mem_append_right _ (List.mem_append_left _ (List.mem_of_getElem? (i := 233) (by decide +kernel))))) rfl), wi_6, wc_O_effective, by decide, by decide, by decide +kernel⟩, wn_O_effective, wl_O_effective⟩
theorem wc_F_events : Cond.code y_F_events c_F_events 1 (some .int) ∈ fr_ws := (fr_in (List.mem_append_right _ (List.mem_append_left _ (List.mem_of_getElem? (i := 217) rfl))) rfl)
theorem wn_F_events : Cond.instanceMethod y_F_events ∈ fr_ws := (fr_in (List.mem_append_right _ (List.mem_append_left _ (List.mem_of_getElem? (i := 215) (by decide +kernel)))) rfl)
theorem wl_F_events : Cond.selects y_F_events.cls y_F_events y_F_events ∈ fr_ws := (fr_in (List.mem_append_right _ (List.mem_append_left _ (List.mem_of_getElem? (i := 216) (by decide +kernel)))) rfl)
theorem mv_L_92 : fr_mv R_L 92 y_F_events c_F_events 1 (some .int) 0 := ⟨⟨(fr_in (List.mem_append_right _ (List.mem_append_left _ (List.mem_of_getElem? (i := 214) (by decide +kernel)))) rfl), wi_1, wc_F_events, by decide, by decide, by decide +kernel⟩, wn_F_events, wl_F_events⟩
theorem wc_O_events : Cond.code y_O_events c_O_events 1 (some .int) ∈ fr_ws := (fr_in (List.mem_append_right _ (List.mem_append_right _ (List.mem_append_right _ (List.mem_of_getElem? (i := 0) rfl)))) rfl)
theorem wn_O_events : Cond.instanceMethod y_O_events ∈ fr_ws := (fr_in (List.mem_append_right _ (List.mem_append_right _ (List.mem_append_left _ (List.mem_of_getElem? (i := 238) (by decide +kernel))))) rfl)
theorem wl_O_events : Cond.selects y_O_events.cls y_O_events y_O_events ∈ fr_ws := (fr_in (List.mem_append_right _ (List.mem_append_right _ (List.mem_append_left _ (List.mem_of_getElem? (i := 239) (by decide +kernel))))) rfl)
theorem mv_L_95 : fr_mv R_L 95 y_O_events c_O_events 1 (some .int) 0 := ⟨⟨(fr_in (List.mem_append_right _ (List.mem_append_right _ (List.mem_append_left _ (List.mem_of_getElem? (i := 237) (by decide +kernel))))) rfl), wi_6, wc_O_events, by decide, by decide, by decide +kernel⟩, wn_O_events, wl_O_events⟩
theorem wc_F_event : Cond.code y_F_event c_F_event 2 (some .int) ∈ fr_ws := (fr_in (List.mem_append_right _ (List.mem_append_left _ (List.mem_of_getElem? (i := 221) rfl))) rfl)
theorem wn_F_event : Cond.instanceMethod y_F_event ∈ fr_ws := (fr_in (List.mem_append_right _ (List.mem_append_left _ (List.mem_of_getElem? (i := 219) (by decide +kernel)))) rfl)
theorem wl_F_event : Cond.selects y_F_event.cls y_F_event y_F_event ∈ fr_ws := (fr_in (List.mem_append_right _ (List.mem_append_left _ (List.mem_of_getElem? (i := 220) (by decide +kernel)))) rfl)
theorem mv_L_96 : fr_mv R_L 96 y_F_event c_F_event 2 (some .int) 1 := ⟨⟨(fr_in (List.mem_append_right _ (List.mem_append_left _ (List.mem_of_getElem? (i := 218) (by decide +kernel)))) rfl), wi_1, wc_F_event, by decide, by decide, by decide +kernel⟩, wn_F_event, wl_F_event⟩
theorem wc_O_event : Cond.code y_O_event c_O_event 2 (some .int) ∈ fr_ws := (fr_in (List.mem_append_right _ (List.mem_append_right _ (List.mem_append_right _ (List.mem_of_getElem? (i := 4) rfl)))) rfl)
theorem wn_O_event : Cond.instanceMethod y_O_event ∈ fr_ws := (fr_in (List.mem_append_right _ (List.mem_append_right _ (List.mem_append_right _ (List.mem_of_getElem? (i := 2) (by decide +kernel))))) rfl)
theorem wl_O_event : Cond.selects y_O_event.cls y_O_event y_O_event ∈ fr_ws := (fr_in (List.mem_append_right _ (List.mem_append_right _ (List.mem_append_right _ (List.mem_of_getElem? (i := 3) (by decide +kernel))))) rfl)
theorem mv_L_99 : fr_mv R_L 99 y_O_event c_O_event 2 (some .int) 1 := ⟨⟨(fr_in (List.mem_append_right _ (List.mem_append_right _ (List.mem_append_right _ (List.mem_of_getElem? (i := 1) (by decide +kernel))))) rfl), wi_6, wc_O_event, by decide, by decide, by decide +kernel⟩, wn_O_event, wl_O_event⟩
theorem wc_F_when : Cond.code y_F_when c_F_when 2 (some .int) ∈ fr_ws := (fr_in (List.mem_append_right _ (List.mem_append_left _ (List.mem_of_getElem? (i := 229) rfl))) rfl)
theorem wn_F_when : Cond.instanceMethod y_F_when ∈ fr_ws := (fr_in (List.mem_append_right _ (List.mem_append_left _ (List.mem_of_getElem? (i := 227) (by decide +kernel)))) rfl)
theorem wl_F_when : Cond.selects y_F_when.cls y_F_when y_F_when ∈ fr_ws := (fr_in (List.mem_append_right _ (List.mem_append_left _ (List.mem_of_getElem? (i := 228) (by decide +kernel)))) rfl)
theorem mv_L_100 : fr_mv R_L 100 y_F_when c_F_when 2 (some .int) 1 := ⟨⟨(fr_in (List.mem_append_right _ (List.mem_append_left _ (List.mem_of_getElem? (i := 226) (by decide +kernel)))) rfl), wi_1, wc_F_when, by decide, by decide, by decide +kernel⟩, wn_F_when, wl_F_when⟩
theorem wc_O_when : Cond.code y_O_when c_O_when 2 (some .int) ∈ fr_ws := (fr_in (List.mem_append_right _ (List.mem_append_right _ (List.mem_append_right _ (List.mem_of_getElem? (i := 8) rfl)))) rfl)
theorem wn_O_when : Cond.instanceMethod y_O_when ∈ fr_ws := (fr_in (List.mem_append_right _ (List.mem_append_right _ (List.mem_append_right _ (List.mem_of_getElem? (i := 6) (by decide +kernel))))) rfl)
theorem wl_O_when : Cond.selects y_O_when.cls y_O_when y_O_when ∈ fr_ws := (fr_in (List.mem_append_right _ (List.mem_append_right _ (List.mem_append_right _ (List.mem_of_getElem? (i := 7) (by decide +kernel))))) rfl)
theorem mv_L_103 : fr_mv R_L 103 y_O_when c_O_when 2 (some .int) 1 := ⟨⟨(fr_in (List.mem_append_right _ (List.mem_append_right _ (List.mem_append_right _ (List.mem_of_getElem? (i := 5) (by decide +kernel))))) rfl), wi_6, wc_O_when, by decide, by decide, by decide +kernel⟩, wn_O_when, wl_O_when⟩
end
section
-- the abstract memory: cells have a kind k and a number r; their slots j hold an int, a long or a reference to a cell
abbrev fr_I : Type := Nat → Nat → Nat → Int32
abbrev fr_J : Type := Nat → Nat → Nat → Int64
abbrev fr_P : Type := Nat → Nat → Nat → Option (Nat × Nat)
-- references, which cells live, the heap's size
abbrev fr_Z : Type := fr_P × (Nat → Nat → Prop) × Nat
-- the launch, class numbers and slots, the addresses, the first address that is ours
abbrev fr_X : Type := Launch × va_G × (Nat → Nat → Nat) × Nat
abbrev fr_E : Type := Program × Env × State × MethodId × Array Value × List Frame × Method × Code
def fr_ad (X : fr_X) (k r : Nat) : Nat := X.2.2.1 k r
def fr_ui (I : fr_I) (k r j : Nat) (v : Int32) : fr_I := fun a b c => if a = k ∧ b = r ∧ c = j then v else I a b c
def fr_uj (J : fr_J) (k r j : Nat) (v : Int64) : fr_J := fun a b c => if a = k ∧ b = r ∧ c = j then v else J a b c
def fr_up (P : fr_P) (k r j : Nat) (v : Option (Nat × Nat)) : fr_P := fun a b c => if a = k ∧ b = r ∧ c = j then v else P a b c
def fr_zi (I : fr_I) (k r : Nat) : fr_I := fun a b c => if a = k ∧ b = r then 0 else I a b c
def fr_zj (J : fr_J) (k r : Nat) : fr_J := fun a b c => if a = k ∧ b = r then 0 else J a b c
def fr_zp (P : fr_P) (k r : Nat) : fr_P := fun a b c => if a = k ∧ b = r then none else P a b c
def fr_vl (X : fr_X) (P : fr_P) (I : fr_I) (J : fr_J) (k r j : Nat) : Value := match fr_so k j with
  | 0 => .int (I k r j)
  | 1 => .long (J k r j)
  | _ => va_rf ((P k r j).map (fun q => fr_ad X q.1 q.2))
theorem fr_vl0 {X : fr_X} {P : fr_P} {I : fr_I} {J : fr_J} {k r j : Nat} (hs : fr_so k j = 0) : fr_vl X P I J k r j = .int (I k r j) := by
  unfold fr_vl; simp only [hs]
theorem fr_vl1 {X : fr_X} {P : fr_P} {I : fr_I} {J : fr_J} {k r j : Nat} (hs : fr_so k j = 1) : fr_vl X P I J k r j = .long (J k r j) := by
  unfold fr_vl; simp only [hs]
theorem fr_vl2 {X : fr_X} {P : fr_P} {I : fr_I} {J : fr_J} {k r j : Nat} (hs : fr_so k j = 2) : fr_vl X P I J k r j = va_rf ((P k r j).map (fun q => fr_ad X q.1 q.2)) := by
  unfold fr_vl; simp only [hs]
theorem fr_vl_eq {X : fr_X} {P P1 : fr_P} {I I1 : fr_I} {J J1 : fr_J} {k r j : Nat} (hi : I1 k r j = I k r j) (hj : J1 k r j = J k r j) (hp : P1 k r j = P k r j) : fr_vl X P1 I1 J1 k r j = fr_vl X P I J k r j := by
  unfold fr_vl; rw [hi, hj, hp]
theorem fr_ui_s {I : fr_I} {k r j : Nat} {v : Int32} : fr_ui I k r j v k r j = v := if_pos ⟨rfl, rfl, rfl⟩
theorem fr_uj_s {I : fr_J} {k r j : Nat} {v : Int64} : fr_uj I k r j v k r j = v := if_pos ⟨rfl, rfl, rfl⟩
theorem fr_up_s {I : fr_P} {k r j : Nat} {v : Option (Nat × Nat)} : fr_up I k r j v k r j = v := if_pos ⟨rfl, rfl, rfl⟩
theorem fr_ui_n {I : fr_I} {k r j a b c : Nat} {v : Int32} (h : ¬ (a = k ∧ b = r ∧ c = j)) : fr_ui I k r j v a b c = I a b c := if_neg h
theorem fr_uj_n {I : fr_J} {k r j a b c : Nat} {v : Int64} (h : ¬ (a = k ∧ b = r ∧ c = j)) : fr_uj I k r j v a b c = I a b c := if_neg h
theorem fr_up_n {I : fr_P} {k r j a b c : Nat} {v : Option (Nat × Nat)} (h : ¬ (a = k ∧ b = r ∧ c = j)) : fr_up I k r j v a b c = I a b c := if_neg h
/-- a cell of the abstract memory lies in the heap: an object, or an array -/
def fr_ce (X : fr_X) (P : fr_P) (I : fr_I) (J : fr_J) (U : State) (H : Heap) (k r : Nat) : Prop := match fr_kd k with
  | .inl ci => ∃ q : vw_C, fr_cl[ci]? = some q ∧ t_OB (fr_ad X k r) (X.2.1.1 ci) q.2.2 (X.2.1.2 ci) H (fr_vl X P I J k r)
  | .inr t => ∃ cA : ClassId, ArrOfT U cA t.1 ∧ va_RA U cA t.1 ∧ H[fr_ad X k r]? = some (arrV cA t.2 (fr_vl X P I J k r))
theorem fr_ce_o {X : fr_X} {P : fr_P} {I : fr_I} {J : fr_J} {U : State} {H : Heap} {k r ci : Nat} (hk : fr_kd k = .inl ci) : fr_ce X P I J U H k r ↔ ∃ q : vw_C, fr_cl[ci]? = some q ∧ t_OB (fr_ad X k r) (X.2.1.1 ci) q.2.2 (X.2.1.2 ci) H (fr_vl X P I J k r) := by
  unfold fr_ce; simp only [hk]
theorem fr_ce_a {X : fr_X} {P : fr_P} {I : fr_I} {J : fr_J} {U : State} {H : Heap} {k r N : Nat} {ty : FieldType} (hk : fr_kd k = .inr (ty, N)) : fr_ce X P I J U H k r ↔ ∃ cA : ClassId, ArrOfT U cA ty ∧ va_RA U cA ty ∧ H[fr_ad X k r]? = some (arrV cA N (fr_vl X P I J k r)) := by
  unfold fr_ce; simp only [hk]
theorem fr_ce.kept {X : fr_X} {P P1 : fr_P} {I I1 : fr_I} {J J1 : fr_J} {U : State} {H H1 : Heap} {k r : Nat} (h : fr_ce X P I J U H k r) (hq : H1[fr_ad X k r]? = H[fr_ad X k r]?) (hv : ∀ j, fr_vl X P1 I1 J1 k r j = fr_vl X P I J k r j) : fr_ce X P1 I1 J1 U H1 k r := by
  have e : fr_vl X P1 I1 J1 k r = fr_vl X P I J k r := funext hv
  rcases hk : fr_kd k with ci | ⟨ty, N⟩
  · obtain ⟨q, h1, h2⟩ := (fr_ce_o hk).mp h
    exact (fr_ce_o hk).mpr ⟨q, h1, by rw [e]; exact h2.kept hq⟩
  · obtain ⟨cA, h1, h2, h3⟩ := (fr_ce_a hk).mp h
    exact (fr_ce_a hk).mpr ⟨cA, h1, h2, by rw [e, hq]; exact h3⟩
theorem fr_ce.moved {X : fr_X} {P : fr_P} {I : fr_I} {J : fr_J} {U V : State} {H : Heap} {k r : Nat} (hvm : U.vm.Alike V.vm) (h : fr_ce X P I J U H k r) : fr_ce X P I J V H k r := by
  rcases hk : fr_kd k with ci | ⟨ty, N⟩
  · exact (fr_ce_o hk).mpr ((fr_ce_o hk).mp h)
  · obtain ⟨cA, h1, h2, h3⟩ := (fr_ce_a hk).mp h
    exact (fr_ce_a hk).mpr ⟨cA, arrOfT_moved hvm h1, h2.moved hvm, h3⟩
theorem fr_ce.lt {X : fr_X} {P : fr_P} {I : fr_I} {J : fr_J} {U : State} {H : Heap} {k r : Nat} (h : fr_ce X P I J U H k r) : fr_ad X k r < H.size := by
  rcases hk : fr_kd k with ci | ⟨ty, N⟩
  · obtain ⟨q, h1, cell, h2, -⟩ := (fr_ce_o hk).mp h
    exact (Array.getElem?_eq_some_iff.mp h2).1
  · obtain ⟨cA, h1, h2, h3⟩ := (fr_ce_a hk).mp h
    exact (Array.getElem?_eq_some_iff.mp h3).1
def fr_ok (X : fr_X) (Z : fr_Z) (I : fr_I) (J : fr_J) (U : State) (H : Heap) : Prop :=
  (∀ k r, Z.2.1 k r → fr_ce X Z.1 I J U H k r) ∧ (∀ k r k' r', Z.2.1 k r → Z.2.1 k' r' → fr_ad X k r = fr_ad X k' r' → k = k' ∧ r = r') ∧ ∀ k r, Z.2.1 k r → X.2.2.2 ≤ fr_ad X k r
theorem fr_ok.moved {X : fr_X} {Z : fr_Z} {I : fr_I} {J : fr_J} {U V : State} {H : Heap} (hvm : U.vm.Alike V.vm) (h : fr_ok X Z I J U H) : fr_ok X Z I J V H := ⟨fun k r hl => (h.1 k r hl).moved hvm, h.2⟩
theorem fr_ok.set {X : fr_X} {Z : fr_Z} {P1 : fr_P} {I I1 : fr_I} {J J1 : fr_J} {U : State} {H H1 : Heap} {k r : Nat} (h : fr_ok X Z I J U H) (hl : Z.2.1 k r) (hc : fr_ce X P1 I1 J1 U H1 k r) (ho : ∀ q, q ≠ fr_ad X k r → H1[q]? = H[q]?)
    (hv : ∀ k' r' j', ¬ (k' = k ∧ r' = r) → fr_vl X P1 I1 J1 k' r' j' = fr_vl X Z.1 I J k' r' j') : fr_ok X (P1, Z.2) I1 J1 U H1 := by
  refine ⟨fun k' r' hl' => ?_, h.2.1, h.2.2⟩
  by_cases e : k' = k ∧ r' = r
  · obtain ⟨rfl, rfl⟩ := e
    exact hc
  · exact (h.1 k' r' hl').kept (ho _ (fun q => e (h.2.1 k' r' k r hl' hl q))) (fun j' => hv k' r' j' e)
/-- what holds while a method of ours runs -/
def fr_Cx (X : fr_X) (E : fr_E) (own nm : String) (cc : ByteArray) (nL : Nat) (ret : Option FieldType) : Prop :=
  E.1.tables.exec = Jvm.exec ∧ E.2.2.2.2.2.2.2.code = cc ∧ E.2.2.2.2.2.2.2.maxLocals = nL ∧ E.2.2.1.vm.findClass own = some E.2.2.2.1.cls ∧ (∀ w ∈ fr_ws, w.before E.2.2.2.2.1 E.2.2.1 = true) ∧ va_K X.2.1 fr_cl [] E.2.2.1 ∧ ((∀ q ∈ fr_nw, va_Nw (.methodLinkNest q.1 q.2.1 q.2.2.1 q.2.2.2) E.2.2.1) ∧ va_AO fr_aC E.2.2.1) ∧ E.2.2.2.2.2.2.1.sig.returnType = ret ∧ E.2.2.2.2.2.2.1.locks = false ∧ E.2.2.2.2.2.2.1.name = nm ∧ X.2.2.2 ≤ E.2.2.1.heap.size
def fr_Ev (X : fr_X) (E : fr_E) (own nm : String) (cc : ByteArray) (nL : Nat) (ret : Option FieldType) (R : Room) (Q : State → Prop) (cs sl : Nat) (Z : fr_Z) (pc : Nat) (L : List (Nat × Value)) (st : List Value) (I : fr_I) (J : fr_J) : Prop :=
  fr_Cx X E own nm cc nL ret → ∀ (H : Heap) (locs : List Loc) (ls : Array Slot), H.size = Z.2.2 → fr_ok X Z I J E.2.2.1 H → va_S (fun q => X.2.2.2 ≤ q) E.2.2.1.heap H locs → lv_has ls nL L →
    W E.1 X.1 E.2.1 R E.2.2.1 E.2.2.2.1 E.2.2.2.2.1 E.2.2.2.2.2.1 E.2.2.2.2.2.2.1 E.2.2.2.2.2.2.2 H locs cs sl Q (F0 E.2.2.2.1 pc ls st)
def fr_lk : List (Nat × Value) → Nat → Option Value
  | [], _ => none
  | q :: t, i => if q.1 = i then some q.2 else fr_lk t i
theorem fr_lk_at {ls : Array Slot} {nL i : Nat} {v : Value} {L : List (Nat × Value)} (h : lv_has ls nL L) (hk : fr_lk L i = some v) : ls[i]? = some (.val v) := by
  have key : ∀ L : List (Nat × Value), fr_lk L i = some v → (i, v) ∈ L := by
    intro L
    induction L with
    | nil => intro h; cases h
    | cons q t ih =>
      intro h
      unfold fr_lk at h
      split at h
      · rename_i e
        cases h
        rw [← e]
        exact List.mem_cons_self
      · exact List.mem_cons_of_mem _ (ih h)
  exact h.2.2 (i, v) (key L hk)
theorem fr_ok.conv {X : fr_X} {Z Z2 : fr_Z} {I I2 : fr_I} {J J2 : fr_J} {U : State} {H : Heap} (h : fr_ok X Z I J U H) (hl : ∀ k r, Z2.2.1 k r → Z.2.1 k r) (he : ∀ k r j, Z2.2.1 k r → Z2.1 k r j = Z.1 k r j ∧ I2 k r j = I k r j ∧ J2 k r j = J k r j) : fr_ok X Z2 I2 J2 U H :=
  ⟨fun k r q => (h.1 k r (hl k r q)).kept rfl (fun j => fr_vl_eq (he k r j q).2.1 (he k r j q).2.2 (he k r j q).1), fun k r k' r' q q' => h.2.1 k r k' r' (hl _ _ q) (hl _ _ q'), fun k r q => h.2.2 k r (hl _ _ q)⟩
theorem fr_ok.grow {X : fr_X} {Z : fr_Z} {P1 : fr_P} {I I1 : fr_I} {J J1 : fr_J} {U : State} {H H1 : Heap} {k r : Nat} (h : fr_ok X Z I J U H) (ha : fr_ad X k r = H.size) (hc : fr_ce X P1 I1 J1 U H1 k r) (ho : ∀ q, q < H.size → H1[q]? = H[q]?) (hb : X.2.2.2 ≤ H.size)
    (hv : ∀ k' r' j', ¬ (k' = k ∧ r' = r) → fr_vl X P1 I1 J1 k' r' j' = fr_vl X Z.1 I J k' r' j') : fr_ok X (P1, (fun a b => Z.2.1 a b ∨ (a = k ∧ b = r)), Z.2.2 + 1) I1 J1 U H1 := by
  refine ⟨fun k' r' hl => ?_, fun k1 r1 k2 r2 h1 h2 e => ?_, fun k' r' hl => ?_⟩
  · by_cases e : k' = k ∧ r' = r
    · obtain ⟨rfl, rfl⟩ := e
      exact hc
    · rcases hl with hl | hl
      · exact (h.1 k' r' hl).kept (ho _ (h.1 k' r' hl).lt) (fun j' => hv k' r' j' e)
      · exact absurd hl e
  · rcases h1 with h1 | h1 <;> rcases h2 with h2 | h2
    · exact h.2.1 _ _ _ _ h1 h2 e
    · have := (h.1 k1 r1 h1).lt
      rw [h2.1, h2.2] at e
      omega
    · have := (h.1 k2 r2 h2).lt
      rw [h1.1, h1.2] at e
      omega
    · exact ⟨h1.1.trans h2.1.symm, h1.2.trans h2.2.symm⟩
  · rcases hl with hl | ⟨rfl, rfl⟩
    · exact h.2.2 k' r' hl
    · rw [ha]; exact hb
end
section
section FRrows
variable {X : fr_X} {E : fr_E} {own nm : String} {cc : ByteArray} {nL : Nat} {ret : Option FieldType} {R : Room} {Q : State → Prop} {cs sl : Nat} {Z : fr_Z} {pc : Nat} {L : List (Nat × Value)} {st : List Value} {I : fr_I} {J : fr_J}
theorem fr_iconst {n : Int} {v : Int32} (d : decode cc pc = .ok (.iconst n, 1)) (hv : Int32.ofInt n = v) (kk : fr_Ev X E own nm cc nL ret R Q cs sl Z (pc + 1) L (.int v :: st) I J) : fr_Ev X E own nm cc nL ret R Q cs sl Z pc L st I J := fun C H locs ls hz hm hS hl => lv_iconst C.1 C.2.1 d hv (kk C H locs ls hz hm hS hl)
theorem fr_bipush {n : Int} {v : Int32} (d : decode cc pc = .ok (.bipush n, 2)) (hv : (Int8.ofInt n).toInt32 = v) (kk : fr_Ev X E own nm cc nL ret R Q cs sl Z (pc + 2) L (.int v :: st) I J) : fr_Ev X E own nm cc nL ret R Q cs sl Z pc L st I J := fun C H locs ls hz hm hS hl => lv_bipush C.1 C.2.1 d hv (kk C H locs ls hz hm hS hl)
theorem fr_sipush {n : Int} {v : Int32} (d : decode cc pc = .ok (.sipush n, 3)) (hv : (Int16.ofInt n).toInt32 = v) (kk : fr_Ev X E own nm cc nL ret R Q cs sl Z (pc + 3) L (.int v :: st) I J) : fr_Ev X E own nm cc nL ret R Q cs sl Z pc L st I J := fun C H locs ls hz hm hS hl => lv_sipush C.1 C.2.1 d hv (kk C H locs ls hz hm hS hl)
theorem fr_lconst {n : Fin 2} {v : Int64} (d : decode cc pc = .ok (.lconst n, 1)) (hv : Int64.ofNat (n : Nat) = v) (kk : fr_Ev X E own nm cc nL ret R Q cs sl Z (pc + 1) L (.long v :: st) I J) : fr_Ev X E own nm cc nL ret R Q cs sl Z pc L st I J := fun C H locs ls hz hm hS hl => lv_lconst C.1 C.2.1 d hv (kk C H locs ls hz hm hS hl)
theorem fr_iload_n {q : Fin 4} {x : Int32} (d : decode cc pc = .ok (.iload_n q, 1)) (h : fr_lk L (q : Nat) = some (.int x)) (kk : fr_Ev X E own nm cc nL ret R Q cs sl Z (pc + 1) L (.int x :: st) I J) : fr_Ev X E own nm cc nL ret R Q cs sl Z pc L st I J := fun C H locs ls hz hm hS hl => lv_iload_n C.1 C.2.1 d rfl (fr_lk_at hl h) (kk C H locs ls hz hm hS hl)
theorem fr_iload {i : Nat} {x : Int32} (d : decode cc pc = .ok (.iload i, 2)) (h : fr_lk L i = some (.int x)) (kk : fr_Ev X E own nm cc nL ret R Q cs sl Z (pc + 2) L (.int x :: st) I J) : fr_Ev X E own nm cc nL ret R Q cs sl Z pc L st I J := fun C H locs ls hz hm hS hl => lv_iload C.1 C.2.1 d (fr_lk_at hl h) (kk C H locs ls hz hm hS hl)
theorem fr_lload_n {q : Fin 4} {x : Int64} (d : decode cc pc = .ok (.lload_n q, 1)) (h : fr_lk L (q : Nat) = some (.long x)) (kk : fr_Ev X E own nm cc nL ret R Q cs sl Z (pc + 1) L (.long x :: st) I J) : fr_Ev X E own nm cc nL ret R Q cs sl Z pc L st I J := fun C H locs ls hz hm hS hl => lv_lload_n C.1 C.2.1 d rfl (fr_lk_at hl h) (kk C H locs ls hz hm hS hl)
theorem fr_lload {i : Nat} {x : Int64} (d : decode cc pc = .ok (.lload i, 2)) (h : fr_lk L i = some (.long x)) (kk : fr_Ev X E own nm cc nL ret R Q cs sl Z (pc + 2) L (.long x :: st) I J) : fr_Ev X E own nm cc nL ret R Q cs sl Z pc L st I J := fun C H locs ls hz hm hS hl => lv_lload C.1 C.2.1 d (fr_lk_at hl h) (kk C H locs ls hz hm hS hl)
theorem fr_aload_n {q : Fin 4} {x : Nat} (d : decode cc pc = .ok (.aload_n q, 1)) (h : fr_lk L (q : Nat) = some (.ref x)) (kk : fr_Ev X E own nm cc nL ret R Q cs sl Z (pc + 1) L (.ref x :: st) I J) : fr_Ev X E own nm cc nL ret R Q cs sl Z pc L st I J := fun C H locs ls hz hm hS hl => lv_aload_n C.1 C.2.1 d rfl (fr_lk_at hl h) (kk C H locs ls hz hm hS hl)
theorem fr_aload {i : Nat} {x : Nat} (d : decode cc pc = .ok (.aload i, 2)) (h : fr_lk L i = some (.ref x)) (kk : fr_Ev X E own nm cc nL ret R Q cs sl Z (pc + 2) L (.ref x :: st) I J) : fr_Ev X E own nm cc nL ret R Q cs sl Z pc L st I J := fun C H locs ls hz hm hS hl => lv_aload C.1 C.2.1 d (fr_lk_at hl h) (kk C H locs ls hz hm hS hl)
theorem fr_istore_n {q : Fin 4} {x : Int32} {L' : List (Nat × Value)} (d : decode cc pc = .ok (.istore_n q, 1)) (hn : (q : Nat) < nL) (hL : ((q : Nat), Value.int x) :: L.filter (fun w => !(w.1 == (q : Nat)) && !(w.1 + 1 == (q : Nat) && w.2.category == 2)) = L') (kk : fr_Ev X E own nm cc nL ret R Q cs sl Z (pc + 1) L' st I J) : fr_Ev X E own nm cc nL ret R Q cs sl Z pc L (.int x :: st) I J := fun C H locs ls hz hm hS hl => lv_istore_n C.1 C.2.1 d rfl hl hn hL (fun ls' hl' => kk C H locs ls' hz hm hS hl')
theorem fr_istore {i : Nat} {x : Int32} {L' : List (Nat × Value)} (d : decode cc pc = .ok (.istore i, 2)) (hn : i < nL) (hL : (i, Value.int x) :: L.filter (fun q => !(q.1 == i) && !(q.1 + 1 == i && q.2.category == 2)) = L') (kk : fr_Ev X E own nm cc nL ret R Q cs sl Z (pc + 2) L' st I J) : fr_Ev X E own nm cc nL ret R Q cs sl Z pc L (.int x :: st) I J := fun C H locs ls hz hm hS hl => lv_istore C.1 C.2.1 d hl hn hL (fun ls' hl' => kk C H locs ls' hz hm hS hl')
theorem fr_lstore_n {q : Fin 4} {x : Int64} {L' : List (Nat × Value)} (d : decode cc pc = .ok (.lstore_n q, 1)) (hn : (q : Nat) + 1 < nL) (hL : ((q : Nat), Value.long x) :: L.filter (fun w => !(w.1 == (q : Nat)) && (!(w.1 == (q : Nat) + 1) && !(w.1 + 1 == (q : Nat) && w.2.category == 2))) = L') (kk : fr_Ev X E own nm cc nL ret R Q cs sl Z (pc + 1) L' st I J) : fr_Ev X E own nm cc nL ret R Q cs sl Z pc L (.long x :: st) I J := fun C H locs ls hz hm hS hl => lv_lstore_n C.1 C.2.1 d rfl hl hn hL (fun ls' hl' => kk C H locs ls' hz hm hS hl')
theorem fr_lstore {i : Nat} {x : Int64} {L' : List (Nat × Value)} (d : decode cc pc = .ok (.lstore i, 2)) (hn : i + 1 < nL) (hL : (i, Value.long x) :: L.filter (fun q => !(q.1 == i) && (!(q.1 == i + 1) && !(q.1 + 1 == i && q.2.category == 2))) = L') (kk : fr_Ev X E own nm cc nL ret R Q cs sl Z (pc + 2) L' st I J) : fr_Ev X E own nm cc nL ret R Q cs sl Z pc L (.long x :: st) I J := fun C H locs ls hz hm hS hl => lv_lstore C.1 C.2.1 d hl hn hL (fun ls' hl' => kk C H locs ls' hz hm hS hl')
theorem fr_astore_n {q : Fin 4} {x : Nat} {L' : List (Nat × Value)} (d : decode cc pc = .ok (.astore_n q, 1)) (hn : (q : Nat) < nL) (hL : ((q : Nat), Value.ref x) :: L.filter (fun w => !(w.1 == (q : Nat)) && !(w.1 + 1 == (q : Nat) && w.2.category == 2)) = L') (kk : fr_Ev X E own nm cc nL ret R Q cs sl Z (pc + 1) L' st I J) : fr_Ev X E own nm cc nL ret R Q cs sl Z pc L (.ref x :: st) I J := fun C H locs ls hz hm hS hl => lv_astore_n C.1 C.2.1 d rfl hl hn hL (fun ls' hl' => kk C H locs ls' hz hm hS hl')
theorem fr_astore {i : Nat} {x : Nat} {L' : List (Nat × Value)} (d : decode cc pc = .ok (.astore i, 2)) (hn : i < nL) (hL : (i, Value.ref x) :: L.filter (fun q => !(q.1 == i) && !(q.1 + 1 == i && q.2.category == 2)) = L') (kk : fr_Ev X E own nm cc nL ret R Q cs sl Z (pc + 2) L' st I J) : fr_Ev X E own nm cc nL ret R Q cs sl Z pc L (.ref x :: st) I J := fun C H locs ls hz hm hS hl => lv_astore C.1 C.2.1 d hl hn hL (fun ls' hl' => kk C H locs ls' hz hm hS hl')
theorem fr_iinc {i : Nat} {n : Int} {x v : Int32} {L' : List (Nat × Value)} (d : decode cc pc = .ok (.iinc i n, 3)) (h : fr_lk L i = some (.int x)) (hv : x + Int32.ofInt n = v) (hn : i < nL) (hL : (i, Value.int v) :: L.filter (fun q => !(q.1 == i) && !(q.1 + 1 == i && q.2.category == 2)) = L') (kk : fr_Ev X E own nm cc nL ret R Q cs sl Z (pc + 3) L' st I J) : fr_Ev X E own nm cc nL ret R Q cs sl Z pc L st I J := by
  intro C H locs ls hz hm hS hl
  have hl2 : lv_has ls nL ((i, .int x) :: L) := ⟨hl.1, hl.2.1, fun q hq => by
    rcases List.mem_cons.mp hq with rfl | hq
    · exact fr_lk_at hl h
    · exact hl.2.2 q hq⟩
  refine lv_iinc (k := 0) (lv' := L') C.1 C.2.1 d hl2 rfl hv hn ?_ (fun ls' hl' => kk C H locs ls' hz hm hS hl')
  rw [← hL]
  simp
theorem fr_iadd {x y : Int32} (d : decode cc pc = .ok (.iadd, 1))  (kk : fr_Ev X E own nm cc nL ret R Q cs sl Z (pc + 1) L (.int (x + y) :: st) I J) : fr_Ev X E own nm cc nL ret R Q cs sl Z pc L (.int y :: .int x :: st) I J := fun C H locs ls hz hm hS hl => lv_iadd C.1 C.2.1 d  (kk C H locs ls hz hm hS hl)
theorem fr_isub {x y : Int32} (d : decode cc pc = .ok (.isub, 1))  (kk : fr_Ev X E own nm cc nL ret R Q cs sl Z (pc + 1) L (.int (x - y) :: st) I J) : fr_Ev X E own nm cc nL ret R Q cs sl Z pc L (.int y :: .int x :: st) I J := fun C H locs ls hz hm hS hl => lv_isub C.1 C.2.1 d  (kk C H locs ls hz hm hS hl)
theorem fr_imul {x y : Int32} (d : decode cc pc = .ok (.imul, 1))  (kk : fr_Ev X E own nm cc nL ret R Q cs sl Z (pc + 1) L (.int (x * y) :: st) I J) : fr_Ev X E own nm cc nL ret R Q cs sl Z pc L (.int y :: .int x :: st) I J := fun C H locs ls hz hm hS hl => lv_imul C.1 C.2.1 d  (kk C H locs ls hz hm hS hl)
theorem fr_iand {x y : Int32} (d : decode cc pc = .ok (.iand, 1))  (kk : fr_Ev X E own nm cc nL ret R Q cs sl Z (pc + 1) L (.int (x &&& y) :: st) I J) : fr_Ev X E own nm cc nL ret R Q cs sl Z pc L (.int y :: .int x :: st) I J := fun C H locs ls hz hm hS hl => lv_iand C.1 C.2.1 d  (kk C H locs ls hz hm hS hl)
theorem fr_ishl {x y : Int32} (d : decode cc pc = .ok (.ishl, 1))  (kk : fr_Ev X E own nm cc nL ret R Q cs sl Z (pc + 1) L (.int (x <<< (y &&& 31)) :: st) I J) : fr_Ev X E own nm cc nL ret R Q cs sl Z pc L (.int y :: .int x :: st) I J := fun C H locs ls hz hm hS hl => lv_ishl C.1 C.2.1 d  (kk C H locs ls hz hm hS hl)
theorem fr_ishr {x y : Int32} (d : decode cc pc = .ok (.ishr, 1))  (kk : fr_Ev X E own nm cc nL ret R Q cs sl Z (pc + 1) L (.int (x >>> (y &&& 31)) :: st) I J) : fr_Ev X E own nm cc nL ret R Q cs sl Z pc L (.int y :: .int x :: st) I J := fun C H locs ls hz hm hS hl => lv_ishr C.1 C.2.1 d  (kk C H locs ls hz hm hS hl)
theorem fr_ladd {x y : Int64} (d : decode cc pc = .ok (.ladd, 1))  (kk : fr_Ev X E own nm cc nL ret R Q cs sl Z (pc + 1) L (.long (x + y) :: st) I J) : fr_Ev X E own nm cc nL ret R Q cs sl Z pc L (.long y :: .long x :: st) I J := fun C H locs ls hz hm hS hl => lv_ladd C.1 C.2.1 d  (kk C H locs ls hz hm hS hl)
theorem fr_lsub {x y : Int64} (d : decode cc pc = .ok (.lsub, 1))  (kk : fr_Ev X E own nm cc nL ret R Q cs sl Z (pc + 1) L (.long (x - y) :: st) I J) : fr_Ev X E own nm cc nL ret R Q cs sl Z pc L (.long y :: .long x :: st) I J := fun C H locs ls hz hm hS hl => lv_lsub C.1 C.2.1 d  (kk C H locs ls hz hm hS hl)
theorem fr_lmul {x y : Int64} (d : decode cc pc = .ok (.lmul, 1))  (kk : fr_Ev X E own nm cc nL ret R Q cs sl Z (pc + 1) L (.long (x * y) :: st) I J) : fr_Ev X E own nm cc nL ret R Q cs sl Z pc L (.long y :: .long x :: st) I J := fun C H locs ls hz hm hS hl => lv_lmul C.1 C.2.1 d  (kk C H locs ls hz hm hS hl)
theorem fr_idiv {x y : Int32} (d : decode cc pc = .ok (.idiv, 1)) (hne : ¬ y = 0) (kk : fr_Ev X E own nm cc nL ret R Q cs sl Z (pc + 1) L (.int (x / y) :: st) I J) : fr_Ev X E own nm cc nL ret R Q cs sl Z pc L (.int y :: .int x :: st) I J := fun C H locs ls hz hm hS hl => lv_idiv C.1 C.2.1 d hne (kk C H locs ls hz hm hS hl)
theorem fr_irem {x y : Int32} (d : decode cc pc = .ok (.irem, 1)) (hne : ¬ y = 0) (kk : fr_Ev X E own nm cc nL ret R Q cs sl Z (pc + 1) L (.int (x - x / y * y) :: st) I J) : fr_Ev X E own nm cc nL ret R Q cs sl Z pc L (.int y :: .int x :: st) I J := fun C H locs ls hz hm hS hl => lv_irem C.1 C.2.1 d hne (kk C H locs ls hz hm hS hl)
theorem fr_ldiv {x y : Int64} (d : decode cc pc = .ok (.ldiv, 1)) (hne : ¬ y = 0) (kk : fr_Ev X E own nm cc nL ret R Q cs sl Z (pc + 1) L (.long (x / y) :: st) I J) : fr_Ev X E own nm cc nL ret R Q cs sl Z pc L (.long y :: .long x :: st) I J := fun C H locs ls hz hm hS hl => lv_ldiv C.1 C.2.1 d hne (kk C H locs ls hz hm hS hl)
theorem fr_i2l {x : Int32} {v : Int64} (d : decode cc pc = .ok (.i2l, 1)) (hv : x.toInt64 = v) (kk : fr_Ev X E own nm cc nL ret R Q cs sl Z (pc + 1) L (.long v :: st) I J) : fr_Ev X E own nm cc nL ret R Q cs sl Z pc L (.int x :: st) I J := fun C H locs ls hz hm hS hl => lv_i2l C.1 C.2.1 d hv (kk C H locs ls hz hm hS hl)
theorem fr_l2i {x : Int64} {v : Int32} (d : decode cc pc = .ok (.l2i, 1)) (hv : x.toInt32 = v) (kk : fr_Ev X E own nm cc nL ret R Q cs sl Z (pc + 1) L (.int v :: st) I J) : fr_Ev X E own nm cc nL ret R Q cs sl Z pc L (.long x :: st) I J := fun C H locs ls hz hm hS hl => lv_l2i C.1 C.2.1 d hv (kk C H locs ls hz hm hS hl)
theorem fr_lcmp {x y : Int64} (d : decode cc pc = .ok (.lcmp, 1))  (kk : fr_Ev X E own nm cc nL ret R Q cs sl Z (pc + 1) L (.int (lg_cmp x y) :: st) I J) : fr_Ev X E own nm cc nL ret R Q cs sl Z pc L (.long y :: .long x :: st) I J := fun C H locs ls hz hm hS hl => W.lcmp C.1 C.2.1 d  (kk C H locs ls hz hm hS hl)
theorem fr_dup {a : Value} (d : decode cc pc = .ok (.dup, 1)) (h1 : a.category = 1) (kk : fr_Ev X E own nm cc nL ret R Q cs sl Z (pc + 1) L (a :: a :: st) I J) : fr_Ev X E own nm cc nL ret R Q cs sl Z pc L (a :: st) I J := fun C H locs ls hz hm hS hl => lv_dup C.1 C.2.1 d h1 (kk C H locs ls hz hm hS hl)
theorem fr_pop {a : Value} (d : decode cc pc = .ok (.pop, 1)) (h1 : a.category = 1) (kk : fr_Ev X E own nm cc nL ret R Q cs sl Z (pc + 1) L st I J) : fr_Ev X E own nm cc nL ret R Q cs sl Z pc L (a :: st) I J := fun C H locs ls hz hm hS hl => lv_pop C.1 C.2.1 d h1 (kk C H locs ls hz hm hS hl)
theorem fr_dup_x1 {a b : Value} (d : decode cc pc = .ok (.dup_x1, 1)) (h1 : a.category = 1) (h2 : b.category = 1) (kk : fr_Ev X E own nm cc nL ret R Q cs sl Z (pc + 1) L (a :: b :: a :: st) I J) : fr_Ev X E own nm cc nL ret R Q cs sl Z pc L (a :: b :: st) I J := fun C H locs ls hz hm hS hl => lv_dup_x1 C.1 C.2.1 d h1 h2 (kk C H locs ls hz hm hS hl)
theorem fr_dup_x2 {a b c : Value} (d : decode cc pc = .ok (.dup_x2, 1)) (h1 : a.category = 1) (h2 : b.category = 1) (h3 : c.category = 1) (kk : fr_Ev X E own nm cc nL ret R Q cs sl Z (pc + 1) L (a :: b :: c :: a :: st) I J) : fr_Ev X E own nm cc nL ret R Q cs sl Z pc L (a :: b :: c :: st) I J := fun C H locs ls hz hm hS hl => lv_dup_x2 C.1 C.2.1 d h1 h2 h3 (kk C H locs ls hz hm hS hl)
theorem fr_dup2 {a b : Value} (d : decode cc pc = .ok (.dup2, 1)) (h1 : a.category = 1) (h2 : b.category = 1) (kk : fr_Ev X E own nm cc nL ret R Q cs sl Z (pc + 1) L (a :: b :: a :: b :: st) I J) : fr_Ev X E own nm cc nL ret R Q cs sl Z pc L (a :: b :: st) I J := fun C H locs ls hz hm hS hl => lv_dup2_11 C.1 C.2.1 d h1 h2 (kk C H locs ls hz hm hS hl)
theorem fr_if_eq {x : Int32} {off : Int} (tgt : Nat) (d : decode cc pc = .ok (.ifCond .eq off, 3)) (ht : (pc : Int) + off = (tgt : Int)) (kt : x = 0 → fr_Ev X E own nm cc nL ret R Q cs sl Z tgt L st I J) (kf : ¬ x = 0 → fr_Ev X E own nm cc nL ret R Q cs sl Z (pc + 3) L st I J) : fr_Ev X E own nm cc nL ret R Q cs sl Z pc L (.int x :: st) I J := fun C H locs ls hz hm hS hl => lv_if_eq C.1 C.2.1 d ht (fun h => kt h C H locs ls hz hm hS hl) (fun h => kf h C H locs ls hz hm hS hl)
theorem fr_if_ne {x : Int32} {off : Int} (tgt : Nat) (d : decode cc pc = .ok (.ifCond .ne off, 3)) (ht : (pc : Int) + off = (tgt : Int)) (kt : ¬ x = 0 → fr_Ev X E own nm cc nL ret R Q cs sl Z tgt L st I J) (kf : x = 0 → fr_Ev X E own nm cc nL ret R Q cs sl Z (pc + 3) L st I J) : fr_Ev X E own nm cc nL ret R Q cs sl Z pc L (.int x :: st) I J := fun C H locs ls hz hm hS hl => lv_if_ne C.1 C.2.1 d ht (fun h => kt h C H locs ls hz hm hS hl) (fun h => kf h C H locs ls hz hm hS hl)
theorem fr_if_lt {x : Int32} {off : Int} (tgt : Nat) (d : decode cc pc = .ok (.ifCond .lt off, 3)) (ht : (pc : Int) + off = (tgt : Int)) (kt : x < 0 → fr_Ev X E own nm cc nL ret R Q cs sl Z tgt L st I J) (kf : ¬ x < 0 → fr_Ev X E own nm cc nL ret R Q cs sl Z (pc + 3) L st I J) : fr_Ev X E own nm cc nL ret R Q cs sl Z pc L (.int x :: st) I J := fun C H locs ls hz hm hS hl => lv_if_lt C.1 C.2.1 d ht (fun h => kt h C H locs ls hz hm hS hl) (fun h => kf h C H locs ls hz hm hS hl)
theorem fr_if_ge {x : Int32} {off : Int} (tgt : Nat) (d : decode cc pc = .ok (.ifCond .ge off, 3)) (ht : (pc : Int) + off = (tgt : Int)) (kt : 0 ≤ x → fr_Ev X E own nm cc nL ret R Q cs sl Z tgt L st I J) (kf : ¬ 0 ≤ x → fr_Ev X E own nm cc nL ret R Q cs sl Z (pc + 3) L st I J) : fr_Ev X E own nm cc nL ret R Q cs sl Z pc L (.int x :: st) I J := fun C H locs ls hz hm hS hl => lv_if_ge C.1 C.2.1 d ht (fun h => kt h C H locs ls hz hm hS hl) (fun h => kf h C H locs ls hz hm hS hl)
theorem fr_if_gt {x : Int32} {off : Int} (tgt : Nat) (d : decode cc pc = .ok (.ifCond .gt off, 3)) (ht : (pc : Int) + off = (tgt : Int)) (kt : 0 < x → fr_Ev X E own nm cc nL ret R Q cs sl Z tgt L st I J) (kf : ¬ 0 < x → fr_Ev X E own nm cc nL ret R Q cs sl Z (pc + 3) L st I J) : fr_Ev X E own nm cc nL ret R Q cs sl Z pc L (.int x :: st) I J := fun C H locs ls hz hm hS hl => lv_if_gt C.1 C.2.1 d ht (fun h => kt h C H locs ls hz hm hS hl) (fun h => kf h C H locs ls hz hm hS hl)
theorem fr_if_le {x : Int32} {off : Int} (tgt : Nat) (d : decode cc pc = .ok (.ifCond .le off, 3)) (ht : (pc : Int) + off = (tgt : Int)) (kt : x ≤ 0 → fr_Ev X E own nm cc nL ret R Q cs sl Z tgt L st I J) (kf : ¬ x ≤ 0 → fr_Ev X E own nm cc nL ret R Q cs sl Z (pc + 3) L st I J) : fr_Ev X E own nm cc nL ret R Q cs sl Z pc L (.int x :: st) I J := fun C H locs ls hz hm hS hl => lv_if_le C.1 C.2.1 d ht (fun h => kt h C H locs ls hz hm hS hl) (fun h => kf h C H locs ls hz hm hS hl)
theorem fr_icmp_eq {x y : Int32} {off : Int} (tgt : Nat) (d : decode cc pc = .ok (.if_icmp .eq off, 3)) (ht : (pc : Int) + off = (tgt : Int)) (kt : x = y → fr_Ev X E own nm cc nL ret R Q cs sl Z tgt L st I J) (kf : ¬ x = y → fr_Ev X E own nm cc nL ret R Q cs sl Z (pc + 3) L st I J) : fr_Ev X E own nm cc nL ret R Q cs sl Z pc L (.int y :: .int x :: st) I J := fun C H locs ls hz hm hS hl => lv_icmp_eq C.1 C.2.1 d ht (fun h => kt h C H locs ls hz hm hS hl) (fun h => kf h C H locs ls hz hm hS hl)
theorem fr_icmp_ne {x y : Int32} {off : Int} (tgt : Nat) (d : decode cc pc = .ok (.if_icmp .ne off, 3)) (ht : (pc : Int) + off = (tgt : Int)) (kt : ¬ x = y → fr_Ev X E own nm cc nL ret R Q cs sl Z tgt L st I J) (kf : x = y → fr_Ev X E own nm cc nL ret R Q cs sl Z (pc + 3) L st I J) : fr_Ev X E own nm cc nL ret R Q cs sl Z pc L (.int y :: .int x :: st) I J := fun C H locs ls hz hm hS hl => lv_icmp_ne C.1 C.2.1 d ht (fun h => kt h C H locs ls hz hm hS hl) (fun h => kf h C H locs ls hz hm hS hl)
theorem fr_icmp_lt {x y : Int32} {off : Int} (tgt : Nat) (d : decode cc pc = .ok (.if_icmp .lt off, 3)) (ht : (pc : Int) + off = (tgt : Int)) (kt : x < y → fr_Ev X E own nm cc nL ret R Q cs sl Z tgt L st I J) (kf : ¬ x < y → fr_Ev X E own nm cc nL ret R Q cs sl Z (pc + 3) L st I J) : fr_Ev X E own nm cc nL ret R Q cs sl Z pc L (.int y :: .int x :: st) I J := fun C H locs ls hz hm hS hl => lv_icmp_lt C.1 C.2.1 d ht (fun h => kt h C H locs ls hz hm hS hl) (fun h => kf h C H locs ls hz hm hS hl)
theorem fr_icmp_ge {x y : Int32} {off : Int} (tgt : Nat) (d : decode cc pc = .ok (.if_icmp .ge off, 3)) (ht : (pc : Int) + off = (tgt : Int)) (kt : y ≤ x → fr_Ev X E own nm cc nL ret R Q cs sl Z tgt L st I J) (kf : ¬ y ≤ x → fr_Ev X E own nm cc nL ret R Q cs sl Z (pc + 3) L st I J) : fr_Ev X E own nm cc nL ret R Q cs sl Z pc L (.int y :: .int x :: st) I J := fun C H locs ls hz hm hS hl => lv_icmp_ge C.1 C.2.1 d ht (fun h => kt h C H locs ls hz hm hS hl) (fun h => kf h C H locs ls hz hm hS hl)
theorem fr_icmp_gt {x y : Int32} {off : Int} (tgt : Nat) (d : decode cc pc = .ok (.if_icmp .gt off, 3)) (ht : (pc : Int) + off = (tgt : Int)) (kt : y < x → fr_Ev X E own nm cc nL ret R Q cs sl Z tgt L st I J) (kf : ¬ y < x → fr_Ev X E own nm cc nL ret R Q cs sl Z (pc + 3) L st I J) : fr_Ev X E own nm cc nL ret R Q cs sl Z pc L (.int y :: .int x :: st) I J := fun C H locs ls hz hm hS hl => lv_icmp_gt C.1 C.2.1 d ht (fun h => kt h C H locs ls hz hm hS hl) (fun h => kf h C H locs ls hz hm hS hl)
theorem fr_icmp_le {x y : Int32} {off : Int} (tgt : Nat) (d : decode cc pc = .ok (.if_icmp .le off, 3)) (ht : (pc : Int) + off = (tgt : Int)) (kt : x ≤ y → fr_Ev X E own nm cc nL ret R Q cs sl Z tgt L st I J) (kf : ¬ x ≤ y → fr_Ev X E own nm cc nL ret R Q cs sl Z (pc + 3) L st I J) : fr_Ev X E own nm cc nL ret R Q cs sl Z pc L (.int y :: .int x :: st) I J := fun C H locs ls hz hm hS hl => lv_icmp_le C.1 C.2.1 d ht (fun h => kt h C H locs ls hz hm hS hl) (fun h => kf h C H locs ls hz hm hS hl)
theorem fr_goto {off : Int} (tgt : Nat) (d : decode cc pc = .ok (.goto off, 3)) (ht : (pc : Int) + off = (tgt : Int)) (kk : fr_Ev X E own nm cc nL ret R Q cs sl Z tgt L st I J) : fr_Ev X E own nm cc nL ret R Q cs sl Z pc L st I J := fun C H locs ls hz hm hS hl => lv_goto C.1 C.2.1 d ht (kk C H locs ls hz hm hS hl)
theorem fr_ldc {idx : Nat} {v : Int32} (hw : Cond.constant own idx v ∈ fr_ws) (d : decode cc pc = .ok (.ldc idx, 2)) (kk : fr_Ev X E own nm cc nL ret R Q cs sl Z (pc + 2) L (.int v :: st) I J) : fr_Ev X E own nm cc nL ret R Q cs sl Z pc L st I J := fun C H locs ls hz hm hS hl => lv_ldc C.1 C.2.1 C.2.2.2.1 (C.2.2.2.2.1 _ hw) d (kk C H locs ls hz hm hS hl)
theorem fr_ldc2 {idx : Nat} {v : Int64} (hw : Cond.constantLong own idx v ∈ fr_ws) (d : decode cc pc = .ok (.ldc2_w idx, 3)) (kk : fr_Ev X E own nm cc nL ret R Q cs sl Z (pc + 3) L (.long v :: st) I J) : fr_Ev X E own nm cc nL ret R Q cs sl Z pc L st I J := fun C H locs ls hz hm hS hl => lv_ldc2 C.1 C.2.1 C.2.2.2.1 (C.2.2.2.2.1 _ hw) d (kk C H locs ls hz hm hS hl)
end FRrows
end
section
-- what the words say of a class's fields, and of a link to a field
theorem fr_nar_i (x : Int32) : narrow .int (.int x) = .int x := rfl
theorem fr_nar_b {x : Int32} (h : x = 0 ∨ x = 1) : narrow .boolean (.int x) = .int x := by
  rcases h with rfl | rfl <;> decide
theorem fr_fits_i (x : Int32) : fits .int (.int x) = true := rfl
theorem fr_fits_b {x : Int32} (h : x = 0 ∨ x = 1) : fits .boolean (.int x) = true := by
  rcases h with rfl | rfl <;> decide
section FRmem
variable {X : fr_X} {E : fr_E} {own nm : String} {cc : ByteArray} {nL : Nat} {ret : Option FieldType} {R : Room} {Q : State → Prop} {cs sl : Nat} {Z : fr_Z} {pc : Nat} {L : List (Nat × Value)} {st : List Value} {I : fr_I} {J : fr_J}
theorem fr_get {idx ci j k r : Nat} {ty : FieldType} {fin : Bool} (d : decode cc pc = .ok (.getfield idx, 3)) (hf : fr_fl own idx ci j ty fin) (hk : fr_kd k = .inl ci) (hlv : Z.2.1 k r)
    (kk : fr_Ev X E own nm cc nL ret R Q cs sl Z (pc + 3) L (fr_vl X Z.1 I J k r j :: st) I J) : fr_Ev X E own nm cc nL ret R Q cs sl Z pc L (.ref (fr_ad X k r) :: st) I J := by
  obtain ⟨p, e, s, m, args, below, meth, c⟩ := E
  intro C H locs ls hz hm hS hl
  obtain ⟨q, ty0, hc, ⟨hin, hty, hnm⟩, hj, hlink, -, -, hown2⟩ := hf
  obtain ⟨q', hq', cell, q1, q2, q3, q4⟩ := (fr_ce_o hk).mp (hm.1 k r hlv)
  obtain rfl : q' = q := Option.some.inj (hq'.symm.trans hc)
  have C' := C
  obtain ⟨hx, hb, hml, hown, hts, hK, -⟩ := C'
  obtain ⟨hSl, hfc, kC, hkC, hkind⟩ := hK.1 ci _ hc
  obtain ⟨cf, kf, fi, f, hi, hsl⟩ := hSl j hj
  refine W.getf hx hb hown (hts _ hlink) hi (u_facts hfc hkC (u_lays hts hin hj) hi).1 q1 (by rw [q3]; exact fun h => by cases h) (v := fr_vl X Z.1 I J k r j) ?_ rfl rfl d (kk C H locs ls hz hm hS hl)
  rw [hsl, q4 j hj]
theorem fr_geti {idx ci j k r : Nat} {ty : FieldType} {fin : Bool} (d : decode cc pc = .ok (.getfield idx, 3)) (hf : fr_fl own idx ci j ty fin) (hk : fr_kd k = .inl ci) (hs : fr_so k j = 0) (hlv : Z.2.1 k r)
    (kk : fr_Ev X E own nm cc nL ret R Q cs sl Z (pc + 3) L (.int (I k r j) :: st) I J) : fr_Ev X E own nm cc nL ret R Q cs sl Z pc L (.ref (fr_ad X k r) :: st) I J :=
  fr_get d hf hk hlv (by rw [fr_vl0 hs]; exact kk)
theorem fr_getl {idx ci j k r : Nat} {ty : FieldType} {fin : Bool} (d : decode cc pc = .ok (.getfield idx, 3)) (hf : fr_fl own idx ci j ty fin) (hk : fr_kd k = .inl ci) (hs : fr_so k j = 1) (hlv : Z.2.1 k r)
    (kk : fr_Ev X E own nm cc nL ret R Q cs sl Z (pc + 3) L (.long (J k r j) :: st) I J) : fr_Ev X E own nm cc nL ret R Q cs sl Z pc L (.ref (fr_ad X k r) :: st) I J :=
  fr_get d hf hk hlv (by rw [fr_vl1 hs]; exact kk)
theorem fr_getr {idx ci j k r k' r' : Nat} {ty : FieldType} {fin : Bool} (d : decode cc pc = .ok (.getfield idx, 3)) (hf : fr_fl own idx ci j ty fin) (hk : fr_kd k = .inl ci) (hs : fr_so k j = 2) (hp : Z.1 k r j = some (k', r')) (hlv : Z.2.1 k r)
    (kk : fr_Ev X E own nm cc nL ret R Q cs sl Z (pc + 3) L (.ref (fr_ad X k' r') :: st) I J) : fr_Ev X E own nm cc nL ret R Q cs sl Z pc L (.ref (fr_ad X k r) :: st) I J :=
  fr_get d hf hk hlv (by rw [fr_vl2 hs, hp]; exact kk)
/-- a field is stored (not final, or final in the class's own constructor) -/
theorem fr_put {idx ci j k r : Nat} {ty : FieldType} {fin : Bool} {v : Value} {P1 : fr_P} {I1 : fr_I} {J1 : fr_J} (d : decode cc pc = .ok (.putfield idx, 3)) (hf : fr_fl own idx ci j ty fin) (hfin : fin = false ∨ (nm = "<init>" ∧ ∃ q : vw_C, fr_cl[ci]? = some q ∧ q.1 = own)) (hk : fr_kd k = .inl ci) (hlv : Z.2.1 k r) (hn : narrow ty v = v) (hft : fits ty v = true)
    (hv1 : fr_vl X P1 I1 J1 k r j = v) (hv2 : ∀ k' r' j', ¬ (k' = k ∧ r' = r ∧ j' = j) → fr_vl X P1 I1 J1 k' r' j' = fr_vl X Z.1 I J k' r' j')
    (kk : fr_Ev X E own nm cc nL ret R Q cs sl (P1, Z.2) (pc + 3) L st I1 J1) : fr_Ev X E own nm cc nL ret R Q cs sl Z pc L (v :: .ref (fr_ad X k r) :: st) I J := by
  obtain ⟨p, e, s, m, args, below, meth, c⟩ := E
  intro C H locs ls hz hm hS hl
  obtain ⟨q, ty0, hc, ⟨hin, hty, hnm⟩, hj, hlink, htj, hfq, hown2⟩ := hf
  obtain ⟨q', hq', cell, q1, q2, q3, q4⟩ := (fr_ce_o hk).mp (hm.1 k r hlv)
  obtain rfl : q' = q := Option.some.inj (hq'.symm.trans hc)
  have C' := C
  obtain ⟨hx, hb, hml, hown, hts, hK, hNw, hret, hlk, hname, hbase⟩ := C'
  have hap := va_apart (own := own) hts hin ty0 hty hnm hK hc
  obtain ⟨hSl, hfc, kC, hkC, hkind⟩ := hK.1 ci _ hc
  obtain ⟨cf, kf, fi, f, hi, hsl⟩ := hSl j hj
  have hst := (u_facts hfc hkC (u_lays hts hin hj) hi).1
  have hlay := hts _ (hin _ (u_in_lay hj))
  unfold u_lay at hlay
  have hd : parseFieldDescriptor (q'.2.1 j).2.2.1 = some ty := by rw [hty j hj, htj]
  have hgo : ∀ H' : Heap, H'[fr_ad X k r]? = some (cell.setSlot (X.2.1.2 ci j) v) → H'.size = H.size → (∀ z, z ≠ fr_ad X k r → H'[z]? = H[z]?) → W p X.1 e R s m args below meth c H' (locs ++ [⟨fr_ad X k r, X.2.1.2 ci j⟩]) cs sl Q (F0 m (pc + 3) ls st) := by
    intro H' e1 e2 e3
    refine kk C H' _ ls (e2.trans hz) (hm.set hlv ((fr_ce_o hk).mpr ⟨_, hc, t_OB.to (V := updV (fr_vl X Z.1 I J k r) j v) ⟨_, e1, q2, q3, t_set q4 hap hj v⟩ (fun j' _ => ?_)⟩) e3 (fun k' r' j' hne => hv2 k' r' j' (fun z => hne ⟨z.1, z.2.1⟩))) (hS.put e2 e3 (hm.2.2 k r hlv)) hl
    by_cases hjj : j' = j
    · subst hjj
      rw [hv1]
      simp [updV]
    · rw [hv2 k r j' (fun z => hjj z.2.2)]
      simp [updV, hjj]
  cases fin with
  | false =>
    rw [if_neg (by rw [hfq]; decide)] at hlay
    have h6 := u_store hfc hkC hkind hlay hi hd hn hft
    refine W.putK hx hb (f := f) ⟨hown, hts _ hlink, ⟨_, _, _, hi⟩, hst⟩ (by rw [q2]; exact h6) q1 q3 (by rw [hsl]; exact k2_hasslot (q4 j hj)) rfl rfl d fun H' e1 e2 e3 => ?_
    rw [hsl] at e1 ⊢
    exact hgo H' e1 e2 e3
  | true =>
    rw [if_pos hfq] at hlay
    rcases hfin with hfin | ⟨hini, q2', hq2, hq3⟩
    · cases hfin
    obtain rfl : q2' = q' := Option.some.inj (hq2.symm.trans hc)
    have hcf : m.cls = cf := by
      obtain ⟨_, _, c', _, _, _, -, -, hf', -, -, -, hown3, -⟩ := Cond.laysFinal_spec hlay
      have e1 : c' = cf := by have := hi.symm.trans hf'; simp at this; exact this.1.symm
      rw [hown2, hq3] at hown3
      rw [← e1]; exact Option.some.inj (hown.symm.trans hown3)
    have h6 := u_fits hfc hkC hkind (Or.inr hlay) hi hd hn hft
    refine W.putFinK hx hb hown (hts _ hlink) hi hst hcf (hname.trans hini) (by rw [q2]; exact h6) q1 q3 (by rw [hsl]; exact k2_hasslot (q4 j hj)) rfl rfl d fun H' e1 e2 e3 => ?_
    rw [hsl] at e1 ⊢
    exact hgo H' e1 e2 e3
theorem fr_vl_ui {k r j : Nat} {x : Int32} {P : fr_P} (k' r' j' : Nat) (h : ¬ (k' = k ∧ r' = r ∧ j' = j)) : fr_vl X P (fr_ui I k r j x) J k' r' j' = fr_vl X P I J k' r' j' := fr_vl_eq (fr_ui_n h) rfl rfl
theorem fr_vl_uj {k r j : Nat} {x : Int64} {P : fr_P} (k' r' j' : Nat) (h : ¬ (k' = k ∧ r' = r ∧ j' = j)) : fr_vl X P I (fr_uj J k r j x) k' r' j' = fr_vl X P I J k' r' j' := fr_vl_eq rfl (fr_uj_n h) rfl
theorem fr_vl_up {k r j : Nat} {x : Option (Nat × Nat)} {P : fr_P} (k' r' j' : Nat) (h : ¬ (k' = k ∧ r' = r ∧ j' = j)) : fr_vl X (fr_up P k r j x) I J k' r' j' = fr_vl X P I J k' r' j' := fr_vl_eq rfl rfl (fr_up_n h)
theorem fr_puti {idx ci j k r : Nat} {x : Int32} (d : decode cc pc = .ok (.putfield idx, 3)) (hf : fr_fl own idx ci j .int false) (hk : fr_kd k = .inl ci) (hs : fr_so k j = 0) (hlv : Z.2.1 k r)
    (kk : fr_Ev X E own nm cc nL ret R Q cs sl Z (pc + 3) L st (fr_ui I k r j x) J) : fr_Ev X E own nm cc nL ret R Q cs sl Z pc L (.int x :: .ref (fr_ad X k r) :: st) I J :=
  fr_put (P1 := Z.1) (I1 := fr_ui I k r j x) (J1 := J) d hf (Or.inl rfl) hk hlv (fr_nar_i x) (fr_fits_i x) (by rw [fr_vl0 hs, fr_ui_s]) (fun k' r' j' h => fr_vl_ui k' r' j' h) kk
theorem fr_putz {idx ci j k r : Nat} {x : Int32} (d : decode cc pc = .ok (.putfield idx, 3)) (hf : fr_fl own idx ci j .boolean false) (hk : fr_kd k = .inl ci) (hs : fr_so k j = 0) (hx : x = 0 ∨ x = 1) (hlv : Z.2.1 k r)
    (kk : fr_Ev X E own nm cc nL ret R Q cs sl Z (pc + 3) L st (fr_ui I k r j x) J) : fr_Ev X E own nm cc nL ret R Q cs sl Z pc L (.int x :: .ref (fr_ad X k r) :: st) I J :=
  fr_put (P1 := Z.1) (I1 := fr_ui I k r j x) (J1 := J) d hf (Or.inl rfl) hk hlv (fr_nar_b hx) (fr_fits_b hx) (by rw [fr_vl0 hs, fr_ui_s]) (fun k' r' j' h => fr_vl_ui k' r' j' h) kk
theorem fr_putl {idx ci j k r : Nat} {x : Int64} (d : decode cc pc = .ok (.putfield idx, 3)) (hf : fr_fl own idx ci j .long false) (hk : fr_kd k = .inl ci) (hs : fr_so k j = 1) (hlv : Z.2.1 k r)
    (kk : fr_Ev X E own nm cc nL ret R Q cs sl Z (pc + 3) L st I (fr_uj J k r j x)) : fr_Ev X E own nm cc nL ret R Q cs sl Z pc L (.long x :: .ref (fr_ad X k r) :: st) I J :=
  fr_put (P1 := Z.1) (I1 := I) (J1 := fr_uj J k r j x) d hf (Or.inl rfl) hk hlv rfl rfl (by rw [fr_vl1 hs, fr_uj_s]) (fun k' r' j' h => fr_vl_uj k' r' j' h) kk
/-- in a constructor: an int or a boolean into a field that may be final -/
theorem fr_putFi {idx ci j k r : Nat} {x : Int32} {ty : FieldType} {fin : Bool} (q : vw_C) (d : decode cc pc = .ok (.putfield idx, 3)) (hf : fr_fl own idx ci j ty fin) (hnm : nm = "<init>") (hq : fr_cl[ci]? = some q) (hq1 : q.1 = own) (hk : fr_kd k = .inl ci) (hs : fr_so k j = 0) (hn : narrow ty (.int x) = .int x) (hft : fits ty (.int x) = true) (hlv : Z.2.1 k r)
    (kk : fr_Ev X E own nm cc nL ret R Q cs sl Z (pc + 3) L st (fr_ui I k r j x) J) : fr_Ev X E own nm cc nL ret R Q cs sl Z pc L (.int x :: .ref (fr_ad X k r) :: st) I J :=
  fr_put (P1 := Z.1) (I1 := fr_ui I k r j x) (J1 := J) d hf (Or.inr ⟨hnm, q, hq, hq1⟩) hk hlv hn hft (by rw [fr_vl0 hs, fr_ui_s]) (fun k' r' j' h => fr_vl_ui k' r' j' h) kk
/-- in a constructor: a reference into a field that may be final -/
theorem fr_putFr {idx ci j k r k' r' : Nat} {ty : FieldType} {fin : Bool} (q : vw_C) (d : decode cc pc = .ok (.putfield idx, 3)) (hf : fr_fl own idx ci j ty fin) (hnm : nm = "<init>") (hq : fr_cl[ci]? = some q) (hq1 : q.1 = own) (hk : fr_kd k = .inl ci) (hs : fr_so k j = 2) (hn : narrow ty (.ref (fr_ad X k' r')) = .ref (fr_ad X k' r')) (hft : fits ty (.ref (fr_ad X k' r')) = true) (hlv : Z.2.1 k r)
    (kk : fr_Ev X E own nm cc nL ret R Q cs sl (fr_up Z.1 k r j (some (k', r')), Z.2) (pc + 3) L st I J) : fr_Ev X E own nm cc nL ret R Q cs sl Z pc L (.ref (fr_ad X k' r') :: .ref (fr_ad X k r) :: st) I J :=
  fr_put (P1 := fr_up Z.1 k r j (some (k', r'))) (I1 := I) (J1 := J) d hf (Or.inr ⟨hnm, q, hq, hq1⟩) hk hlv hn hft (by rw [fr_vl2 hs, fr_up_s]; rfl) (fun k' r' j' h => fr_vl_up k' r' j' h) kk
-- arrays
theorem fr_iald {i : Int32} {k r N : Nat} (j : Nat) (d : decode cc pc = .ok (.iaload, 1)) (hk : fr_kd k = .inr (.int, N)) (hs : fr_so k j = 0) (hlv : Z.2.1 k r) (hi : i = nI j) (hj : j < N) (hN : N < 2 ^ 31)
    (kk : fr_Ev X E own nm cc nL ret R Q cs sl Z (pc + 1) L (.int (I k r j) :: st) I J) : fr_Ev X E own nm cc nL ret R Q cs sl Z pc L (.int i :: .ref (fr_ad X k r) :: st) I J := by
  subst hi
  intro C H locs ls hz hm hS hl
  obtain ⟨cA, a1, a2, a3⟩ := (fr_ce_a hk).mp (hm.1 k r hlv)
  refine W.iald (v := .int (I k r j)) C.1 C.2.1 a3 (a1 N _) (fun q => by cases q) (by rw [arrV_size]; exact vp_in_nI hj hN) (by rw [nI_clamp (Nat.lt_trans hj hN), arrV_read _ _ hj, fr_vl0 hs]) rfl rfl d (kk C H locs ls hz hm hS hl)
theorem fr_zald {i : Int32} {k r N : Nat} (j : Nat) (d : decode cc pc = .ok (.baload, 1)) (hk : fr_kd k = .inr (.boolean, N)) (hs : fr_so k j = 0) (hlv : Z.2.1 k r) (hi : i = nI j) (hj : j < N) (hN : N < 2 ^ 31)
    (kk : fr_Ev X E own nm cc nL ret R Q cs sl Z (pc + 1) L (.int (I k r j) :: st) I J) : fr_Ev X E own nm cc nL ret R Q cs sl Z pc L (.int i :: .ref (fr_ad X k r) :: st) I J := by
  subst hi
  intro C H locs ls hz hm hS hl
  obtain ⟨cA, a1, a2, a3⟩ := (fr_ce_a hk).mp (hm.1 k r hlv)
  refine W.zald (v := .int (I k r j)) C.1 C.2.1 a3 (a1 N _) (fun q => by cases q) (by rw [arrV_size]; exact vp_in_nI hj hN) (by rw [nI_clamp (Nat.lt_trans hj hN), arrV_read _ _ hj, fr_vl0 hs]) rfl rfl d (kk C H locs ls hz hm hS hl)
theorem fr_lald {i : Int32} {k r N : Nat} (j : Nat) (d : decode cc pc = .ok (.laload, 1)) (hk : fr_kd k = .inr (.long, N)) (hs : fr_so k j = 1) (hlv : Z.2.1 k r) (hi : i = nI j) (hj : j < N) (hN : N < 2 ^ 31)
    (kk : fr_Ev X E own nm cc nL ret R Q cs sl Z (pc + 1) L (.long (J k r j) :: st) I J) : fr_Ev X E own nm cc nL ret R Q cs sl Z pc L (.int i :: .ref (fr_ad X k r) :: st) I J := by
  subst hi
  intro C H locs ls hz hm hS hl
  obtain ⟨cA, a1, a2, a3⟩ := (fr_ce_a hk).mp (hm.1 k r hlv)
  refine W.lald (v := .long (J k r j)) C.1 C.2.1 a3 (a1 N _) (fun q => by cases q) (by rw [arrV_size]; exact vp_in_nI hj hN) (by rw [nI_clamp (Nat.lt_trans hj hN), arrV_read _ _ hj, fr_vl1 hs]) rfl rfl d (kk C H locs ls hz hm hS hl)
theorem fr_aald {i : Int32} {k r N k' r' : Nat} {CN : String} (j : Nat) (d : decode cc pc = .ok (.aaload, 1)) (hk : fr_kd k = .inr (.object CN, N)) (hs : fr_so k j = 2) (hp : Z.1 k r j = some (k', r')) (hlv : Z.2.1 k r) (hi : i = nI j) (hj : j < N) (hN : N < 2 ^ 31)
    (kk : fr_Ev X E own nm cc nL ret R Q cs sl Z (pc + 1) L (.ref (fr_ad X k' r') :: st) I J) : fr_Ev X E own nm cc nL ret R Q cs sl Z pc L (.int i :: .ref (fr_ad X k r) :: st) I J := by
  subst hi
  intro C H locs ls hz hm hS hl
  obtain ⟨cA, a1, a2, a3⟩ := (fr_ce_a hk).mp (hm.1 k r hlv)
  refine W.aald (v := .ref (fr_ad X k' r')) (ty := .object CN) C.1 C.2.1 a3 (a1 N _) rfl (fun q => by cases q) (by rw [arrV_size]; exact vp_in_nI hj hN) (by rw [nI_clamp (Nat.lt_trans hj hN), arrV_read _ _ hj, fr_vl2 hs, hp]; rfl) rfl rfl d (kk C H locs ls hz hm hS hl)
theorem fr_alen {k r N : Nat} {ty : FieldType} {v : Int32} (d : decode cc pc = .ok (.arraylength, 1)) (hk : fr_kd k = .inr (ty, N)) (hlv : Z.2.1 k r) (hv : Int32.ofNat N = v)
    (kk : fr_Ev X E own nm cc nL ret R Q cs sl Z (pc + 1) L (.int v :: st) I J) : fr_Ev X E own nm cc nL ret R Q cs sl Z pc L (.ref (fr_ad X k r) :: st) I J := by
  subst hv
  intro C H locs ls hz hm hS hl
  obtain ⟨cA, a1, a2, a3⟩ := (fr_ce_a hk).mp (hm.1 k r hlv)
  exact W.alen (n := Int32.ofNat N) C.1 C.2.1 a3 (a1 N _) (by rw [arrV_size] <;> rfl) rfl rfl d (kk C H locs ls hz hm hS hl)
theorem fr_iast {i x : Int32} {k r N : Nat} (j : Nat) (d : decode cc pc = .ok (.iastore, 1)) (hk : fr_kd k = .inr (.int, N)) (hs : fr_so k j = 0) (hlv : Z.2.1 k r) (hi : i = nI j) (hj : j < N) (hN : N < 2 ^ 31)
    (kk : fr_Ev X E own nm cc nL ret R Q cs sl Z (pc + 1) L st (fr_ui I k r j x) J) : fr_Ev X E own nm cc nL ret R Q cs sl Z pc L (.int x :: .int i :: .ref (fr_ad X k r) :: st) I J := by
  subst hi
  intro C H locs ls hz hm hS hl
  obtain ⟨cA, a1, a2, a3⟩ := (fr_ce_a hk).mp (hm.1 k r hlv)
  refine W.iast C.1 C.2.1 a3 (a1 N _) (fun q => by cases q) (by rw [arrV_size]; exact vp_in_nI hj hN) rfl rfl d fun H' e1 e2 e3 => ?_
  rw [nI_clamp (Nat.lt_trans hj hN)] at e1 ⊢
  refine kk C H' _ ls (e2.trans hz) (hm.set (P1 := Z.1) (I1 := fr_ui I k r j x) (J1 := J) hlv ((fr_ce_a hk).mpr ⟨cA, a1, a2, ?_⟩) e3 (fun k' r' j' h => fr_vl_ui k' r' j' (fun z => h ⟨z.1, z.2.1⟩))) (hS.put e2 e3 (hm.2.2 k r hlv)) hl
  rw [e1, arrV_store]
  congr 2
  funext j'
  by_cases hq : j' = j
  · subst hq
    rw [fr_vl0 hs, fr_ui_s]
    simp [updV]
  · rw [fr_vl_ui k r j' (fun z => hq z.2.2)]
    simp [updV, hq]
theorem fr_zast {i x : Int32} {k r N : Nat} (j : Nat) (d : decode cc pc = .ok (.bastore, 1)) (hk : fr_kd k = .inr (.boolean, N)) (hs : fr_so k j = 0) (hx : x = 0 ∨ x = 1) (hlv : Z.2.1 k r) (hi : i = nI j) (hj : j < N) (hN : N < 2 ^ 31)
    (kk : fr_Ev X E own nm cc nL ret R Q cs sl Z (pc + 1) L st (fr_ui I k r j x) J) : fr_Ev X E own nm cc nL ret R Q cs sl Z pc L (.int x :: .int i :: .ref (fr_ad X k r) :: st) I J := by
  subst hi
  intro C H locs ls hz hm hS hl
  obtain ⟨cA, a1, a2, a3⟩ := (fr_ce_a hk).mp (hm.1 k r hlv)
  refine W.zast C.1 C.2.1 a3 (a1 N _) (fun q => by cases q) (by rw [arrV_size]; exact vp_in_nI hj hN) rfl rfl d fun H' e1 e2 e3 => ?_
  rw [nI_clamp (Nat.lt_trans hj hN)] at e1 ⊢
  rw [fr_nar_b hx] at e1
  refine kk C H' _ ls (e2.trans hz) (hm.set (P1 := Z.1) (I1 := fr_ui I k r j x) (J1 := J) hlv ((fr_ce_a hk).mpr ⟨cA, a1, a2, ?_⟩) e3 (fun k' r' j' h => fr_vl_ui k' r' j' (fun z => h ⟨z.1, z.2.1⟩))) (hS.put e2 e3 (hm.2.2 k r hlv)) hl
  rw [e1, arrV_store]
  congr 2
  funext j'
  by_cases hq : j' = j
  · subst hq
    rw [fr_vl0 hs, fr_ui_s]
    simp [updV]
  · rw [fr_vl_ui k r j' (fun z => hq z.2.2)]
    simp [updV, hq]
theorem fr_last {i : Int32} {x : Int64} {k r N : Nat} (j : Nat) (d : decode cc pc = .ok (.lastore, 1)) (hk : fr_kd k = .inr (.long, N)) (hs : fr_so k j = 1) (hlv : Z.2.1 k r) (hi : i = nI j) (hj : j < N) (hN : N < 2 ^ 31)
    (kk : fr_Ev X E own nm cc nL ret R Q cs sl Z (pc + 1) L st I (fr_uj J k r j x)) : fr_Ev X E own nm cc nL ret R Q cs sl Z pc L (.long x :: .int i :: .ref (fr_ad X k r) :: st) I J := by
  subst hi
  intro C H locs ls hz hm hS hl
  obtain ⟨cA, a1, a2, a3⟩ := (fr_ce_a hk).mp (hm.1 k r hlv)
  refine W.last C.1 C.2.1 a3 (a1 N _) (fun q => by cases q) (by rw [arrV_size]; exact vp_in_nI hj hN) rfl rfl d fun H' e1 e2 e3 => ?_
  rw [nI_clamp (Nat.lt_trans hj hN)] at e1 ⊢
  refine kk C H' _ ls (e2.trans hz) (hm.set (P1 := Z.1) (I1 := I) (J1 := fr_uj J k r j x) hlv ((fr_ce_a hk).mpr ⟨cA, a1, a2, ?_⟩) e3 (fun k' r' j' h => fr_vl_uj k' r' j' (fun z => h ⟨z.1, z.2.1⟩))) (hS.put e2 e3 (hm.2.2 k r hlv)) hl
  rw [e1, arrV_store]
  congr 2
  funext j'
  by_cases hq : j' = j
  · subst hq
    rw [fr_vl1 hs, fr_uj_s]
    simp [updV]
  · rw [fr_vl_uj k r j' (fun z => hq z.2.2)]
    simp [updV, hq]
/-- a reference to an object into an array of its class -/
theorem fr_aast {i : Int32} {k r N k' r' ci : Nat} (q : vw_C) (j : Nat) (d : decode cc pc = .ok (.aastore, 1)) (hk : fr_kd k = .inr (.object q.1, N)) (hs : fr_so k j = 2) (hk' : fr_kd k' = .inl ci) (hq : fr_cl[ci]? = some q) (hlv : Z.2.1 k r) (hlv' : Z.2.1 k' r') (hi : i = nI j) (hj : j < N) (hN : N < 2 ^ 31)
    (kk : fr_Ev X E own nm cc nL ret R Q cs sl (fr_up Z.1 k r j (some (k', r')), Z.2) (pc + 1) L st I J) : fr_Ev X E own nm cc nL ret R Q cs sl Z pc L (.ref (fr_ad X k' r') :: .int i :: .ref (fr_ad X k r) :: st) I J := by
  subst hi
  obtain ⟨p, e, s, m, args, below, meth, c⟩ := E
  intro C H locs ls hz hm hS hl
  obtain ⟨cA, a1, a2, a3⟩ := (fr_ce_a hk).mp (hm.1 k r hlv)
  obtain ⟨qq, hqq, cellV, g1, g2, g3, -⟩ := (fr_ce_o hk').mp (hm.1 k' r' hlv')
  have C' := C
  obtain ⟨hx, hb, hml, hown, hts, hK, -⟩ := C'
  have hcls := (hK.1 ci q hq).2
  obtain ⟨kA, comp, k1, k2, k3, k4⟩ := a2
  have hcomp : comp = X.2.1.1 ci := Option.some.inj (k3.symm.trans hcls.1)
  subst hcomp
  have hcls2 := hcls
  obtain ⟨-, kC, hkC, -⟩ := hcls2
  have hin := vp_in_nI hj hN
  have hcl := nI_clamp (Nat.lt_trans hj hN)
  refine W.aast hx hb a3 (fun q h => by cases h) (fun h => by cases h) k1 k2 rfl hkC ⟨fun q => hin (Or.inl q), by rw [arrV_size, hcl]; exact hj⟩ g1 (fun q h => by rw [g3] at h; cases h) (by rw [g2]; exact hkC) (by rw [g2]; exact va_assign hcls) rfl rfl d fun H' e1 e2 e3 => ?_
  rw [hcl] at e1 ⊢
  refine kk C H' _ ls (e2.trans hz) (hm.set (P1 := fr_up Z.1 k r j (some (k', r'))) (I1 := I) (J1 := J) hlv ((fr_ce_a hk).mpr ⟨cA, a1, ⟨kA, _, k1, k2, k3, k4⟩, ?_⟩) e3 (fun k' r' j' h => fr_vl_up k' r' j' (fun z => h ⟨z.1, z.2.1⟩))) (hS.put e2 e3 (hm.2.2 k r hlv)) hl
  rw [e1, arrV_store]
  congr 2
  funext j'
  by_cases hq : j' = j
  · subst hq
    rw [fr_vl2 hs, fr_up_s]
    simp [updV, va_rf]
  · rw [fr_vl_up k r j' (fun z => hq z.2.2)]
    simp [updV, hq]
end FRmem
end
section
-- contracts: what goes in, what comes out
def fr_Qc (X : fr_X) (Z' : fr_Z) (post : Option Value → fr_I → fr_J → Prop) : Array Value → State → Outcome → State → Prop := fun _ st oc t =>
  ∃ (v : Option Value) (I' : fr_I) (J' : fr_J), oc = .returned v ∧ post v I' J' ∧ t.heap.size = Z'.2.2 ∧ fr_ok X Z' I' J' t t.heap ∧ va_F (fun q => X.2.2.2 ≤ q) st t
def fr_Pr (X : fr_X) (Z : fr_Z) (I : fr_I) (J : fr_J) (U : State) : Prop := U.heap.size = Z.2.2 ∧ fr_ok X Z I J U U.heap ∧ va_K X.2.1 fr_cl [] U ∧ ((∀ q ∈ fr_nw, va_Nw (.methodLinkNest q.1 q.2.1 q.2.2.1 q.2.2.2) U) ∧ va_AO fr_aC U) ∧ X.2.2.2 ≤ U.heap.size
def fr_Ct (X : fr_X) (y : MethodName) (b : ByteArray) (nL : Nat) (ret : Option FieldType) (R : Room) (av : List Value) (Z Z' : fr_Z) (I : fr_I) (J : fr_J) (post : Option Value → fr_I → fr_J → Prop) : Prop :=
  Met X.1 y (Cond.code y b nL ret :: fr_ws) R (va_Pc av (fr_Pr X Z I J)) (fr_Qc X Z' post) R.cells R.slots (fun q => X.2.2.2 ≤ q)
def fr_pi (q : Int32 → fr_I → fr_J → Prop) : Option Value → fr_I → fr_J → Prop := fun v I J => ∃ x : Int32, v = some (.int x) ∧ q x I J
def fr_pl (q : Int64 → fr_I → fr_J → Prop) : Option Value → fr_I → fr_J → Prop := fun v I J => ∃ x : Int64, v = some (.long x) ∧ q x I J
def fr_pv (q : fr_I → fr_J → Prop) : Option Value → fr_I → fr_J → Prop := fun v I J => v = none ∧ q I J
/-- a method's end as W has it -/
def fr_Q (X : fr_X) (E : fr_E) (Z' : fr_Z) (post : Option Value → fr_I → fr_J → Prop) (R : Room) : State → Prop := MQ E.2.2.2.2.2.1 (fr_Qc X Z' post) E.2.2.2.2.1 E.2.2.1 R.cells R.slots (fun q => X.2.2.2 ≤ q)
theorem fr_ct {X : fr_X} {y : MethodName} {b : ByteArray} {nL : Nat} {ret : Option FieldType} {R : Room} {av : List Value} {Z Z' : fr_Z} {I : fr_I} {J : fr_J} {post : Option Value → fr_I → fr_J → Prop} {own nm : String} {L : List (Nat × Value)} (hy : plainName y.cls = true) (ho : y.cls = own) (hn : y.name = nm) (ha : (lg_sl av).length ≤ nL) (hL : lv_args 0 av = L)
    (h : ∀ E, fr_Ev X E own nm b nL ret R (fr_Q X E Z' post R) 0 0 Z 0 L [] I J) : fr_Ct X y b nL ret R av Z Z' I J post := by
  subst ho hn hL
  refine Met.ofW (cc := b) (maxL := nL) (ret := ret) hy rfl ?_
  intro p e s m args below meth c s₁ B hml hv
  obtain ⟨rfl, hsz, hok, hK, hN, hbase⟩ := hv
  have hts := atoms_spec (ws := Cond.code y b nL ret :: fr_ws) B.pre
  rw [lg_entry_eq]
  exact h (p, e, s, m, av.toArray, below, meth, c) ⟨B.exec, B.bytes, hml, findClass_of_methodNamed B.named, fun w hw => hts w (List.mem_cons_of_mem _ hw), hK, hN, B.returns, B.notSynchronized, (name_of_methodNamed B.named B.method).1, hbase⟩ s.heap [] _ hsz hok va_S.rf (lv_entry av ha)
section FRcalls
variable {X : fr_X} {E : fr_E} {own nm : String} {cc : ByteArray} {nL : Nat} {ret : Option FieldType} {R : Room} {Q : State → Prop} {cs sl : Nat} {Z Z' : fr_Z} {pc : Nat} {L : List (Nat × Value)} {st st0 : List Value} {I : fr_I} {J : fr_J} {post : Option Value → fr_I → fr_J → Prop}
-- returns
theorem fr_vret {q : fr_I → fr_J → Prop} (d : decode cc pc = .ok (.return_, 1)) (hr : ret = none) (hc : cs ≤ R.cells) (hsl : sl ≤ R.slots) (hp : q I J) : fr_Ev X E own nm cc nL ret R (fr_Q X E Z (fr_pv q) R) cs sl Z pc L [] I J := by
  intro C H locs ls hz hm hS hl
  refine W.widen hc hsl ?_
  exact W.vret C.1 C.2.1 (C.2.2.2.2.2.2.2.1.trans hr) (fun t ht hW => ⟨none, I, J, rfl, ⟨rfl, hp⟩, by rw [ht]; exact hz, by rw [ht]; exact hm.moved hW.alike, hS.F ht⟩) hS.2.2 d C.2.2.2.2.2.2.2.2.1
theorem fr_iret {q : Int32 → fr_I → fr_J → Prop} {x : Int32} {ty : FieldType} (d : decode cc pc = .ok (.ireturn, 1)) (hr : ret = some ty) (hn : narrow ty (.int x) = .int x) (hc : cs ≤ R.cells) (hsl : sl ≤ R.slots) (hp : q x I J) : fr_Ev X E own nm cc nL ret R (fr_Q X E Z (fr_pi q) R) cs sl Z pc L [.int x] I J := by
  intro C H locs ls hz hm hS hl
  refine W.widen hc hsl ?_
  exact W.zret C.1 C.2.1 (C.2.2.2.2.2.2.2.1.trans hr) hn (fun t ht hW => ⟨some (.int x), I, J, rfl, ⟨x, rfl, hp⟩, by rw [ht]; exact hz, by rw [ht]; exact hm.moved hW.alike, hS.F ht⟩) hS.2.2 d C.2.2.2.2.2.2.2.2.1
theorem fr_lret {q : Int64 → fr_I → fr_J → Prop} {x : Int64} (d : decode cc pc = .ok (.lreturn, 1)) (hr : ret = some .long) (hc : cs ≤ R.cells) (hsl : sl ≤ R.slots) (hp : q x I J) : fr_Ev X E own nm cc nL ret R (fr_Q X E Z (fr_pl q) R) cs sl Z pc L [.long x] I J := by
  intro C H locs ls hz hm hS hl
  refine W.widen hc hsl ?_
  exact W.lret C.1 C.2.1 (C.2.2.2.2.2.2.2.1.trans hr) (fun t ht hW => ⟨some (.long x), I, J, rfl, ⟨x, rfl, hp⟩, by rw [ht]; exact hz, by rw [ht]; exact hm.moved hW.alike, hS.F ht⟩) hS.2.2 d C.2.2.2.2.2.2.2.2.1
-- calls
theorem fr_blind {X : fr_X} {av : List Value} {Z : fr_Z} {I : fr_I} {J : fr_J} : FrameBlind (va_Pc av (fr_Pr X Z I J)) := by
  intro a U g mk q
  obtain ⟨q0, q1, q2, q3, q4, q5⟩ := q
  exact ⟨q0, q1, fr_ok.moved (U := U) (V := U.calling g mk a) (Vm.Alike.refl U.vm) q2, va_K.moved (u := U) (U := U.calling g mk a) (Vm.Alike.refl U.vm) q3, ⟨fun w hw => va_Nw.same (u := U) (U := U.calling g mk a) rfl rfl (q4.1 w hw), va_AO.moved (u := U) (U := U.calling g mk a) (Vm.Alike.refl U.vm) q4.2⟩, q5⟩
theorem fr_pre {H : Heap} {locs : List Loc} (C : fr_Cx X E own nm cc nL ret) (hz : H.size = Z.2.2) (hm : fr_ok X Z I J E.2.2.1 H) (hS : va_S (fun q => X.2.2.2 ≤ q) E.2.2.1.heap H locs) (U : State) (hU : U.heap = H) (hW : E.2.2.1.WarmedH U.vm) : fr_Pr X Z I J U := by
  obtain ⟨-, -, -, -, -, hK, hN, -, -, -, hb⟩ := C
  exact ⟨by rw [hU]; exact hz, by rw [hU]; exact hm.moved hW.alike, va_K.moved hW.alike hK, ⟨fun q hq => va_Nw.warmM hW (hN.1 q hq), va_AO.moved hW.alike hN.2⟩, by rw [hU]; exact Nat.le_trans hb hS.1⟩
theorem fr_goodc {y : MethodName} {b : ByteArray} {n : Nat} {rt : Option FieldType} (h : Cond.code y b n rt ∈ fr_ws) : GoodIn fr_ws (Cond.code y b n rt :: fr_ws) := by
  intro w hw
  rcases List.mem_cons.mp hw with rfl | hw
  · exact ⟨h, Or.inl rfl⟩
  · exact ⟨hw, fr_good w hw⟩
theorem fr_back {H : Heap} {locs : List Loc} {ls : Array Slot} {mc ms : Nat} {a : Array Value} (kk : ∀ v I' J', post v I' J' → fr_Ev X E own nm cc nL ret R Q (cs + mc) (sl + ms) Z' (pc + 3) L (v.toList ++ st) I' J') (C : fr_Cx X E own nm cc nL ret) (hS : va_S (fun q => X.2.2.2 ≤ q) E.2.2.1.heap H locs) (hl : lv_has ls nL L)
    (run : va_Run E.1 X.1 E.2.1 R E.2.2.1 E.2.2.2.1 E.2.2.2.2.1 E.2.2.2.2.2.1 E.2.2.2.2.2.2.1 E.2.2.2.2.2.2.2 H locs cs sl mc ms (F0 E.2.2.2.1 pc ls st0) st (fr_Qc X Z' post a) (fun q => X.2.2.2 ≤ q)) :
    W E.1 X.1 E.2.1 R E.2.2.1 E.2.2.2.1 E.2.2.2.2.1 E.2.2.2.2.2.1 E.2.2.2.2.2.2.1 E.2.2.2.2.2.2.2 H locs cs sl Q (F0 E.2.2.2.1 pc ls st0) := by
  intro T hT X0
  obtain ⟨v, st₀, t, T', L', h0, X', hL, e1, e2, ⟨v', I', J', hv, hp, hz', hok, hF⟩, stp⟩ := run T hT X0
  cases hv
  unfold va_F at hF
  rw [h0] at hF
  have hal : E.2.2.1.vm.Alike t.vm := by rw [← e2]; exact X'.warmed.alike
  obtain ⟨t2, a1, b1⟩ := kk v I' J' hp C T'.heap (locs ++ L') ls (by rw [e1]; exact hz') (by rw [e1]; exact hok.moved hal.symm)
    ⟨Nat.le_trans hS.1 (by rw [e1]; exact hF.1), fun q h1 h2 => by rw [e1, hF.2 q (Nat.lt_of_lt_of_le h1 hS.1) h2]; exact hS.2.1 q h1 h2, fun q hq => by
      rcases List.mem_append.mp hq with h | h
      · exact hS.2.2 q h
      · exact hL q h⟩ hl T' rfl X'
  exact ⟨t2, stp t2 a1, b1⟩
theorem fr_callV0 {idx n n' k r ci : Nat} {y : MethodName} {b : ByteArray} {rt : Option FieldType} {R' : Room} {As : List Value} (qc : vw_C) (d : decode cc pc = .ok (.invokevirtual idx, 3)) (hM : fr_Ct X y b n' rt R' (.ref (fr_ad X k r) :: As) Z Z' I J post) (hw : fr_mv own idx y b n' rt n) (hk : fr_kd k = .inl ci) (hq : fr_cl[ci]? = some qc) (hq1 : qc.1 = y.cls) (hlv : Z.2.1 k r) (hn : As.length = n)
    (hst : st0 = As.reverse ++ .ref (fr_ad X k r) :: st) (hR : R'.frames + 1 ≤ R.frames ∧ 8 + (n' + 11) + R'.locals ≤ R.locals) (hc : cs + R'.cells ≤ R.cells ∧ sl + R'.slots ≤ R.slots) (hrm : (st.map fun v => v.category).sum ≤ 8)
    (kk : ∀ v I' J', post v I' J' → fr_Ev X E own nm cc nL ret R Q (cs + R'.cells) (sl + R'.slots) Z' (pc + 3) L (v.toList ++ st) I' J') : fr_Ev X E own nm cc nL ret R Q cs sl Z pc L st0 I J := by
  intro C H locs ls hz hm hS hl
  obtain ⟨⟨w1, w2, w3, w4, w5, w6⟩, w7, w8⟩ := hw
  have hts := C.2.2.2.2.1
  obtain ⟨q', hq', cell, q1, q2, q3, -⟩ := (fr_ce_o hk).mp (hm.1 k r hlv)
  refine fr_back kk C hS hl (va_runV (C := y.cls) (b := fr_ad X k r) (As := As) (n := n) (bytes := b) (maxL := n') (ret := rt) (Ts := fr_ws) (nL := nL) (cc := cc) (own := own) ⟨C.1, C.2.1, C.2.2.1, C.2.2.2.1, hts⟩ hM
    ⟨callB_of n hts (fr_goodc w3) rfl rfl rfl (hts _ w2) (hts _ w1) ⟨w4, w5, w6⟩ hR, hts _ w7, hts _ w8⟩
    ⟨fr_blind, ⟨cell, q1, by rw [q3]; rfl, by rw [q2, ← hq1]; exact (C.2.2.2.2.2.1.1 ci qc hq).2.1⟩, fun U hU hW => ⟨rfl, fr_pre C hz hm hS U hU hW⟩⟩ rfl hn hl.1 hst (lv_room hrm) d hc)
theorem fr_callS0 {idx n n' : Nat} {y : MethodName} {b : ByteArray} {rt : Option FieldType} {R' : Room} {As : List Value} (d : decode cc pc = .ok (.invokestatic idx, 3)) (hM : fr_Ct X y b n' rt R' As Z Z' I J post) (hw : fr_ms own idx y b n' rt n) (hn : As.length = n)
    (hst : st0 = As.reverse ++ st) (hR : R'.frames + 1 ≤ R.frames ∧ 8 + (n' + 11) + R'.locals ≤ R.locals) (hc : cs + R'.cells ≤ R.cells ∧ sl + R'.slots ≤ R.slots) (hrm : (st.map fun v => v.category).sum ≤ 8)
    (kk : ∀ v I' J', post v I' J' → fr_Ev X E own nm cc nL ret R Q (cs + R'.cells) (sl + R'.slots) Z' (pc + 3) L (v.toList ++ st) I' J') : fr_Ev X E own nm cc nL ret R Q cs sl Z pc L st0 I J := by
  intro C H locs ls hz hm hS hl
  obtain ⟨⟨w1, w2, w3, w4, w5, w6⟩, w7⟩ := hw
  have hts := C.2.2.2.2.1
  refine fr_back kk C hS hl (va_runS (As := As) (n := n) (bytes := b) (maxL := n') (ret := rt) (Ts := fr_ws) (nL := nL) (cc := cc) (own := own) ⟨C.1, C.2.1, C.2.2.1, C.2.2.2.1, hts⟩ hM
    ⟨callB_of n hts (fr_goodc w3) rfl rfl rfl (hts _ w2) (hts _ w1) ⟨w4, w5, w6⟩ hR, hts _ w7⟩
    ⟨fr_blind, fun U hU hW => ⟨rfl, fr_pre C hz hm hS U hU hW⟩⟩ rfl hn hl.1 hst (lv_room hrm) d hc)
theorem fr_callI0 {idx n n' k r : Nat} {y : MethodName} {b : ByteArray} {R' : Room} {As : List Value} (d : decode cc pc = .ok (.invokespecial idx, 3)) (hM : fr_Ct X y b n' none R' (.ref (fr_ad X k r) :: As) Z Z' I J post) (hw : fr_mi own idx y b n' n) (hn : As.length = n)
    (hst : st0 = As.reverse ++ .ref (fr_ad X k r) :: st) (hR : R'.frames + 1 ≤ R.frames ∧ 8 + (n' + 11) + R'.locals ≤ R.locals) (hc : cs + R'.cells ≤ R.cells ∧ sl + R'.slots ≤ R.slots) (hrm : (st.map fun v => v.category).sum ≤ 8)
    (kk : ∀ v I' J', post v I' J' → fr_Ev X E own nm cc nL ret R Q (cs + R'.cells) (sl + R'.slots) Z' (pc + 3) L (v.toList ++ st) I' J') : fr_Ev X E own nm cc nL ret R Q cs sl Z pc L st0 I J := by
  intro C H locs ls hz hm hS hl
  obtain ⟨⟨w1, w2, w3, w4, w5, w6⟩, w7, w8⟩ := hw
  have hts := C.2.2.2.2.1
  refine fr_back kk C hS hl (va_runI (b := fr_ad X k r) (As := As) (n := n) (bytes := b) (maxL := n') (Ts := fr_ws) (nL := nL) (cc := cc) (own := own) ⟨C.1, C.2.1, C.2.2.1, C.2.2.2.1, hts⟩ hM
    ⟨callB_of n hts (fr_goodc w3) rfl rfl rfl (hts _ w2) (hts _ w1) ⟨w4, w5, w6⟩ hR, w8, hts _ w7⟩
    ⟨fr_blind, fun U hU hW => ⟨rfl, fr_pre C hz hm hS U hU hW⟩⟩ rfl hn hl.1 hst (lv_room hrm) d hc)
theorem fr_callN0 {idx n n' k r : Nat} {y : MethodName} {host : String} {b : ByteArray} {R' : Room} {As : List Value} (d : decode cc pc = .ok (.invokespecial idx, 3)) (hM : fr_Ct X y b n' none R' (.ref (fr_ad X k r) :: As) Z Z' I J post) (hw : fr_mn own idx y host b n' n) (hn : As.length = n)
    (hst : st0 = As.reverse ++ .ref (fr_ad X k r) :: st) (hR : R'.frames + 1 ≤ R.frames ∧ 8 + (n' + 11) + R'.locals ≤ R.locals) (hc : cs + R'.cells ≤ R.cells ∧ sl + R'.slots ≤ R.slots) (hrm : (st.map fun v => v.category).sum ≤ 8)
    (kk : ∀ v I' J', post v I' J' → fr_Ev X E own nm cc nL ret R Q (cs + R'.cells) (sl + R'.slots) Z' (pc + 3) L (v.toList ++ st) I' J') : fr_Ev X E own nm cc nL ret R Q cs sl Z pc L st0 I J := by
  intro C H locs ls hz hm hS hl
  obtain ⟨w1, w2, w3, w4, w7, w8⟩ := hw
  have hts := C.2.2.2.2.1
  refine fr_back kk C hS hl (va_runIN (host := host) (b := fr_ad X k r) (As := As) (n := n) (bytes := b) (maxL := n') (Ts := fr_ws) (nL := nL) (cc := cc) (own := own) ⟨C.1, C.2.1, C.2.2.1, C.2.2.2.1, hts⟩ hM
    ⟨va_cnB n hts (fr_goodc w3) rfl rfl rfl (C.2.2.2.2.2.2.1.1 _ w1) (hts _ w2) w4 hR, w8, hts _ w7⟩
    ⟨fr_blind, fun U hU hW => ⟨rfl, fr_pre C hz hm hS U hU hW⟩⟩ rfl hn hl.1 hst (lv_room hrm) d hc)
-- the same by what the callee answers, for callees that make nothing
theorem fr_callVi {idx n n' k r ci : Nat} {y : MethodName} {b : ByteArray} {rt : Option FieldType} {R' : Room} {As : List Value} {q : Int32 → fr_I → fr_J → Prop} (qc : vw_C) (d : decode cc pc = .ok (.invokevirtual idx, 3)) (hM : fr_Ct X y b n' rt R' (.ref (fr_ad X k r) :: As) Z Z I J (fr_pi q)) (hw : fr_mv own idx y b n' rt n) (hk : fr_kd k = .inl ci) (hq : fr_cl[ci]? = some qc) (hq1 : qc.1 = y.cls) (hlv : Z.2.1 k r) (hn : As.length = n)
    (hst : st0 = As.reverse ++ .ref (fr_ad X k r) :: st) (hR : R'.frames + 1 ≤ R.frames ∧ 8 + (n' + 11) + R'.locals ≤ R.locals) (h0 : R'.cells = 0 ∧ R'.slots = 0) (hc : cs ≤ R.cells ∧ sl ≤ R.slots) (hrm : (st.map fun v => v.category).sum ≤ 8)
    (kk : ∀ x I' J', q x I' J' → fr_Ev X E own nm cc nL ret R Q cs sl Z (pc + 3) L (.int x :: st) I' J') : fr_Ev X E own nm cc nL ret R Q cs sl Z pc L st0 I J :=
  fr_callV0 qc d hM hw hk hq hq1 hlv hn hst hR (by rw [h0.1, h0.2]; exact hc) hrm (fun v I' J' hp => by obtain ⟨x, rfl, hx⟩ := hp; rw [h0.1, h0.2]; exact kk x I' J' hx)
theorem fr_callVl {idx n n' k r ci : Nat} {y : MethodName} {b : ByteArray} {rt : Option FieldType} {R' : Room} {As : List Value} {q : Int64 → fr_I → fr_J → Prop} (qc : vw_C) (d : decode cc pc = .ok (.invokevirtual idx, 3)) (hM : fr_Ct X y b n' rt R' (.ref (fr_ad X k r) :: As) Z Z I J (fr_pl q)) (hw : fr_mv own idx y b n' rt n) (hk : fr_kd k = .inl ci) (hq : fr_cl[ci]? = some qc) (hq1 : qc.1 = y.cls) (hlv : Z.2.1 k r) (hn : As.length = n)
    (hst : st0 = As.reverse ++ .ref (fr_ad X k r) :: st) (hR : R'.frames + 1 ≤ R.frames ∧ 8 + (n' + 11) + R'.locals ≤ R.locals) (h0 : R'.cells = 0 ∧ R'.slots = 0) (hc : cs ≤ R.cells ∧ sl ≤ R.slots) (hrm : (st.map fun v => v.category).sum ≤ 8)
    (kk : ∀ x I' J', q x I' J' → fr_Ev X E own nm cc nL ret R Q cs sl Z (pc + 3) L (.long x :: st) I' J') : fr_Ev X E own nm cc nL ret R Q cs sl Z pc L st0 I J :=
  fr_callV0 qc d hM hw hk hq hq1 hlv hn hst hR (by rw [h0.1, h0.2]; exact hc) hrm (fun v I' J' hp => by obtain ⟨x, rfl, hx⟩ := hp; rw [h0.1, h0.2]; exact kk x I' J' hx)
theorem fr_callVv {idx n n' k r ci : Nat} {y : MethodName} {b : ByteArray} {rt : Option FieldType} {R' : Room} {As : List Value} {q : fr_I → fr_J → Prop} (qc : vw_C) (d : decode cc pc = .ok (.invokevirtual idx, 3)) (hM : fr_Ct X y b n' rt R' (.ref (fr_ad X k r) :: As) Z Z I J (fr_pv q)) (hw : fr_mv own idx y b n' rt n) (hk : fr_kd k = .inl ci) (hq : fr_cl[ci]? = some qc) (hq1 : qc.1 = y.cls) (hlv : Z.2.1 k r) (hn : As.length = n)
    (hst : st0 = As.reverse ++ .ref (fr_ad X k r) :: st) (hR : R'.frames + 1 ≤ R.frames ∧ 8 + (n' + 11) + R'.locals ≤ R.locals) (h0 : R'.cells = 0 ∧ R'.slots = 0) (hc : cs ≤ R.cells ∧ sl ≤ R.slots) (hrm : (st.map fun v => v.category).sum ≤ 8)
    (kk : ∀ I' J', q I' J' → fr_Ev X E own nm cc nL ret R Q cs sl Z (pc + 3) L st I' J') : fr_Ev X E own nm cc nL ret R Q cs sl Z pc L st0 I J :=
  fr_callV0 qc d hM hw hk hq hq1 hlv hn hst hR (by rw [h0.1, h0.2]; exact hc) hrm (fun v I' J' hp => by obtain ⟨rfl, hx⟩ := hp; rw [h0.1, h0.2]; exact kk I' J' hx)
theorem fr_callSi {idx n n' : Nat} {y : MethodName} {b : ByteArray} {rt : Option FieldType} {R' : Room} {As : List Value} {q : Int32 → fr_I → fr_J → Prop} (d : decode cc pc = .ok (.invokestatic idx, 3)) (hM : fr_Ct X y b n' rt R' As Z Z I J (fr_pi q)) (hw : fr_ms own idx y b n' rt n) (hn : As.length = n)
    (hst : st0 = As.reverse ++ st) (hR : R'.frames + 1 ≤ R.frames ∧ 8 + (n' + 11) + R'.locals ≤ R.locals) (h0 : R'.cells = 0 ∧ R'.slots = 0) (hc : cs ≤ R.cells ∧ sl ≤ R.slots) (hrm : (st.map fun v => v.category).sum ≤ 8)
    (kk : ∀ x I' J', q x I' J' → fr_Ev X E own nm cc nL ret R Q cs sl Z (pc + 3) L (.int x :: st) I' J') : fr_Ev X E own nm cc nL ret R Q cs sl Z pc L st0 I J :=
  fr_callS0 d hM hw hn hst hR (by rw [h0.1, h0.2]; exact hc) hrm (fun v I' J' hp => by obtain ⟨x, rfl, hx⟩ := hp; rw [h0.1, h0.2]; exact kk x I' J' hx)
theorem fr_callSv {idx n n' : Nat} {y : MethodName} {b : ByteArray} {rt : Option FieldType} {R' : Room} {As : List Value} {q : fr_I → fr_J → Prop} (d : decode cc pc = .ok (.invokestatic idx, 3)) (hM : fr_Ct X y b n' rt R' As Z Z I J (fr_pv q)) (hw : fr_ms own idx y b n' rt n) (hn : As.length = n)
    (hst : st0 = As.reverse ++ st) (hR : R'.frames + 1 ≤ R.frames ∧ 8 + (n' + 11) + R'.locals ≤ R.locals) (h0 : R'.cells = 0 ∧ R'.slots = 0) (hc : cs ≤ R.cells ∧ sl ≤ R.slots) (hrm : (st.map fun v => v.category).sum ≤ 8)
    (kk : ∀ I' J', q I' J' → fr_Ev X E own nm cc nL ret R Q cs sl Z (pc + 3) L st I' J') : fr_Ev X E own nm cc nL ret R Q cs sl Z pc L st0 I J :=
  fr_callS0 d hM hw hn hst hR (by rw [h0.1, h0.2]; exact hc) hrm (fun v I' J' hp => by obtain ⟨rfl, hx⟩ := hp; rw [h0.1, h0.2]; exact kk I' J' hx)
end FRcalls
end
section
-- making cells
def fr_dv (k j : Nat) : Value := match fr_so k j with
  | 0 => .int 0
  | 1 => .long 0
  | _ => .null
theorem fr_vl_z {X : fr_X} {P : fr_P} {I : fr_I} {J : fr_J} {k r : Nat} (j : Nat) : fr_vl X (fr_zp P k r) (fr_zi I k r) (fr_zj J k r) k r j = fr_dv k j := by
  have h1 : fr_zi I k r k r j = 0 := if_pos ⟨rfl, rfl⟩
  have h2 : fr_zj J k r k r j = 0 := if_pos ⟨rfl, rfl⟩
  have h3 : fr_zp P k r k r j = none := if_pos ⟨rfl, rfl⟩
  unfold fr_vl fr_dv
  rw [h1, h2, h3]
  rfl
theorem fr_vl_zn {X : fr_X} {P : fr_P} {I : fr_I} {J : fr_J} {k r : Nat} (k' r' j' : Nat) (h : ¬ (k' = k ∧ r' = r)) : fr_vl X (fr_zp P k r) (fr_zi I k r) (fr_zj J k r) k' r' j' = fr_vl X P I J k' r' j' := fr_vl_eq (if_neg h) (if_neg h) (if_neg h)
section FRnew
variable {X : fr_X} {E : fr_E} {own nm : String} {cc : ByteArray} {nL : Nat} {ret : Option FieldType} {R : Room} {Q : State → Prop} {cs sl : Nat} {Z : fr_Z} {pc : Nat} {L : List (Nat × Value)} {st : List Value} {I : fr_I} {J : fr_J}
theorem fr_new {idx ci : Nat} {q : vw_C} {ty0 : Nat → FieldType} (k r : Nat) (d : decode cc pc = .ok (.new idx, 3)) (hw : fr_nc own idx ci q ty0) (hk : fr_kd k = .inl ci) (hdef : ∀ j, j < q.2.2 → defaultValue (ty0 j) = fr_dv k j) (ha : fr_ad X k r = Z.2.2) (hc : cs + 1 ≤ R.cells) (hs : sl + q.2.2 ≤ R.slots)
    (kk : fr_Ev X E own nm cc nL ret R Q (cs + 1) (sl + q.2.2) (fr_zp Z.1 k r, (fun a b => Z.2.1 a b ∨ (a = k ∧ b = r)), Z.2.2 + 1) (pc + 3) L (.ref (fr_ad X k r) :: st) (fr_zi I k r) (fr_zj J k r)) : fr_Ev X E own nm cc nL ret R Q cs sl Z pc L st I J := by
  obtain ⟨p, e, s, m, args, below, meth, c⟩ := E
  intro C H locs ls hz hm hS hl
  obtain ⟨w1, w2, w3, hcl, hin, hty, hnm⟩ := hw
  have C' := C
  obtain ⟨hx, hb, hml, hown, hts, hK, -, -, -, -, hbase⟩ := C'
  have hKn := hK.1 ci _ hcl
  refine W.newcK hx hb hown (hts _ w1) (hts _ w2) (hts _ w3) rfl d hc hs hKn.2.1 (hz.trans ha.symm) fun H1 kC hkC e1 z1 o1 => ?_
  rw [ha, ← hz] at o1 z1
  refine kk C H1 locs ls (by rw [z1, hz]) (hm.grow (ha.trans hz.symm) ((fr_ce_o hk).mpr ⟨q, hcl, (u_born ty0 hts hin hKn hkC e1 hty).to (fun j hj => ?_)⟩) o1 (Nat.le_trans hbase hS.1) fr_vl_zn) ⟨Nat.le_trans hS.1 (by omega), fun x h1 h2 => (o1 x (Nat.lt_of_lt_of_le h1 hS.1)).trans (hS.2.1 x h1 h2), hS.2.2⟩ hl
  rw [fr_vl_z]
  exact hdef j hj
theorem fr_newa {atype : ArrayType} {n : Int32} {N : Nat} (k r : Nat) (d : decode cc pc = .ok (.newarray atype, 2)) (hw : Cond.arrayClass (newarray.typeOf atype) ∈ fr_ws) (hk : fr_kd k = .inr (newarray.typeOf atype, N)) (hdef : ∀ j, defaultValue (newarray.typeOf atype) = fr_dv k j) (hn : ¬ n < 0) (hN : n.toNatClampNeg = N) (hbytes : N * componentBytes (newarray.typeOf atype) ≤ 536870912) (ha : fr_ad X k r = Z.2.2) (hc : cs + 1 ≤ R.cells) (hs : sl + N ≤ R.slots)
    (kk : fr_Ev X E own nm cc nL ret R Q (cs + 1) (sl + N) (fr_zp Z.1 k r, (fun a b => Z.2.1 a b ∨ (a = k ∧ b = r)), Z.2.2 + 1) (pc + 2) L (.ref (fr_ad X k r) :: st) (fr_zi I k r) (fr_zj J k r)) : fr_Ev X E own nm cc nL ret R Q cs sl Z pc L (.int n :: st) I J := by
  obtain ⟨p, e, s, m, args, below, meth, c⟩ := E
  intro C H locs ls hz hm hS hl
  have C' := C
  obtain ⟨hx, hb, hml, hown, hts, hK, -, -, -, -, hbase⟩ := C'
  refine va_newaK hx hb (hts _ hw) rfl d rfl hn hN hbytes hc hs (hz.trans ha.symm) fun H1 cA e1 z1 o1 hAr hNm => ?_
  rw [ha, ← hz] at o1 z1
  refine kk C H1 locs ls (by rw [z1, hz]) (hm.grow (ha.trans hz.symm) ((fr_ce_a hk).mpr ⟨cA, hAr, by cases atype <;> exact hNm, ?_⟩) o1 (Nat.le_trans hbase hS.1) fr_vl_zn) ⟨Nat.le_trans hS.1 (by omega), fun x h1 h2 => (o1 x (Nat.lt_of_lt_of_le h1 hS.1)).trans (hS.2.1 x h1 h2), hS.2.2⟩ hl
  rw [e1]
  congr 2
  funext j
  rw [fr_vl_z]
  exact hdef j
theorem fr_anew {idx : Nat} {n : Int32} {N : Nat} (k r : Nat) (d : decode cc pc = .ok (.anewarray idx, 3)) (hw : Cond.classLink own idx fr_aC ∈ fr_ws) (hk : fr_kd k = .inr (.object fr_aC, N)) (hdef : ∀ j, Value.null = fr_dv k j) (hn : ¬ n < 0) (hN : n.toNatClampNeg = N) (hbytes : N * 4 ≤ 536870912) (ha : fr_ad X k r = Z.2.2) (hc : cs + 1 ≤ R.cells) (hs : sl + N ≤ R.slots)
    (kk : fr_Ev X E own nm cc nL ret R Q (cs + 1) (sl + N) (fr_zp Z.1 k r, (fun a b => Z.2.1 a b ∨ (a = k ∧ b = r)), Z.2.2 + 1) (pc + 3) L (.ref (fr_ad X k r) :: st) (fr_zi I k r) (fr_zj J k r)) : fr_Ev X E own nm cc nL ret R Q cs sl Z pc L (.int n :: st) I J := by
  obtain ⟨p, e, s, m, args, below, meth, c⟩ := E
  intro C H locs ls hz hm hS hl
  have C' := C
  obtain ⟨hx, hb, hml, hown, hts, hK, hNA, -, -, -, hbase⟩ := C'
  subst hN
  refine W.anew hx hb hown (hts _ hw) (va_AO.use hNA.2) rfl d rfl hn hbytes hc hs fun cA kA comp f1 f2 f3 f4 => ?_
  generalize hH1 : H.push ({ cls := cA, slots := Array.replicate n.toNatClampNeg .null, vm := .none } : Cell) = H1
  have z1 : H1.size = H.size + 1 := by rw [← hH1, Array.size_push]
  have e1 : H1[H.size]? = some (arrV cA n.toNatClampNeg (fun _ => .null)) := by rw [← hH1, Array.getElem?_push_size, ← arrV_new]
  have o1 : ∀ q, q < H.size → H1[q]? = H[q]? := fun q hq => by rw [← hH1, Array.getElem?_push, if_neg (Nat.ne_of_lt hq)]
  have hha : fr_ad X k r = H.size := ha.trans hz.symm
  have kk' := kk C H1 locs ls (by rw [z1, hz]) (hm.grow hha ((fr_ce_a hk).mpr ⟨cA, fun n z => ⟨fun k h => (by cases h), kA, f2, comp, f3⟩, ⟨kA, comp, f2, f3, f4, f1⟩, by
    rw [hha, e1]
    congr 2
    funext j
    rw [fr_vl_z]
    exact hdef j⟩) o1 (Nat.le_trans hbase hS.1) fr_vl_zn) ⟨Nat.le_trans hS.1 (by omega), fun x h1 h2 => (o1 x (Nat.lt_of_lt_of_le h1 hS.1)).trans (hS.2.1 x h1 h2), hS.2.2⟩ hl
  rw [hha] at kk'
  exact kk'
theorem fr_oinit {idx a : Nat} (d : decode cc pc = .ok (.invokespecial idx, 3)) (h1 : Cond.methodLink own idx objectInit ∈ fr_ws) (h2 : Cond.instanceMethod objectInit ∈ fr_ws) (h3 : Cond.code objectInit ⟨#[0xb1]⟩ 1 none ∈ fr_ws) (hf : 1 ≤ R.frames) (hlo : (st.map fun v => v.category).sum + 12 ≤ R.locals)
    (kk : fr_Ev X E own nm cc nL ret R Q cs sl Z (pc + 3) L st I J) : fr_Ev X E own nm cc nL ret R Q cs sl Z pc L (.ref a :: st) I J := by
  intro C H locs ls hz hm hS hl
  have hts := C.2.2.2.2.1
  exact W.objInit C.1 C.2.1 C.2.2.2.1 (hts _ h1) (hts _ h2) (hts _ h3) rfl (by rw [C.2.2.1]; exact hl.1) rfl d hf (by show 2 * 0 + _ + 12 ≤ _; omega) (kk C H locs ls hz hm hS hl)
theorem fr_conv {Z2 : fr_Z} {I2 : fr_I} {J2 : fr_J} (hz2 : Z2.2.2 = Z.2.2) (hl2 : ∀ k r, Z2.2.1 k r → Z.2.1 k r) (he : ∀ k r j, Z2.2.1 k r → Z2.1 k r j = Z.1 k r j ∧ I2 k r j = I k r j ∧ J2 k r j = J k r j)
    (kk : fr_Ev X E own nm cc nL ret R Q cs sl Z2 pc L st I2 J2) : fr_Ev X E own nm cc nL ret R Q cs sl Z pc L st I J :=
  fun C H locs ls hz hm hS hl => kk C H locs ls (hz.trans hz2.symm) (hm.conv hl2 he) hS hl
theorem fr_wid {cs2 sl2 : Nat} (h1 : cs ≤ cs2) (h2 : sl ≤ sl2) (kk : fr_Ev X E own nm cc nL ret R Q cs2 sl2 Z pc L st I J) : fr_Ev X E own nm cc nL ret R Q cs sl Z pc L st I J :=
  fun C H locs ls hz hm hS hl => W.widen h1 h2 (kk C H locs ls hz hm hS hl)
theorem fr_mmin {idx : Nat} {x y : Int32} (d : decode cc pc = .ok (.invokestatic idx, 3)) (h1 : Cond.methodLink own idx Lib.Math.min.name ∈ fr_ws) (h2 : Cond.static Lib.Math.min.name ∈ fr_ws) (h3 : Cond.initialized "java/lang/Math" ∈ fr_ws) (h4 : Cond.code Lib.Math.min.name Lib.Math.min.code 2 (some .int) ∈ fr_ws) (hf : 1 ≤ R.frames) (hlo : (st.map fun v => v.category).sum + 13 ≤ R.locals) (hc : cs ≤ R.cells) (hs : sl ≤ R.slots)
    (kk : fr_Ev X E own nm cc nL ret R Q cs sl Z (pc + 3) L (.int (if y < x then y else x) :: st) I J) : fr_Ev X E own nm cc nL ret R Q cs sl Z pc L (.int y :: .int x :: st) I J := by
  intro C H locs ls hz hm hS hl
  have hts := C.2.2.2.2.1
  exact va_mmin C.1 C.2.1 (C.2.2.1.trans hl.1.symm) C.2.2.2.1 (hts _ h1) (hts _ h2) (hts _ h3) (hts _ h4) hf hlo hc hs d (kk C H locs ls hz hm hS hl)
end FRnew
end
section
def fr_rm (d : Nat) : Room := { frames := d, cells := 0, slots := 0, locals := 40 * d }
/-- the world when n relays stand -/
def fr_Z0 (X : fr_X) (n : Nat) : fr_Z := (fr_P0 n, fr_lv n, X.2.2.2 + 41 + 7 * n)
theorem fr_tIx {x : Int32} {I : fr_I} {J : fr_J} {t : Int32 × fr_I} (h : t = (x, I)) : t.1 = x ∧ t.2 = I ∧ J = J := by subst h; exact ⟨rfl, rfl, rfl⟩
theorem fr_tJx {x : Int32} {I : fr_I} {J : fr_J} {t : Int32 × fr_J} (h : t = (x, J)) : t.1 = x ∧ I = I ∧ t.2 = J := by subst h; exact ⟨rfl, rfl, rfl⟩
theorem fr_tIJx {x : Int32} {I : fr_I} {J : fr_J} {t : Int32 × fr_I × fr_J} (h : t = (x, I, J)) : t.1 = x ∧ t.2.1 = I ∧ t.2.2 = J := by subst h; exact ⟨rfl, rfl, rfl⟩
theorem fr_tIJ {I : fr_I} {J : fr_J} {t : fr_I × fr_J} (h : t = (I, J)) : t.1 = I ∧ t.2 = J := by subst h; exact ⟨rfl, rfl⟩
theorem fr_inc (a : Nat) : nI a + Int32.ofInt 1 = nI (a + 1) := nI_1 a
theorem fr_dec (a : Nat) : nI (a + 1) + Int32.ofInt (-1) = nI a := pk_m1 a
theorem fr_down {P : Nat → Prop} (e : Nat) (he : P e) (hs : ∀ i, i < e → P (i + 1) → P i) : ∀ i, i ≤ e → P i := by
  have key : ∀ d i, i + d = e → P i := by
    intro d
    induction d with
    | zero => intro i h; have : i = e := by omega
              rw [this]; exact he
    | succ d ih => intro i h; exact hs i (by omega) (ih (i + 1) (by omega))
  intro i hi
  exact key (e - i) i (by omega)
theorem fr_im1 : Int32.ofInt (-1) = -1 := by decide
theorem fr_i0 : Int32.ofInt 0 = 0 := by decide
theorem fr_i1 : Int32.ofInt 1 = 1 := by decide
theorem fr_i2 : Int32.ofInt 2 = 2 := by decide
theorem fr_i3 : Int32.ofInt 3 = 3 := by decide
theorem fr_i4 : Int32.ofInt 4 = 4 := by decide
theorem fr_i5 : Int32.ofInt 5 = 5 := by decide
theorem fr_b6 : (Int8.ofInt 6).toInt32 = 6 := by decide
theorem fr_b7 : (Int8.ofInt 7).toInt32 = 7 := by decide
theorem fr_b8 : (Int8.ofInt 8).toInt32 = 8 := by decide
theorem fr_b10 : (Int8.ofInt 10).toInt32 = 10 := by decide
theorem fr_b12 : (Int8.ofInt 12).toInt32 = 12 := by decide
theorem fr_b16 : (Int8.ofInt 16).toInt32 = 16 := by decide
theorem fr_b20 : (Int8.ofInt 20).toInt32 = 20 := by decide
theorem fr_b30 : (Int8.ofInt 30).toInt32 = 30 := by decide
theorem fr_b31 : (Int8.ofInt 31).toInt32 = 31 := by decide
theorem fr_b32 : (Int8.ofInt 32).toInt32 = 32 := by decide
theorem fr_b50 : (Int8.ofInt 50).toInt32 = 50 := by decide
theorem fr_b64 : (Int8.ofInt 64).toInt32 = 64 := by decide
theorem fr_b100 : (Int8.ofInt 100).toInt32 = 100 := by decide
theorem fr_s128 : (Int16.ofInt 128).toInt32 = 128 := by decide
theorem fr_s200 : (Int16.ofInt 200).toInt32 = 200 := by decide
theorem fr_s1000 : (Int16.ofInt 1000).toInt32 = 1000 := by decide
theorem fr_s2000 : (Int16.ofInt 2000).toInt32 = 2000 := by decide
theorem fr_s5000 : (Int16.ofInt 5000).toInt32 = 5000 := by decide
theorem fr_s20000 : (Int16.ofInt 20000).toInt32 = 20000 := by decide
theorem fr_l0 : Int64.ofNat ((0 : Fin 2) : Nat) = 0 := by decide
theorem fr_l1 : Int64.ofNat ((1 : Fin 2) : Nat) = 1 := by decide
theorem fr_if10 {c : Prop} [Decidable c] : (if c then (1 : Int32) else 0) = 0 ∨ (if c then (1 : Int32) else 0) = 1 := by
  by_cases h : c
  · exact Or.inr (if_pos h)
  · exact Or.inl (if_neg h)
theorem fr_if01 {c : Prop} [Decidable c] : (if c then (0 : Int32) else 1) = 0 ∨ (if c then (0 : Int32) else 1) = 1 := by
  by_cases h : c
  · exact Or.inl (if_pos h)
  · exact Or.inr (if_neg h)
section FRtern
variable {X : fr_X} {E : fr_E} {own nm : String} {cc : ByteArray} {nL : Nat} {ret : Option FieldType} {R : Room} {Q : State → Prop} {cs sl : Nat} {Z : fr_Z} {pc : Nat} {L : List (Nat × Value)} {st : List Value} {I : fr_I} {J : fr_J}
theorem fr_tif_eq {x a b : Int32} {off : Int} {t j : Nat} (d : decode cc pc = .ok (.ifCond .eq off, 3)) (ht : (pc : Int) + off = (t : Int)) (k1 : fr_Ev X E own nm cc nL ret R Q cs sl Z j L (.int a :: st) I J → fr_Ev X E own nm cc nL ret R Q cs sl Z (pc + 3) L st I J) (k2 : fr_Ev X E own nm cc nL ret R Q cs sl Z j L (.int b :: st) I J → fr_Ev X E own nm cc nL ret R Q cs sl Z t L st I J) (kk : fr_Ev X E own nm cc nL ret R Q cs sl Z j L (.int (if x = 0 then b else a) :: st) I J) : fr_Ev X E own nm cc nL ret R Q cs sl Z pc L (.int x :: st) I J := fr_if_eq t d ht (fun h => k2 (by rw [if_pos h] at kk; exact kk)) (fun h => k1 (by rw [if_neg h] at kk; exact kk))
theorem fr_tif_ne {x a b : Int32} {off : Int} {t j : Nat} (d : decode cc pc = .ok (.ifCond .ne off, 3)) (ht : (pc : Int) + off = (t : Int)) (k1 : fr_Ev X E own nm cc nL ret R Q cs sl Z j L (.int a :: st) I J → fr_Ev X E own nm cc nL ret R Q cs sl Z (pc + 3) L st I J) (k2 : fr_Ev X E own nm cc nL ret R Q cs sl Z j L (.int b :: st) I J → fr_Ev X E own nm cc nL ret R Q cs sl Z t L st I J) (kk : fr_Ev X E own nm cc nL ret R Q cs sl Z j L (.int (if x = 0 then a else b) :: st) I J) : fr_Ev X E own nm cc nL ret R Q cs sl Z pc L (.int x :: st) I J := fr_if_ne t d ht (fun h => k2 (by rw [if_neg h] at kk; exact kk)) (fun h => k1 (by rw [if_pos h] at kk; exact kk))
theorem fr_tif_lt {x a b : Int32} {off : Int} {t j : Nat} (d : decode cc pc = .ok (.ifCond .lt off, 3)) (ht : (pc : Int) + off = (t : Int)) (k1 : fr_Ev X E own nm cc nL ret R Q cs sl Z j L (.int a :: st) I J → fr_Ev X E own nm cc nL ret R Q cs sl Z (pc + 3) L st I J) (k2 : fr_Ev X E own nm cc nL ret R Q cs sl Z j L (.int b :: st) I J → fr_Ev X E own nm cc nL ret R Q cs sl Z t L st I J) (kk : fr_Ev X E own nm cc nL ret R Q cs sl Z j L (.int (if x < 0 then b else a) :: st) I J) : fr_Ev X E own nm cc nL ret R Q cs sl Z pc L (.int x :: st) I J := fr_if_lt t d ht (fun h => k2 (by rw [if_pos h] at kk; exact kk)) (fun h => k1 (by rw [if_neg h] at kk; exact kk))
theorem fr_tif_ge {x a b : Int32} {off : Int} {t j : Nat} (d : decode cc pc = .ok (.ifCond .ge off, 3)) (ht : (pc : Int) + off = (t : Int)) (k1 : fr_Ev X E own nm cc nL ret R Q cs sl Z j L (.int a :: st) I J → fr_Ev X E own nm cc nL ret R Q cs sl Z (pc + 3) L st I J) (k2 : fr_Ev X E own nm cc nL ret R Q cs sl Z j L (.int b :: st) I J → fr_Ev X E own nm cc nL ret R Q cs sl Z t L st I J) (kk : fr_Ev X E own nm cc nL ret R Q cs sl Z j L (.int (if 0 ≤ x then b else a) :: st) I J) : fr_Ev X E own nm cc nL ret R Q cs sl Z pc L (.int x :: st) I J := fr_if_ge t d ht (fun h => k2 (by rw [if_pos h] at kk; exact kk)) (fun h => k1 (by rw [if_neg h] at kk; exact kk))
theorem fr_tif_gt {x a b : Int32} {off : Int} {t j : Nat} (d : decode cc pc = .ok (.ifCond .gt off, 3)) (ht : (pc : Int) + off = (t : Int)) (k1 : fr_Ev X E own nm cc nL ret R Q cs sl Z j L (.int a :: st) I J → fr_Ev X E own nm cc nL ret R Q cs sl Z (pc + 3) L st I J) (k2 : fr_Ev X E own nm cc nL ret R Q cs sl Z j L (.int b :: st) I J → fr_Ev X E own nm cc nL ret R Q cs sl Z t L st I J) (kk : fr_Ev X E own nm cc nL ret R Q cs sl Z j L (.int (if 0 < x then b else a) :: st) I J) : fr_Ev X E own nm cc nL ret R Q cs sl Z pc L (.int x :: st) I J := fr_if_gt t d ht (fun h => k2 (by rw [if_pos h] at kk; exact kk)) (fun h => k1 (by rw [if_neg h] at kk; exact kk))
theorem fr_tif_le {x a b : Int32} {off : Int} {t j : Nat} (d : decode cc pc = .ok (.ifCond .le off, 3)) (ht : (pc : Int) + off = (t : Int)) (k1 : fr_Ev X E own nm cc nL ret R Q cs sl Z j L (.int a :: st) I J → fr_Ev X E own nm cc nL ret R Q cs sl Z (pc + 3) L st I J) (k2 : fr_Ev X E own nm cc nL ret R Q cs sl Z j L (.int b :: st) I J → fr_Ev X E own nm cc nL ret R Q cs sl Z t L st I J) (kk : fr_Ev X E own nm cc nL ret R Q cs sl Z j L (.int (if x ≤ 0 then b else a) :: st) I J) : fr_Ev X E own nm cc nL ret R Q cs sl Z pc L (.int x :: st) I J := fr_if_le t d ht (fun h => k2 (by rw [if_pos h] at kk; exact kk)) (fun h => k1 (by rw [if_neg h] at kk; exact kk))
theorem fr_ticmp_eq {x y a b : Int32} {off : Int} {t j : Nat} (d : decode cc pc = .ok (.if_icmp .eq off, 3)) (ht : (pc : Int) + off = (t : Int)) (k1 : fr_Ev X E own nm cc nL ret R Q cs sl Z j L (.int a :: st) I J → fr_Ev X E own nm cc nL ret R Q cs sl Z (pc + 3) L st I J) (k2 : fr_Ev X E own nm cc nL ret R Q cs sl Z j L (.int b :: st) I J → fr_Ev X E own nm cc nL ret R Q cs sl Z t L st I J) (kk : fr_Ev X E own nm cc nL ret R Q cs sl Z j L (.int (if x = y then b else a) :: st) I J) : fr_Ev X E own nm cc nL ret R Q cs sl Z pc L (.int y :: .int x :: st) I J := fr_icmp_eq t d ht (fun h => k2 (by rw [if_pos h] at kk; exact kk)) (fun h => k1 (by rw [if_neg h] at kk; exact kk))
theorem fr_ticmp_ne {x y a b : Int32} {off : Int} {t j : Nat} (d : decode cc pc = .ok (.if_icmp .ne off, 3)) (ht : (pc : Int) + off = (t : Int)) (k1 : fr_Ev X E own nm cc nL ret R Q cs sl Z j L (.int a :: st) I J → fr_Ev X E own nm cc nL ret R Q cs sl Z (pc + 3) L st I J) (k2 : fr_Ev X E own nm cc nL ret R Q cs sl Z j L (.int b :: st) I J → fr_Ev X E own nm cc nL ret R Q cs sl Z t L st I J) (kk : fr_Ev X E own nm cc nL ret R Q cs sl Z j L (.int (if x = y then a else b) :: st) I J) : fr_Ev X E own nm cc nL ret R Q cs sl Z pc L (.int y :: .int x :: st) I J := fr_icmp_ne t d ht (fun h => k2 (by rw [if_neg h] at kk; exact kk)) (fun h => k1 (by rw [if_pos h] at kk; exact kk))
theorem fr_ticmp_lt {x y a b : Int32} {off : Int} {t j : Nat} (d : decode cc pc = .ok (.if_icmp .lt off, 3)) (ht : (pc : Int) + off = (t : Int)) (k1 : fr_Ev X E own nm cc nL ret R Q cs sl Z j L (.int a :: st) I J → fr_Ev X E own nm cc nL ret R Q cs sl Z (pc + 3) L st I J) (k2 : fr_Ev X E own nm cc nL ret R Q cs sl Z j L (.int b :: st) I J → fr_Ev X E own nm cc nL ret R Q cs sl Z t L st I J) (kk : fr_Ev X E own nm cc nL ret R Q cs sl Z j L (.int (if x < y then b else a) :: st) I J) : fr_Ev X E own nm cc nL ret R Q cs sl Z pc L (.int y :: .int x :: st) I J := fr_icmp_lt t d ht (fun h => k2 (by rw [if_pos h] at kk; exact kk)) (fun h => k1 (by rw [if_neg h] at kk; exact kk))
theorem fr_ticmp_ge {x y a b : Int32} {off : Int} {t j : Nat} (d : decode cc pc = .ok (.if_icmp .ge off, 3)) (ht : (pc : Int) + off = (t : Int)) (k1 : fr_Ev X E own nm cc nL ret R Q cs sl Z j L (.int a :: st) I J → fr_Ev X E own nm cc nL ret R Q cs sl Z (pc + 3) L st I J) (k2 : fr_Ev X E own nm cc nL ret R Q cs sl Z j L (.int b :: st) I J → fr_Ev X E own nm cc nL ret R Q cs sl Z t L st I J) (kk : fr_Ev X E own nm cc nL ret R Q cs sl Z j L (.int (if y ≤ x then b else a) :: st) I J) : fr_Ev X E own nm cc nL ret R Q cs sl Z pc L (.int y :: .int x :: st) I J := fr_icmp_ge t d ht (fun h => k2 (by rw [if_pos h] at kk; exact kk)) (fun h => k1 (by rw [if_neg h] at kk; exact kk))
theorem fr_ticmp_gt {x y a b : Int32} {off : Int} {t j : Nat} (d : decode cc pc = .ok (.if_icmp .gt off, 3)) (ht : (pc : Int) + off = (t : Int)) (k1 : fr_Ev X E own nm cc nL ret R Q cs sl Z j L (.int a :: st) I J → fr_Ev X E own nm cc nL ret R Q cs sl Z (pc + 3) L st I J) (k2 : fr_Ev X E own nm cc nL ret R Q cs sl Z j L (.int b :: st) I J → fr_Ev X E own nm cc nL ret R Q cs sl Z t L st I J) (kk : fr_Ev X E own nm cc nL ret R Q cs sl Z j L (.int (if y < x then b else a) :: st) I J) : fr_Ev X E own nm cc nL ret R Q cs sl Z pc L (.int y :: .int x :: st) I J := fr_icmp_gt t d ht (fun h => k2 (by rw [if_pos h] at kk; exact kk)) (fun h => k1 (by rw [if_neg h] at kk; exact kk))
theorem fr_ticmp_le {x y a b : Int32} {off : Int} {t j : Nat} (d : decode cc pc = .ok (.if_icmp .le off, 3)) (ht : (pc : Int) + off = (t : Int)) (k1 : fr_Ev X E own nm cc nL ret R Q cs sl Z j L (.int a :: st) I J → fr_Ev X E own nm cc nL ret R Q cs sl Z (pc + 3) L st I J) (k2 : fr_Ev X E own nm cc nL ret R Q cs sl Z j L (.int b :: st) I J → fr_Ev X E own nm cc nL ret R Q cs sl Z t L st I J) (kk : fr_Ev X E own nm cc nL ret R Q cs sl Z j L (.int (if x ≤ y then b else a) :: st) I J) : fr_Ev X E own nm cc nL ret R Q cs sl Z pc L (.int y :: .int x :: st) I J := fr_icmp_le t d ht (fun h => k2 (by rw [if_pos h] at kk; exact kk)) (fun h => k1 (by rw [if_neg h] at kk; exact kk))
end FRtern
end
section
-- numbers that are places
def fr_nn (x : Int32) (N : Nat) : Prop := ∃ e : Nat, e < N ∧ x = nI e
theorem fr_nn_eq {x : Int32} {N : Nat} (hN : N ≤ 2 ^ 31) (h : fr_nn x N) : x = nI x.toNatClampNeg := by
  obtain ⟨e, he, rfl⟩ := h
  rw [nI_clamp (by omega)]
theorem fr_nn_lt {x : Int32} {N : Nat} (hN : N ≤ 2 ^ 31) (h : fr_nn x N) : x.toNatClampNeg < N := by
  obtain ⟨e, he, rfl⟩ := h
  rw [nI_clamp (by omega)]
  exact he
/-- what the class's own steps rest on -/
def fr_wf (n : Nat) (I : fr_I) : Prop := n ≤ 8 ∧ I 0 0 4 = nI n ∧ fr_nn (I 4 0 2) 201 ∧ (∀ r, r < n → fr_nn (I 8 r 1) 4) ∧ (∀ r, r < n → (r = 0 ∧ I 7 r 0 = -1) ∨ ∃ a, a < r ∧ I 7 r 0 = nI a) ∧ fr_nn (I 4 0 3) 201
def fr_wfs (k j : Nat) : Bool := (k == 0 && j == 4) || (k == 4 && j == 2) || (k == 4 && j == 3) || (k == 8 && j == 1) || (k == 7 && j == 0)
theorem fw_of {n : Nat} {I I' : fr_I} (key : ∀ a b c, fr_wfs a c = true → I' a b c = I a b c) (hw : fr_wf n I) : fr_wf n I' := by
  obtain ⟨h1, h2, h3, h4, h5, h6⟩ := hw
  exact ⟨h1, (key 0 0 4 rfl).trans h2, by rw [key 4 0 2 rfl]; exact h3, fun q hq => by rw [key 8 q 1 rfl]; exact h4 q hq, fun q hq => by rw [key 7 q 0 rfl]; exact h5 q hq, by rw [key 4 0 3 rfl]; exact h6⟩
theorem fw_ui {n : Nat} {I : fr_I} {k r j : Nat} {v : Int32} (h : fr_wfs k j = false) (hw : fr_wf n I) : fr_wf n (fr_ui I k r j v) :=
  fw_of (fun a b c hs => fr_ui_n (fun z => by rw [z.1, z.2.2, h] at hs; cases hs)) hw
theorem fw_cnt {n : Nat} {I : fr_I} (hw : fr_wf n I) : I 0 0 4 = nI n := hw.2.1
theorem fw_n8 {n : Nat} {I : fr_I} (hw : fr_wf n I) : n ≤ 8 := hw.1
theorem fw_lt8 {n r : Nat} {I : fr_I} (hw : fr_wf n I) (hr : r < n) : r < 8 := Nat.lt_of_lt_of_le hr hw.1
theorem fw_rec_eq {n : Nat} {I : fr_I} (hw : fr_wf n I) : I 4 0 2 = nI (I 4 0 2).toNatClampNeg := fr_nn_eq (by decide) hw.2.2.1
theorem fw_rec_lt {n : Nat} {I : fr_I} (hw : fr_wf n I) (h : ¬ (200 : Int32) ≤ I 4 0 2) : (I 4 0 2).toNatClampNeg < 200 := by
  obtain ⟨e, he, h2⟩ := hw.2.2.1
  rw [h2] at h ⊢
  rw [nI_clamp (by omega)]
  rcases Nat.lt_or_ge e 200 with h3 | h3
  · exact h3
  · exact absurd (nI_le h3 (by omega)) h
theorem fw_old_eq {n r : Nat} {I : fr_I} (hw : fr_wf n I) (hr : r < n) : I 8 r 1 = nI (I 8 r 1).toNatClampNeg := fr_nn_eq (by decide) (hw.2.2.2.1 r hr)
theorem fw_old_lt {n r : Nat} {I : fr_I} (hw : fr_wf n I) (hr : r < n) : (I 8 r 1).toNatClampNeg < 4 := fr_nn_lt (by decide) (hw.2.2.2.1 r hr)
theorem fr_and7 (x : Int32) : fr_nn (x &&& 7) 8 := by
  obtain ⟨j, hj, h⟩ := pk_andE x (m := 7) 3 (by decide)
  exact ⟨j, hj, h⟩
theorem fr_and7_eq (x : Int32) : x &&& 7 = nI (x &&& 7).toNatClampNeg := fr_nn_eq (by decide) (fr_and7 x)
theorem fr_and7_lt (x : Int32) : (x &&& 7).toNatClampNeg < 8 := fr_nn_lt (by decide) (fr_and7 x)
-- loops
def fr_it (f : fr_I → Nat → fr_I) (I : fr_I) : Nat → fr_I
  | 0 => I
  | i + 1 => f (fr_it f I i) i
theorem fw_it {P : fr_I → Prop} {I : fr_I} {f : fr_I → Nat → fr_I} (e : Nat) (hf : ∀ I i, i < e → P I → P (f I i)) (hw : P I) : ∀ i, i ≤ e → P (fr_it f I i) := by
  intro i
  induction i with
  | zero => intro _; exact hw
  | succ i ih => intro h; exact hf _ _ (by omega) (ih (by omega))
section FRloop
variable {X : fr_X} {E : fr_E} {own nm : String} {cc : ByteArray} {nL : Nat} {ret : Option FieldType} {R : Room} {Q : State → Prop} {cs sl : Nat} {Z : fr_Z} {pc : Nat} {L : List (Nat × Value)} {st : List Value} {I : fr_I} {J : fr_J}
theorem fr_loop (it : Nat → fr_I) (jt : Nat → fr_J) (LL : Nat → List (Nat × Value)) (e : Nat) (h0 : L = LL 0) (hI : I = it 0) (hJ : J = jt 0) (he : fr_Ev X E own nm cc nL ret R Q cs sl Z pc (LL e) st (it e) (jt e))
    (hs : ∀ i, i < e → fr_Ev X E own nm cc nL ret R Q cs sl Z pc (LL (i + 1)) st (it (i + 1)) (jt (i + 1)) → fr_Ev X E own nm cc nL ret R Q cs sl Z pc (LL i) st (it i) (jt i)) : fr_Ev X E own nm cc nL ret R Q cs sl Z pc L st I J := by
  subst h0 hI hJ
  exact fr_down (P := fun i => fr_Ev X E own nm cc nL ret R Q cs sl Z pc (LL i) st (it i) (jt i)) e he hs 0 (Nat.zero_le _)
end FRloop
section FRpick
variable {X : fr_X} {E : fr_E} {own nm : String} {cc : ByteArray} {nL : Nat} {ret : Option FieldType} {R : Room} {Q : State → Prop} {cs sl : Nat} {Z : fr_Z} {pc : Nat} {L : List (Nat × Value)} {st : List Value} {I : fr_I} {J : fr_J}
theorem fr_pick {L' : List (Nat × Value)} (ks : List Nat) (h : lv_pick L ks = L') (kk : fr_Ev X E own nm cc nL ret R Q cs sl Z pc L' st I J) : fr_Ev X E own nm cc nL ret R Q cs sl Z pc L st I J :=
  fun C H locs ls hz hm hS hl => kk C H locs ls hz hm hS (lv_sub hl ks h)
theorem fr_eqI {I' : fr_I} {J' : fr_J} (hI : I = I') (hJ : J = J') (kk : fr_Ev X E own nm cc nL ret R Q cs sl Z pc L st I' J') : fr_Ev X E own nm cc nL ret R Q cs sl Z pc L st I J := by
  subst hI hJ; exact kk
end FRpick
def fr_jt (f : fr_I × fr_J → Nat → fr_I × fr_J) (s : fr_I × fr_J) : Nat → fr_I × fr_J
  | 0 => s
  | i + 1 => f (fr_jt f s i) i
theorem fw_jt {P : fr_I → Prop} {s : fr_I × fr_J} {f : fr_I × fr_J → Nat → fr_I × fr_J} (e : Nat) (hf : ∀ s i, i < e → P s.1 → P (f s i).1) (hw : P s.1) : ∀ i, i ≤ e → P (fr_jt f s i).1 := by
  intro i
  induction i with
  | zero => intro _; exact hw
  | succ i ih => intro h; exact hf _ _ (by omega) (ih (by omega))
theorem fr_pr1 {I I' : fr_I} {J J' : fr_J} {t : fr_I × fr_J} (h : t = (I, J)) : I = t.1 := by rw [h]
theorem fr_pr2 {I I' : fr_I} {J J' : fr_J} {t : fr_I × fr_J} (h : t = (I, J)) : J = t.2 := by rw [h]
theorem fr_nge {i e : Nat} (he : e < 2 ^ 31) (hi : i < e) : ¬ nI e ≤ nI i := nI_ge hi he
theorem fw_ite {c : Prop} [Decidable c] {P : fr_I → Prop} {A B : fr_I} (h1 : c → P A) (h2 : ¬ c → P B) : P (if c then A else B) := by
  by_cases h : c
  · rw [if_pos h]; exact h1 h
  · rw [if_neg h]; exact h2 h
theorem fw_ite_2 {c : Prop} [Decidable c] {P : fr_I → Prop} {α : Type} {A B : α × fr_I} (h1 : c → P A.2) (h2 : ¬ c → P B.2) : P (if c then A else B).2 := by
  by_cases h : c
  · rw [if_pos h]; exact h1 h
  · rw [if_neg h]; exact h2 h
theorem fw_ite_1 {c : Prop} [Decidable c] {P : fr_I → Prop} {β : Type} {A B : fr_I × β} (h1 : c → P A.1) (h2 : ¬ c → P B.1) : P (if c then A else B).1 := by
  by_cases h : c
  · rw [if_pos h]; exact h1 h
  · rw [if_neg h]; exact h2 h
theorem fw_ite_21 {c : Prop} [Decidable c] {P : fr_I → Prop} {α β : Type} {A B : α × fr_I × β} (h1 : c → P A.2.1) (h2 : ¬ c → P B.2.1) : P (if c then A else B).2.1 := by
  by_cases h : c
  · rw [if_pos h]; exact h1 h
  · rw [if_neg h]; exact h2 h
theorem fr_it_0 {f : fr_I → Nat → fr_I} {I : fr_I} : I = fr_it f I 0 := rfl
theorem fr_jt_1 {f : fr_I × fr_J → Nat → fr_I × fr_J} {I : fr_I} {J : fr_J} : I = (fr_jt f (I, J) 0).1 := rfl
theorem fr_jt_2 {f : fr_I × fr_J → Nat → fr_I × fr_J} {I : fr_I} {J : fr_J} : J = (fr_jt f (I, J) 0).2 := rfl
theorem fr_it_s {f : fr_I → Nat → fr_I} {I : fr_I} {i : Nat} : fr_it f I (i + 1) = f (fr_it f I i) i := rfl
theorem fr_jt_s {f : fr_I × fr_J → Nat → fr_I × fr_J} {s : fr_I × fr_J} {i : Nat} : fr_jt f s (i + 1) = f (fr_jt f s i) i := rfl
section FRteq
variable {X : fr_X} {E : fr_E} {own nm : String} {cc : ByteArray} {nL : Nat} {ret : Option FieldType} {R : Room} {Q : State → Prop} {cs sl : Nat} {Z : fr_Z} {pc : Nat} {L : List (Nat × Value)} {st : List Value} {I : fr_I} {J : fr_J}
theorem fr_teq {x x' : Int32} (h : x = x') (kk : fr_Ev X E own nm cc nL ret R Q cs sl Z pc L (.int x' :: st) I J) : fr_Ev X E own nm cc nL ret R Q cs sl Z pc L (.int x :: st) I J := by subst h; exact kk
end FRteq
end
section
def f_B_takesOrder (I : fr_I) (r : Nat) : Int32 :=
  if (I 10 r 0) = 0 then
    0
  else
    if (I 10 r 6) = 0 then
      1
    else
      0
set_option maxRecDepth 10000 in
theorem ct_B_takesOrder (X : fr_X) (n : Nat) (r : Nat) (hr : r < n) (I : fr_I) (J : fr_J) : fr_Ct X y_B_takesOrder c_B_takesOrder 1 (some .boolean) (fr_rm 0) [.ref (fr_ad X 10 r)] (fr_Z0 X n) (fr_Z0 X n) I J (fr_pi (fun x I' J' => (f_B_takesOrder I r) = x ∧ I = I' ∧ J = J')) := by
  refine fr_ct (by decide) rfl rfl (Nat.le_of_ble_eq_true rfl) rfl (fun E => ?_)
  refine fr_aload_n d_B_takesOrder_0 rfl ?_
  refine fr_geti d_B_takesOrder_1 fl_B_7 rfl rfl (Or.inl ⟨rfl, hr⟩) ?_
  refine fr_if_eq 18 d_B_takesOrder_4 rfl (fun h1 => ?_) (fun h1 => ?_)
  · skip
    refine fr_iconst d_B_takesOrder_18 fr_i0 ?_
    exact fr_iret d_B_takesOrder_19 rfl (fr_nar_b (Or.inl rfl)) (Nat.zero_le _) (Nat.zero_le _) ⟨(by unfold f_B_takesOrder; rw [if_pos h1]), rfl, rfl⟩
  · skip
    refine fr_aload_n d_B_takesOrder_7 rfl ?_
    refine fr_geti d_B_takesOrder_8 fl_B_13 rfl rfl (Or.inl ⟨rfl, hr⟩) ?_
    refine fr_if_ne 18 d_B_takesOrder_11 rfl (fun h2 => ?_) (fun h2 => ?_)
    · skip
      refine fr_iconst d_B_takesOrder_18 fr_i0 ?_
      exact fr_iret d_B_takesOrder_19 rfl (fr_nar_b (Or.inl rfl)) (Nat.zero_le _) (Nat.zero_le _) ⟨(by unfold f_B_takesOrder; rw [if_neg h1, if_neg h2]), rfl, rfl⟩
    · skip
      refine fr_iconst d_B_takesOrder_14 fr_i1 ?_
      refine fr_goto 19 d_B_takesOrder_15 rfl ?_
      exact fr_iret d_B_takesOrder_19 rfl (fr_nar_b (Or.inr rfl)) (Nat.zero_le _) (Nat.zero_le _) ⟨(by unfold f_B_takesOrder; rw [if_neg h1, if_pos h2]), rfl, rfl⟩
def f_B_giveOrder (I : fr_I) (r : Nat) (p1 : Int32) (p2 : Int32) : fr_I :=
  (fr_ui (fr_ui (fr_ui (fr_ui I 10 r 6 1) 10 r 4 p2) 10 r 7 p1) 10 r 3 0)
set_option maxRecDepth 10000 in
theorem ct_B_giveOrder (X : fr_X) (n : Nat) (r : Nat) (hr : r < n) (I : fr_I) (J : fr_J) (p1 : Int32) (p2 : Int32) (hb : p2 = 0 ∨ p2 = 1) : fr_Ct X y_B_giveOrder c_B_giveOrder 3 none (fr_rm 0) [.ref (fr_ad X 10 r), .int p1, .int p2] (fr_Z0 X n) (fr_Z0 X n) I J (fr_pv (fun I' J' => (f_B_giveOrder I r p1 p2) = I' ∧ J = J')) := by
  refine fr_ct (by decide) rfl rfl (Nat.le_of_ble_eq_true rfl) rfl (fun E => ?_)
  refine fr_aload_n d_B_giveOrder_0 rfl ?_
  refine fr_iconst d_B_giveOrder_1 fr_i1 ?_
  refine fr_putz d_B_giveOrder_2 fl_B_13 rfl rfl (Or.inr rfl) (Or.inl ⟨rfl, hr⟩) ?_
  refine fr_aload_n d_B_giveOrder_5 rfl ?_
  refine fr_iload_n d_B_giveOrder_6 rfl ?_
  refine fr_putz d_B_giveOrder_7 fl_B_16 rfl rfl hb (Or.inl ⟨rfl, hr⟩) ?_
  refine fr_aload_n d_B_giveOrder_10 rfl ?_
  refine fr_iload_n d_B_giveOrder_11 rfl ?_
  refine fr_puti d_B_giveOrder_12 fl_B_19 rfl rfl (Or.inl ⟨rfl, hr⟩) ?_
  refine fr_aload_n d_B_giveOrder_15 rfl ?_
  refine fr_iconst d_B_giveOrder_16 fr_i0 ?_
  refine fr_putz d_B_giveOrder_17 fl_B_23 rfl rfl (Or.inl rfl) (Or.inl ⟨rfl, hr⟩) ?_
  exact fr_vret d_B_giveOrder_20 rfl (Nat.zero_le _) (Nat.zero_le _) ⟨rfl, rfl⟩
theorem fw_B_giveOrder {n : Nat} {I : fr_I} {r : Nat} {p1 : Int32} {p2 : Int32} (hw : fr_wf n I) : fr_wf n (f_B_giveOrder I r p1 p2) := by
  unfold f_B_giveOrder
  exact (fw_ui (k := 10) (j := 3) rfl (fw_ui (k := 10) (j := 7) rfl (fw_ui (k := 10) (j := 4) rfl (fw_ui (k := 10) (j := 6) rfl hw))))
def f_B_isOverdue (I : fr_I) (r : Nat) (p1 : Int32) (p2 : Int32) : Int32 :=
  if (I 10 r 6) = 0 then
    0
  else
    if (I 10 r 3) = 0 then
      if (p1 - (I 10 r 7)) < p2 then
        0
      else
        1
    else
      0
set_option maxRecDepth 10000 in
theorem ct_B_isOverdue (X : fr_X) (n : Nat) (r : Nat) (hr : r < n) (I : fr_I) (J : fr_J) (p1 : Int32) (p2 : Int32) : fr_Ct X y_B_isOverdue c_B_isOverdue 3 (some .boolean) (fr_rm 0) [.ref (fr_ad X 10 r), .int p1, .int p2] (fr_Z0 X n) (fr_Z0 X n) I J (fr_pi (fun x I' J' => (f_B_isOverdue I r p1 p2) = x ∧ I = I' ∧ J = J')) := by
  refine fr_ct (by decide) rfl rfl (Nat.le_of_ble_eq_true rfl) rfl (fun E => ?_)
  refine fr_aload_n d_B_isOverdue_0 rfl ?_
  refine fr_geti d_B_isOverdue_1 fl_B_13 rfl rfl (Or.inl ⟨rfl, hr⟩) ?_
  refine fr_if_eq 28 d_B_isOverdue_4 rfl (fun h1 => ?_) (fun h1 => ?_)
  · skip
    refine fr_iconst d_B_isOverdue_28 fr_i0 ?_
    exact fr_iret d_B_isOverdue_29 rfl (fr_nar_b (Or.inl rfl)) (Nat.zero_le _) (Nat.zero_le _) ⟨(by unfold f_B_isOverdue; rw [if_pos h1]), rfl, rfl⟩
  · skip
    refine fr_aload_n d_B_isOverdue_7 rfl ?_
    refine fr_geti d_B_isOverdue_8 fl_B_23 rfl rfl (Or.inl ⟨rfl, hr⟩) ?_
    refine fr_if_ne 28 d_B_isOverdue_11 rfl (fun h2 => ?_) (fun h2 => ?_)
    · skip
      refine fr_iconst d_B_isOverdue_28 fr_i0 ?_
      exact fr_iret d_B_isOverdue_29 rfl (fr_nar_b (Or.inl rfl)) (Nat.zero_le _) (Nat.zero_le _) ⟨(by unfold f_B_isOverdue; rw [if_neg h1, if_neg h2]), rfl, rfl⟩
    · skip
      refine fr_iload_n d_B_isOverdue_14 rfl ?_
      refine fr_aload_n d_B_isOverdue_15 rfl ?_
      refine fr_geti d_B_isOverdue_16 fl_B_19 rfl rfl (Or.inl ⟨rfl, hr⟩) ?_
      refine fr_isub d_B_isOverdue_19 ?_
      refine fr_iload_n d_B_isOverdue_20 rfl ?_
      refine fr_icmp_lt 28 d_B_isOverdue_21 rfl (fun h3 => ?_) (fun h3 => ?_)
      · skip
        refine fr_iconst d_B_isOverdue_28 fr_i0 ?_
        exact fr_iret d_B_isOverdue_29 rfl (fr_nar_b (Or.inl rfl)) (Nat.zero_le _) (Nat.zero_le _) ⟨(by unfold f_B_isOverdue; rw [if_neg h1, if_pos h2, if_pos h3]), rfl, rfl⟩
      · skip
        refine fr_iconst d_B_isOverdue_24 fr_i1 ?_
        refine fr_goto 29 d_B_isOverdue_25 rfl ?_
        exact fr_iret d_B_isOverdue_29 rfl (fr_nar_b (Or.inr rfl)) (Nat.zero_le _) (Nat.zero_le _) ⟨(by unfold f_B_isOverdue; rw [if_neg h1, if_pos h2, if_neg h3]), rfl, rfl⟩
def f_B_mustOpen (I : fr_I) (r : Nat) (p1 : Int32) : Int32 :=
  if (I 10 r 6) = 0 then
    0
  else
    if (I 10 r 1) = 0 then
      if (p1 - (I 10 r 7)) < 2 then
        0
      else
        1
    else
      0
set_option maxRecDepth 10000 in
theorem ct_B_mustOpen (X : fr_X) (n : Nat) (r : Nat) (hr : r < n) (I : fr_I) (J : fr_J) (p1 : Int32) : fr_Ct X y_B_mustOpen c_B_mustOpen 2 (some .boolean) (fr_rm 0) [.ref (fr_ad X 10 r), .int p1] (fr_Z0 X n) (fr_Z0 X n) I J (fr_pi (fun x I' J' => (f_B_mustOpen I r p1) = x ∧ I = I' ∧ J = J')) := by
  refine fr_ct (by decide) rfl rfl (Nat.le_of_ble_eq_true rfl) rfl (fun E => ?_)
  refine fr_aload_n d_B_mustOpen_0 rfl ?_
  refine fr_geti d_B_mustOpen_1 fl_B_13 rfl rfl (Or.inl ⟨rfl, hr⟩) ?_
  refine fr_if_eq 28 d_B_mustOpen_4 rfl (fun h1 => ?_) (fun h1 => ?_)
  · skip
    refine fr_iconst d_B_mustOpen_28 fr_i0 ?_
    exact fr_iret d_B_mustOpen_29 rfl (fr_nar_b (Or.inl rfl)) (Nat.zero_le _) (Nat.zero_le _) ⟨(by unfold f_B_mustOpen; rw [if_pos h1]), rfl, rfl⟩
  · skip
    refine fr_aload_n d_B_mustOpen_7 rfl ?_
    refine fr_geti d_B_mustOpen_8 fl_B_26 rfl rfl (Or.inl ⟨rfl, hr⟩) ?_
    refine fr_if_ne 28 d_B_mustOpen_11 rfl (fun h2 => ?_) (fun h2 => ?_)
    · skip
      refine fr_iconst d_B_mustOpen_28 fr_i0 ?_
      exact fr_iret d_B_mustOpen_29 rfl (fr_nar_b (Or.inl rfl)) (Nat.zero_le _) (Nat.zero_le _) ⟨(by unfold f_B_mustOpen; rw [if_neg h1, if_neg h2]), rfl, rfl⟩
    · skip
      refine fr_iload_n d_B_mustOpen_14 rfl ?_
      refine fr_aload_n d_B_mustOpen_15 rfl ?_
      refine fr_geti d_B_mustOpen_16 fl_B_19 rfl rfl (Or.inl ⟨rfl, hr⟩) ?_
      refine fr_isub d_B_mustOpen_19 ?_
      refine fr_iconst d_B_mustOpen_20 fr_i2 ?_
      refine fr_icmp_lt 28 d_B_mustOpen_21 rfl (fun h3 => ?_) (fun h3 => ?_)
      · skip
        refine fr_iconst d_B_mustOpen_28 fr_i0 ?_
        exact fr_iret d_B_mustOpen_29 rfl (fr_nar_b (Or.inl rfl)) (Nat.zero_le _) (Nat.zero_le _) ⟨(by unfold f_B_mustOpen; rw [if_neg h1, if_pos h2, if_pos h3]), rfl, rfl⟩
      · skip
        refine fr_iconst d_B_mustOpen_24 fr_i1 ?_
        refine fr_goto 29 d_B_mustOpen_25 rfl ?_
        exact fr_iret d_B_mustOpen_29 rfl (fr_nar_b (Or.inr rfl)) (Nat.zero_le _) (Nat.zero_le _) ⟨(by unfold f_B_mustOpen; rw [if_neg h1, if_pos h2, if_neg h3]), rfl, rfl⟩
def f_B_open (I : fr_I) (r : Nat) : fr_I :=
  (fr_ui (fr_ui I 10 r 0 0) 10 r 6 0)
set_option maxRecDepth 10000 in
theorem ct_B_open (X : fr_X) (n : Nat) (r : Nat) (hr : r < n) (I : fr_I) (J : fr_J) : fr_Ct X y_B_open c_B_open 1 none (fr_rm 0) [.ref (fr_ad X 10 r)] (fr_Z0 X n) (fr_Z0 X n) I J (fr_pv (fun I' J' => (f_B_open I r) = I' ∧ J = J')) := by
  refine fr_ct (by decide) rfl rfl (Nat.le_of_ble_eq_true rfl) rfl (fun E => ?_)
  refine fr_aload_n d_B_open_0 rfl ?_
  refine fr_iconst d_B_open_1 fr_i0 ?_
  refine fr_putz d_B_open_2 fl_B_7 rfl rfl (Or.inl rfl) (Or.inl ⟨rfl, hr⟩) ?_
  refine fr_aload_n d_B_open_5 rfl ?_
  refine fr_iconst d_B_open_6 fr_i0 ?_
  refine fr_putz d_B_open_7 fl_B_13 rfl rfl (Or.inl rfl) (Or.inl ⟨rfl, hr⟩) ?_
  exact fr_vret d_B_open_10 rfl (Nat.zero_le _) (Nat.zero_le _) ⟨rfl, rfl⟩
theorem fw_B_open {n : Nat} {I : fr_I} {r : Nat} (hw : fr_wf n I) : fr_wf n (f_B_open I r) := by
  unfold f_B_open
  exact (fw_ui (k := 10) (j := 6) rfl (fw_ui (k := 10) (j := 0) rfl hw))
def f_B_pauseAfter (I : fr_I) (p1 : Int32) : Int32 :=
  if p1 = 0 then
    5
  else
    if p1 = 1 then
      20
    else
      50
set_option maxRecDepth 10000 in
theorem ct_B_pauseAfter (X : fr_X) (n : Nat) (I : fr_I) (J : fr_J) (p1 : Int32) : fr_Ct X y_B_pauseAfter c_B_pauseAfter 1 (some .int) (fr_rm 0) [.int p1] (fr_Z0 X n) (fr_Z0 X n) I J (fr_pi (fun x I' J' => (f_B_pauseAfter I p1) = x ∧ I = I' ∧ J = J')) := by
  refine fr_ct (by decide) rfl rfl (Nat.le_of_ble_eq_true rfl) rfl (fun E => ?_)
  refine fr_iload_n d_B_pauseAfter_0 rfl ?_
  refine fr_if_ne 6 d_B_pauseAfter_1 rfl (fun h1 => ?_) (fun h1 => ?_)
  · skip
    refine fr_iload_n d_B_pauseAfter_6 rfl ?_
    refine fr_iconst d_B_pauseAfter_7 fr_i1 ?_
    refine fr_icmp_ne 16 d_B_pauseAfter_8 rfl (fun h2 => ?_) (fun h2 => ?_)
    · skip
      refine fr_bipush d_B_pauseAfter_16 fr_b50 ?_
      exact fr_iret d_B_pauseAfter_18 rfl (fr_nar_i _) (Nat.zero_le _) (Nat.zero_le _) ⟨(by unfold f_B_pauseAfter; rw [if_neg h1, if_neg h2]), rfl, rfl⟩
    · skip
      refine fr_bipush d_B_pauseAfter_11 fr_b20 ?_
      refine fr_goto 18 d_B_pauseAfter_13 rfl ?_
      exact fr_iret d_B_pauseAfter_18 rfl (fr_nar_i _) (Nat.zero_le _) (Nat.zero_le _) ⟨(by unfold f_B_pauseAfter; rw [if_neg h1, if_pos h2]), rfl, rfl⟩
  · skip
    refine fr_iconst d_B_pauseAfter_4 fr_i5 ?_
    exact fr_iret d_B_pauseAfter_5 rfl (fr_nar_i _) (Nat.zero_le _) (Nat.zero_le _) ⟨(by unfold f_B_pauseAfter; rw [if_pos h1]), rfl, rfl⟩
def f_B_awaitClosing (I : fr_I) (r : Nat) (p1 : Int32) : fr_I :=
  (fr_ui (fr_ui I 10 r 8 1) 10 r 9 (p1 + (f_B_pauseAfter ((fr_ui I 10 r 8 1)) ((fr_ui I 10 r 8 1) 10 r 5))))
set_option maxRecDepth 10000 in
theorem ct_B_awaitClosing (X : fr_X) (n : Nat) (r : Nat) (hr : r < n) (I : fr_I) (J : fr_J) (p1 : Int32) : fr_Ct X y_B_awaitClosing c_B_awaitClosing 2 none (fr_rm 1) [.ref (fr_ad X 10 r), .int p1] (fr_Z0 X n) (fr_Z0 X n) I J (fr_pv (fun I' J' => (f_B_awaitClosing I r p1) = I' ∧ J = J')) := by
  refine fr_ct (by decide) rfl rfl (Nat.le_of_ble_eq_true rfl) rfl (fun E => ?_)
  refine fr_aload_n d_B_awaitClosing_0 rfl ?_
  refine fr_iconst d_B_awaitClosing_1 fr_i1 ?_
  refine fr_putz d_B_awaitClosing_2 fl_B_29 rfl rfl (Or.inr rfl) (Or.inl ⟨rfl, hr⟩) ?_
  refine fr_aload_n d_B_awaitClosing_5 rfl ?_
  refine fr_iload_n d_B_awaitClosing_6 rfl ?_
  refine fr_aload_n d_B_awaitClosing_7 rfl ?_
  refine fr_geti d_B_awaitClosing_8 fl_B_32 rfl rfl (Or.inl ⟨rfl, hr⟩) ?_
  refine fr_callSi d_B_awaitClosing_11 (ct_B_pauseAfter X n _ _ _) ms_B_35 rfl rfl ⟨Nat.le_of_ble_eq_true rfl, Nat.le_of_ble_eq_true rfl⟩ ⟨rfl, rfl⟩ ⟨Nat.zero_le _, Nat.zero_le _⟩ (Nat.le_of_ble_eq_true rfl) (fun x I' J' hp1 => ?_)
  obtain ⟨rfl, rfl, rfl⟩ := hp1
  refine fr_iadd d_B_awaitClosing_14 ?_
  refine fr_puti d_B_awaitClosing_15 fl_B_39 rfl rfl (Or.inl ⟨rfl, hr⟩) ?_
  exact fr_vret d_B_awaitClosing_18 rfl (Nat.zero_le _) (Nat.zero_le _) ⟨rfl, rfl⟩
theorem fw_B_awaitClosing {n : Nat} {I : fr_I} {r : Nat} {p1 : Int32} (hw : fr_wf n I) : fr_wf n (f_B_awaitClosing I r p1) := by
  unfold f_B_awaitClosing
  exact (fw_ui (k := 10) (j := 9) rfl (fw_ui (k := 10) (j := 8) rfl hw))
def f_B_mustClose (I : fr_I) (r : Nat) (p1 : Int32) : Int32 :=
  if (I 10 r 8) = 0 then
    0
  else
    if p1 < (I 10 r 9) then
      0
    else
      1
set_option maxRecDepth 10000 in
theorem ct_B_mustClose (X : fr_X) (n : Nat) (r : Nat) (hr : r < n) (I : fr_I) (J : fr_J) (p1 : Int32) : fr_Ct X y_B_mustClose c_B_mustClose 2 (some .boolean) (fr_rm 0) [.ref (fr_ad X 10 r), .int p1] (fr_Z0 X n) (fr_Z0 X n) I J (fr_pi (fun x I' J' => (f_B_mustClose I r p1) = x ∧ I = I' ∧ J = J')) := by
  refine fr_ct (by decide) rfl rfl (Nat.le_of_ble_eq_true rfl) rfl (fun E => ?_)
  refine fr_aload_n d_B_mustClose_0 rfl ?_
  refine fr_geti d_B_mustClose_1 fl_B_29 rfl rfl (Or.inl ⟨rfl, hr⟩) ?_
  refine fr_if_eq 19 d_B_mustClose_4 rfl (fun h1 => ?_) (fun h1 => ?_)
  · skip
    refine fr_iconst d_B_mustClose_19 fr_i0 ?_
    exact fr_iret d_B_mustClose_20 rfl (fr_nar_b (Or.inl rfl)) (Nat.zero_le _) (Nat.zero_le _) ⟨(by unfold f_B_mustClose; rw [if_pos h1]), rfl, rfl⟩
  · skip
    refine fr_iload_n d_B_mustClose_7 rfl ?_
    refine fr_aload_n d_B_mustClose_8 rfl ?_
    refine fr_geti d_B_mustClose_9 fl_B_39 rfl rfl (Or.inl ⟨rfl, hr⟩) ?_
    refine fr_icmp_lt 19 d_B_mustClose_12 rfl (fun h2 => ?_) (fun h2 => ?_)
    · skip
      refine fr_iconst d_B_mustClose_19 fr_i0 ?_
      exact fr_iret d_B_mustClose_20 rfl (fr_nar_b (Or.inl rfl)) (Nat.zero_le _) (Nat.zero_le _) ⟨(by unfold f_B_mustClose; rw [if_neg h1, if_pos h2]), rfl, rfl⟩
    · skip
      refine fr_iconst d_B_mustClose_15 fr_i1 ?_
      refine fr_goto 20 d_B_mustClose_16 rfl ?_
      exact fr_iret d_B_mustClose_20 rfl (fr_nar_b (Or.inr rfl)) (Nat.zero_le _) (Nat.zero_le _) ⟨(by unfold f_B_mustClose; rw [if_neg h1, if_neg h2]), rfl, rfl⟩
def f_B_closeAgain (I : fr_I) (r : Nat) (p1 : Int32) : fr_I :=
  (fr_ui (fr_ui (fr_ui (fr_ui I 10 r 0 1) 10 r 8 0) 10 r 5 (((fr_ui (fr_ui I 10 r 0 1) 10 r 8 0) 10 r 5) + 1)) 10 r 10 (p1 + 30))
set_option maxRecDepth 10000 in
theorem ct_B_closeAgain (X : fr_X) (n : Nat) (r : Nat) (hr : r < n) (I : fr_I) (J : fr_J) (p1 : Int32) : fr_Ct X y_B_closeAgain c_B_closeAgain 2 none (fr_rm 0) [.ref (fr_ad X 10 r), .int p1] (fr_Z0 X n) (fr_Z0 X n) I J (fr_pv (fun I' J' => (f_B_closeAgain I r p1) = I' ∧ J = J')) := by
  refine fr_ct (by decide) rfl rfl (Nat.le_of_ble_eq_true rfl) rfl (fun E => ?_)
  refine fr_aload_n d_B_closeAgain_0 rfl ?_
  refine fr_iconst d_B_closeAgain_1 fr_i1 ?_
  refine fr_putz d_B_closeAgain_2 fl_B_7 rfl rfl (Or.inr rfl) (Or.inl ⟨rfl, hr⟩) ?_
  refine fr_aload_n d_B_closeAgain_5 rfl ?_
  refine fr_iconst d_B_closeAgain_6 fr_i0 ?_
  refine fr_putz d_B_closeAgain_7 fl_B_29 rfl rfl (Or.inl rfl) (Or.inl ⟨rfl, hr⟩) ?_
  refine fr_aload_n d_B_closeAgain_10 rfl ?_
  refine fr_dup d_B_closeAgain_11 rfl ?_
  refine fr_geti d_B_closeAgain_12 fl_B_32 rfl rfl (Or.inl ⟨rfl, hr⟩) ?_
  refine fr_iconst d_B_closeAgain_15 fr_i1 ?_
  refine fr_iadd d_B_closeAgain_16 ?_
  refine fr_puti d_B_closeAgain_17 fl_B_32 rfl rfl (Or.inl ⟨rfl, hr⟩) ?_
  refine fr_aload_n d_B_closeAgain_20 rfl ?_
  refine fr_iload_n d_B_closeAgain_21 rfl ?_
  refine fr_bipush d_B_closeAgain_22 fr_b30 ?_
  refine fr_iadd d_B_closeAgain_24 ?_
  refine fr_puti d_B_closeAgain_25 fl_B_42 rfl rfl (Or.inl ⟨rfl, hr⟩) ?_
  exact fr_vret d_B_closeAgain_28 rfl (Nat.zero_le _) (Nat.zero_le _) ⟨rfl, rfl⟩
theorem fw_B_closeAgain {n : Nat} {I : fr_I} {r : Nat} {p1 : Int32} (hw : fr_wf n I) : fr_wf n (f_B_closeAgain I r p1) := by
  unfold f_B_closeAgain
  exact (fw_ui (k := 10) (j := 10) rfl (fw_ui (k := 10) (j := 5) rfl (fw_ui (k := 10) (j := 8) rfl (fw_ui (k := 10) (j := 0) rfl hw))))
def f_B_mustReclaim (I : fr_I) (r : Nat) (p1 : Int32) : Int32 :=
  if (I 10 r 5) ≤ 0 then
    0
  else
    if (I 10 r 0) = 0 then
      0
    else
      if (I 10 r 6) = 0 then
        if p1 < (I 10 r 10) then
          0
        else
          1
      else
        0
set_option maxRecDepth 10000 in
theorem ct_B_mustReclaim (X : fr_X) (n : Nat) (r : Nat) (hr : r < n) (I : fr_I) (J : fr_J) (p1 : Int32) : fr_Ct X y_B_mustReclaim c_B_mustReclaim 2 (some .boolean) (fr_rm 0) [.ref (fr_ad X 10 r), .int p1] (fr_Z0 X n) (fr_Z0 X n) I J (fr_pi (fun x I' J' => (f_B_mustReclaim I r p1) = x ∧ I = I' ∧ J = J')) := by
  refine fr_ct (by decide) rfl rfl (Nat.le_of_ble_eq_true rfl) rfl (fun E => ?_)
  refine fr_aload_n d_B_mustReclaim_0 rfl ?_
  refine fr_geti d_B_mustReclaim_1 fl_B_32 rfl rfl (Or.inl ⟨rfl, hr⟩) ?_
  refine fr_if_le 33 d_B_mustReclaim_4 rfl (fun h1 => ?_) (fun h1 => ?_)
  · skip
    refine fr_iconst d_B_mustReclaim_33 fr_i0 ?_
    exact fr_iret d_B_mustReclaim_34 rfl (fr_nar_b (Or.inl rfl)) (Nat.zero_le _) (Nat.zero_le _) ⟨(by unfold f_B_mustReclaim; rw [if_pos h1]), rfl, rfl⟩
  · skip
    refine fr_aload_n d_B_mustReclaim_7 rfl ?_
    refine fr_geti d_B_mustReclaim_8 fl_B_7 rfl rfl (Or.inl ⟨rfl, hr⟩) ?_
    refine fr_if_eq 33 d_B_mustReclaim_11 rfl (fun h2 => ?_) (fun h2 => ?_)
    · skip
      refine fr_iconst d_B_mustReclaim_33 fr_i0 ?_
      exact fr_iret d_B_mustReclaim_34 rfl (fr_nar_b (Or.inl rfl)) (Nat.zero_le _) (Nat.zero_le _) ⟨(by unfold f_B_mustReclaim; rw [if_neg h1, if_pos h2]), rfl, rfl⟩
    · skip
      refine fr_aload_n d_B_mustReclaim_14 rfl ?_
      refine fr_geti d_B_mustReclaim_15 fl_B_13 rfl rfl (Or.inl ⟨rfl, hr⟩) ?_
      refine fr_if_ne 33 d_B_mustReclaim_18 rfl (fun h3 => ?_) (fun h3 => ?_)
      · skip
        refine fr_iconst d_B_mustReclaim_33 fr_i0 ?_
        exact fr_iret d_B_mustReclaim_34 rfl (fr_nar_b (Or.inl rfl)) (Nat.zero_le _) (Nat.zero_le _) ⟨(by unfold f_B_mustReclaim; rw [if_neg h1, if_neg h2, if_neg h3]), rfl, rfl⟩
      · skip
        refine fr_iload_n d_B_mustReclaim_21 rfl ?_
        refine fr_aload_n d_B_mustReclaim_22 rfl ?_
        refine fr_geti d_B_mustReclaim_23 fl_B_42 rfl rfl (Or.inl ⟨rfl, hr⟩) ?_
        refine fr_icmp_lt 33 d_B_mustReclaim_26 rfl (fun h4 => ?_) (fun h4 => ?_)
        · skip
          refine fr_iconst d_B_mustReclaim_33 fr_i0 ?_
          exact fr_iret d_B_mustReclaim_34 rfl (fr_nar_b (Or.inl rfl)) (Nat.zero_le _) (Nat.zero_le _) ⟨(by unfold f_B_mustReclaim; rw [if_neg h1, if_neg h2, if_pos h3, if_pos h4]), rfl, rfl⟩
        · skip
          refine fr_iconst d_B_mustReclaim_29 fr_i1 ?_
          refine fr_goto 34 d_B_mustReclaim_30 rfl ?_
          exact fr_iret d_B_mustReclaim_34 rfl (fr_nar_b (Or.inr rfl)) (Nat.zero_le _) (Nat.zero_le _) ⟨(by unfold f_B_mustReclaim; rw [if_neg h1, if_neg h2, if_pos h3, if_neg h4]), rfl, rfl⟩
def f_B_forget (I : fr_I) (r : Nat) : fr_I :=
  (fr_ui (fr_ui (fr_ui (fr_ui I 10 r 6 0) 10 r 8 0) 10 r 5 0) 10 r 2 (if ((fr_ui (fr_ui (fr_ui I 10 r 6 0) 10 r 8 0) 10 r 5 0) 10 r 0) = 0 then (1 : Int32) else 0))
set_option maxRecDepth 10000 in
theorem ct_B_forget (X : fr_X) (n : Nat) (r : Nat) (hr : r < n) (I : fr_I) (J : fr_J) : fr_Ct X y_B_forget c_B_forget 1 none (fr_rm 0) [.ref (fr_ad X 10 r)] (fr_Z0 X n) (fr_Z0 X n) I J (fr_pv (fun I' J' => (f_B_forget I r) = I' ∧ J = J')) := by
  refine fr_ct (by decide) rfl rfl (Nat.le_of_ble_eq_true rfl) rfl (fun E => ?_)
  refine fr_aload_n d_B_forget_0 rfl ?_
  refine fr_iconst d_B_forget_1 fr_i0 ?_
  refine fr_putz d_B_forget_2 fl_B_13 rfl rfl (Or.inl rfl) (Or.inl ⟨rfl, hr⟩) ?_
  refine fr_aload_n d_B_forget_5 rfl ?_
  refine fr_iconst d_B_forget_6 fr_i0 ?_
  refine fr_putz d_B_forget_7 fl_B_29 rfl rfl (Or.inl rfl) (Or.inl ⟨rfl, hr⟩) ?_
  refine fr_aload_n d_B_forget_10 rfl ?_
  refine fr_iconst d_B_forget_11 fr_i0 ?_
  refine fr_puti d_B_forget_12 fl_B_32 rfl rfl (Or.inl ⟨rfl, hr⟩) ?_
  refine fr_aload_n d_B_forget_15 rfl ?_
  refine fr_aload_n d_B_forget_16 rfl ?_
  refine fr_geti d_B_forget_17 fl_B_7 rfl rfl (Or.inl ⟨rfl, hr⟩) ?_
  refine fr_tif_ne (t := 27) (j := 28) d_B_forget_20 rfl (fun k => fr_iconst d_B_forget_23 fr_i1 (fr_goto 28 d_B_forget_24 rfl k)) (fun k => fr_iconst d_B_forget_27 fr_i0 k) ?_
  refine fr_putz d_B_forget_28 fl_B_45 rfl rfl fr_if10 (Or.inl ⟨rfl, hr⟩) ?_
  exact fr_vret d_B_forget_31 rfl (Nat.zero_le _) (Nat.zero_le _) ⟨rfl, rfl⟩
theorem fw_B_forget {n : Nat} {I : fr_I} {r : Nat} (hw : fr_wf n I) : fr_wf n (f_B_forget I r) := by
  unfold f_B_forget
  exact (fw_ui (k := 10) (j := 2) rfl (fw_ui (k := 10) (j := 5) rfl (fw_ui (k := 10) (j := 8) rfl (fw_ui (k := 10) (j := 6) rfl hw))))
def f_B_bits (I : fr_I) (r : Nat) : Int32 :=
  (((((if (I 10 r 0) = 0 then (0 : Int32) else 1) + (if (I 10 r 6) = 0 then (0 : Int32) else 4)) + (if (I 10 r 8) = 0 then (0 : Int32) else 8)) + (if (I 10 r 2) = 0 then (0 : Int32) else 16)) + (if (I 10 r 1) = 0 then (0 : Int32) else 32))
set_option maxRecDepth 10000 in
theorem ct_B_bits (X : fr_X) (n : Nat) (r : Nat) (hr : r < n) (I : fr_I) (J : fr_J) : fr_Ct X y_B_bits c_B_bits 2 (some .int) (fr_rm 0) [.ref (fr_ad X 10 r)] (fr_Z0 X n) (fr_Z0 X n) I J (fr_pi (fun x I' J' => (f_B_bits I r) = x ∧ I = I' ∧ J = J')) := by
  refine fr_ct (by decide) rfl rfl (Nat.le_of_ble_eq_true rfl) rfl (fun E => ?_)
  refine fr_aload_n d_B_bits_0 rfl ?_
  refine fr_geti d_B_bits_1 fl_B_7 rfl rfl (Or.inl ⟨rfl, hr⟩) ?_
  refine fr_tif_eq (t := 11) (j := 12) d_B_bits_4 rfl (fun k => fr_iconst d_B_bits_7 fr_i1 (fr_goto 12 d_B_bits_8 rfl k)) (fun k => fr_iconst d_B_bits_11 fr_i0 k) ?_
  refine fr_istore_n (L' := [(1, .int _), (0, .ref _)]) d_B_bits_12 (by decide) rfl ?_
  refine fr_iload_n d_B_bits_13 rfl ?_
  refine fr_aload_n d_B_bits_14 rfl ?_
  refine fr_geti d_B_bits_15 fl_B_13 rfl rfl (Or.inl ⟨rfl, hr⟩) ?_
  refine fr_tif_eq (t := 25) (j := 26) d_B_bits_18 rfl (fun k => fr_iconst d_B_bits_21 fr_i4 (fr_goto 26 d_B_bits_22 rfl k)) (fun k => fr_iconst d_B_bits_25 fr_i0 k) ?_
  refine fr_iadd d_B_bits_26 ?_
  refine fr_istore_n (L' := [(1, .int _), (0, .ref _)]) d_B_bits_27 (by decide) rfl ?_
  refine fr_iload_n d_B_bits_28 rfl ?_
  refine fr_aload_n d_B_bits_29 rfl ?_
  refine fr_geti d_B_bits_30 fl_B_29 rfl rfl (Or.inl ⟨rfl, hr⟩) ?_
  refine fr_tif_eq (t := 41) (j := 42) d_B_bits_33 rfl (fun k => fr_bipush d_B_bits_36 fr_b8 (fr_goto 42 d_B_bits_38 rfl k)) (fun k => fr_iconst d_B_bits_41 fr_i0 k) ?_
  refine fr_iadd d_B_bits_42 ?_
  refine fr_istore_n (L' := [(1, .int _), (0, .ref _)]) d_B_bits_43 (by decide) rfl ?_
  refine fr_iload_n d_B_bits_44 rfl ?_
  refine fr_aload_n d_B_bits_45 rfl ?_
  refine fr_geti d_B_bits_46 fl_B_45 rfl rfl (Or.inl ⟨rfl, hr⟩) ?_
  refine fr_tif_eq (t := 57) (j := 58) d_B_bits_49 rfl (fun k => fr_bipush d_B_bits_52 fr_b16 (fr_goto 58 d_B_bits_54 rfl k)) (fun k => fr_iconst d_B_bits_57 fr_i0 k) ?_
  refine fr_iadd d_B_bits_58 ?_
  refine fr_istore_n (L' := [(1, .int _), (0, .ref _)]) d_B_bits_59 (by decide) rfl ?_
  refine fr_iload_n d_B_bits_60 rfl ?_
  refine fr_aload_n d_B_bits_61 rfl ?_
  refine fr_geti d_B_bits_62 fl_B_26 rfl rfl (Or.inl ⟨rfl, hr⟩) ?_
  refine fr_tif_eq (t := 73) (j := 74) d_B_bits_65 rfl (fun k => fr_bipush d_B_bits_68 fr_b32 (fr_goto 74 d_B_bits_70 rfl k)) (fun k => fr_iconst d_B_bits_73 fr_i0 k) ?_
  refine fr_iadd d_B_bits_74 ?_
  refine fr_istore_n (L' := [(1, .int _), (0, .ref _)]) d_B_bits_75 (by decide) rfl ?_
  refine fr_iload_n d_B_bits_76 rfl ?_
  exact fr_iret d_B_bits_77 rfl (fr_nar_i _) (Nat.zero_le _) (Nat.zero_le _) ⟨rfl, rfl, rfl⟩
end
section
def f_J_add (I : fr_I) (p1 : Int32) (p2 : Int32) (p3 : Int32) : fr_I :=
  if 200 ≤ (I 4 0 2) then
    I
  else
    (fr_ui (fr_ui (fr_ui I 5 0 ((I 4 0 2).toNatClampNeg) (p1 + (8 * p2))) 6 0 ((I 4 0 2).toNatClampNeg) p3) 4 0 2 (((fr_ui (fr_ui I 5 0 ((I 4 0 2).toNatClampNeg) (p1 + (8 * p2))) 6 0 ((I 4 0 2).toNatClampNeg) p3) 4 0 2) + 1))
set_option maxRecDepth 10000 in
theorem ct_J_add (X : fr_X) (n : Nat) (I : fr_I) (J : fr_J) (p1 : Int32) (p2 : Int32) (p3 : Int32) (hw : fr_wf n I) : fr_Ct X y_J_add c_J_add 4 none (fr_rm 0) [.ref (fr_ad X 4 0), .int p1, .int p2, .int p3] (fr_Z0 X n) (fr_Z0 X n) I J (fr_pv (fun I' J' => (f_J_add I p1 p2 p3) = I' ∧ J = J')) := by
  refine fr_ct (by decide) rfl rfl (Nat.le_of_ble_eq_true rfl) rfl (fun E => ?_)
  refine fr_aload_n d_J_add_0 rfl ?_
  refine fr_geti d_J_add_1 fl_J_16 rfl rfl (Or.inr ⟨rfl, rfl⟩) ?_
  refine fr_sipush d_J_add_4 fr_s200 ?_
  refine fr_icmp_ge 45 d_J_add_7 rfl (fun h1 => ?_) (fun h1 => ?_)
  · skip
    exact fr_vret d_J_add_45 rfl (Nat.zero_le _) (Nat.zero_le _) ⟨(by unfold f_J_add; rw [if_pos h1]), rfl⟩
  · skip
    refine fr_aload_n d_J_add_10 rfl ?_
    refine fr_getr (k' := 5) (r' := 0) d_J_add_11 fl_J_9 rfl rfl rfl (Or.inr ⟨rfl, rfl⟩) ?_
    refine fr_aload_n d_J_add_14 rfl ?_
    refine fr_geti d_J_add_15 fl_J_16 rfl rfl (Or.inr ⟨rfl, rfl⟩) ?_
    refine fr_iload_n d_J_add_18 rfl ?_
    refine fr_bipush d_J_add_19 fr_b8 ?_
    refine fr_iload_n d_J_add_21 rfl ?_
    refine fr_imul d_J_add_22 ?_
    refine fr_iadd d_J_add_23 ?_
    refine fr_iast ((I 4 0 2).toNatClampNeg) d_J_add_24 rfl rfl (Or.inr ⟨rfl, rfl⟩) (fw_rec_eq hw) (fw_rec_lt hw h1) (by decide) ?_
    refine fr_aload_n d_J_add_25 rfl ?_
    refine fr_getr (k' := 6) (r' := 0) d_J_add_26 fl_J_13 rfl rfl rfl (Or.inr ⟨rfl, rfl⟩) ?_
    refine fr_aload_n d_J_add_29 rfl ?_
    refine fr_geti d_J_add_30 fl_J_16 rfl rfl (Or.inr ⟨rfl, rfl⟩) ?_
    refine fr_iload_n d_J_add_33 rfl ?_
    refine fr_iast ((I 4 0 2).toNatClampNeg) d_J_add_34 rfl rfl (Or.inr ⟨rfl, rfl⟩) ((fr_ui_n (fun z => absurd z.1 (by decide))).trans (fw_rec_eq hw)) (fw_rec_lt hw h1) (by decide) ?_
    refine fr_aload_n d_J_add_35 rfl ?_
    refine fr_dup d_J_add_36 rfl ?_
    refine fr_geti d_J_add_37 fl_J_16 rfl rfl (Or.inr ⟨rfl, rfl⟩) ?_
    refine fr_iconst d_J_add_40 fr_i1 ?_
    refine fr_iadd d_J_add_41 ?_
    refine fr_puti d_J_add_42 fl_J_16 rfl rfl (Or.inr ⟨rfl, rfl⟩) ?_
    exact fr_vret d_J_add_45 rfl (Nat.zero_le _) (Nat.zero_le _) ⟨(by unfold f_J_add; rw [if_neg h1]), rfl⟩
theorem fw_J_add {n : Nat} {I : fr_I} {p1 p2 p3 : Int32} (hw : fr_wf n I) : fr_wf n (f_J_add I p1 p2 p3) := by
  unfold f_J_add
  split
  · exact hw
  · rename_i h
    have h0 : fr_wf n (fr_ui (fr_ui I 5 0 ((I 4 0 2).toNatClampNeg) (p1 + 8 * p2)) 6 0 ((I 4 0 2).toNatClampNeg) p3) := fw_ui rfl (fw_ui rfl hw)
    have hlt := fw_rec_lt hw h
    have heq := fw_rec_eq hw
    obtain ⟨a1, a2, a3, a4, a5, a6⟩ := h0
    refine ⟨a1, (fr_ui_n (fun z => absurd z.1 (by decide))).trans a2, ?_, fun q hq => ?_, fun q hq => ?_, (by rw [fr_ui_n (fun z => absurd z.2.2 (by decide))]; exact a6)⟩
    · rw [fr_ui_s, fr_ui_n (fun z => absurd z.1 (by decide)), fr_ui_n (fun z => absurd z.1 (by decide))]
      exact ⟨(I 4 0 2).toNatClampNeg + 1, by omega, by rw [← nI_1, ← heq]⟩
    · rw [fr_ui_n (fun z => absurd z.1 (by decide))]; exact a4 q hq
    · rw [fr_ui_n (fun z => absurd z.1 (by decide))]; exact a5 q hq
def f_J_has (I : fr_I) (p1 : Int32) : Int32 :=
  if p1 < 0 then
    0
  else
    if (I 4 0 2) ≤ p1 then
      0
    else
      1
set_option maxRecDepth 10000 in
theorem ct_J_has (X : fr_X) (n : Nat) (I : fr_I) (J : fr_J) (p1 : Int32) : fr_Ct X y_J_has c_J_has 2 (some .boolean) (fr_rm 0) [.ref (fr_ad X 4 0), .int p1] (fr_Z0 X n) (fr_Z0 X n) I J (fr_pi (fun x I' J' => (f_J_has I p1) = x ∧ I = I' ∧ J = J')) := by
  refine fr_ct (by decide) rfl rfl (Nat.le_of_ble_eq_true rfl) rfl (fun E => ?_)
  refine fr_iload_n d_J_has_0 rfl ?_
  refine fr_if_lt 16 d_J_has_1 rfl (fun h1 => ?_) (fun h1 => ?_)
  · skip
    refine fr_iconst d_J_has_16 fr_i0 ?_
    exact fr_iret d_J_has_17 rfl (fr_nar_b (Or.inl rfl)) (Nat.zero_le _) (Nat.zero_le _) ⟨(by unfold f_J_has; rw [if_pos h1]), rfl, rfl⟩
  · skip
    refine fr_iload_n d_J_has_4 rfl ?_
    refine fr_aload_n d_J_has_5 rfl ?_
    refine fr_geti d_J_has_6 fl_J_16 rfl rfl (Or.inr ⟨rfl, rfl⟩) ?_
    refine fr_icmp_ge 16 d_J_has_9 rfl (fun h2 => ?_) (fun h2 => ?_)
    · skip
      refine fr_iconst d_J_has_16 fr_i0 ?_
      exact fr_iret d_J_has_17 rfl (fr_nar_b (Or.inl rfl)) (Nat.zero_le _) (Nat.zero_le _) ⟨(by unfold f_J_has; rw [if_neg h1, if_pos h2]), rfl, rfl⟩
    · skip
      refine fr_iconst d_J_has_12 fr_i1 ?_
      refine fr_goto 17 d_J_has_13 rfl ?_
      exact fr_iret d_J_has_17 rfl (fr_nar_b (Or.inr rfl)) (Nat.zero_le _) (Nat.zero_le _) ⟨(by unfold f_J_has; rw [if_neg h1, if_neg h2]), rfl, rfl⟩
def f_J_store (I : fr_I) : fr_I :=
  (fr_ui I 4 0 3 (if (I 4 0 2) < ((I 4 0 3) + 2) then (I 4 0 2) else ((I 4 0 3) + 2)))
set_option maxRecDepth 10000 in
theorem ct_J_store (X : fr_X) (n : Nat) (I : fr_I) (J : fr_J) : fr_Ct X y_J_store c_J_store 1 none (fr_rm 1) [.ref (fr_ad X 4 0)] (fr_Z0 X n) (fr_Z0 X n) I J (fr_pv (fun I' J' => (f_J_store I) = I' ∧ J = J')) := by
  refine fr_ct (by decide) rfl rfl (Nat.le_of_ble_eq_true rfl) rfl (fun E => ?_)
  refine fr_aload_n d_J_store_0 rfl ?_
  refine fr_aload_n d_J_store_1 rfl ?_
  refine fr_geti d_J_store_2 fl_J_20 rfl rfl (Or.inr ⟨rfl, rfl⟩) ?_
  refine fr_iconst d_J_store_5 fr_i2 ?_
  refine fr_iadd d_J_store_6 ?_
  refine fr_aload_n d_J_store_7 rfl ?_
  refine fr_geti d_J_store_8 fl_J_16 rfl rfl (Or.inr ⟨rfl, rfl⟩) ?_
  refine fr_mmin d_J_store_11 ml_J_23 mw_min1 mw_min2 mw_min3 (Nat.le_of_ble_eq_true rfl) (Nat.le_of_ble_eq_true rfl) (Nat.zero_le _) (Nat.zero_le _) ?_
  refine fr_puti d_J_store_14 fl_J_20 rfl rfl (Or.inr ⟨rfl, rfl⟩) ?_
  exact fr_vret d_J_store_17 rfl (Nat.zero_le _) (Nat.zero_le _) ⟨rfl, rfl⟩
theorem fw_J_store {n : Nat} {I : fr_I} (hw : fr_wf n I) : fr_wf n (f_J_store I) := by
  unfold f_J_store
  obtain ⟨a1, a2, a3, a4, a5, a6⟩ := hw
  refine ⟨a1, (fr_ui_n (fun z => absurd z.1 (by decide))).trans a2, (by rw [fr_ui_n (fun z => absurd z.2.2 (by decide))]; exact a3), fun q hq => (by rw [fr_ui_n (fun z => absurd z.1 (by decide))]; exact a4 q hq), fun q hq => (by rw [fr_ui_n (fun z => absurd z.1 (by decide))]; exact a5 q hq), ?_⟩
  rw [fr_ui_s]
  split
  · exact a3
  · rename_i h
    obtain ⟨e, he, h1⟩ := a6
    obtain ⟨e2, he2, h2⟩ := a3
    rw [h1, h2, show (2 : Int32) = nI 2 from rfl, nI_add] at h
    rw [h1, show (2 : Int32) = nI 2 from rfl, nI_add]
    have : ¬ e2 < e + 2 := fun q => h (nI_lt q (by omega))
    exact ⟨e + 2, by omega, rfl⟩
def f_J_dropUnstored (I : fr_I) : Int32 × fr_I :=
  (((I 4 0 2) - (I 4 0 3)), (fr_ui I 4 0 2 (I 4 0 3)))
set_option maxRecDepth 10000 in
theorem ct_J_dropUnstored (X : fr_X) (n : Nat) (I : fr_I) (J : fr_J) : fr_Ct X y_J_dropUnstored c_J_dropUnstored 2 (some .int) (fr_rm 0) [.ref (fr_ad X 4 0)] (fr_Z0 X n) (fr_Z0 X n) I J (fr_pi (fun x I' J' => (f_J_dropUnstored I).1 = x ∧ (f_J_dropUnstored I).2 = I' ∧ J = J')) := by
  refine fr_ct (by decide) rfl rfl (Nat.le_of_ble_eq_true rfl) rfl (fun E => ?_)
  refine fr_aload_n d_J_dropUnstored_0 rfl ?_
  refine fr_geti d_J_dropUnstored_1 fl_J_16 rfl rfl (Or.inr ⟨rfl, rfl⟩) ?_
  refine fr_aload_n d_J_dropUnstored_4 rfl ?_
  refine fr_geti d_J_dropUnstored_5 fl_J_20 rfl rfl (Or.inr ⟨rfl, rfl⟩) ?_
  refine fr_isub d_J_dropUnstored_8 ?_
  refine fr_istore_n (L' := [(1, .int _), (0, .ref _)]) d_J_dropUnstored_9 (by decide) rfl ?_
  refine fr_aload_n d_J_dropUnstored_10 rfl ?_
  refine fr_aload_n d_J_dropUnstored_11 rfl ?_
  refine fr_geti d_J_dropUnstored_12 fl_J_20 rfl rfl (Or.inr ⟨rfl, rfl⟩) ?_
  refine fr_puti d_J_dropUnstored_15 fl_J_16 rfl rfl (Or.inr ⟨rfl, rfl⟩) ?_
  refine fr_iload_n d_J_dropUnstored_18 rfl ?_
  exact fr_iret d_J_dropUnstored_19 rfl (fr_nar_i _) (Nat.zero_le _) (Nat.zero_le _) (fr_tIx (rfl))
theorem fw_J_dropUnstored {n : Nat} {I : fr_I} (hw : fr_wf n I) : fr_wf n (f_J_dropUnstored I).2 := by
  show fr_wf n (fr_ui I 4 0 2 (I 4 0 3))
  obtain ⟨a1, a2, a3, a4, a5, a6⟩ := hw
  refine ⟨a1, (fr_ui_n (fun z => absurd z.1 (by decide))).trans a2, (by rw [fr_ui_s]; exact a6), fun q hq => (by rw [fr_ui_n (fun z => absurd z.1 (by decide))]; exact a4 q hq), fun q hq => (by rw [fr_ui_n (fun z => absurd z.1 (by decide))]; exact a5 q hq), (by rw [fr_ui_n (fun z => absurd z.2.2 (by decide))]; exact a6)⟩
end
section
def f_A_fill_9 (I : fr_I) (r : Nat) (p1 : Int32) : fr_I :=
  (fr_ui (fr_ui (fr_ui (fr_ui I 9 r 0 p1) 9 r 1 p1) 9 r 2 p1) 9 r 3 p1)
set_option maxRecDepth 10000 in
theorem ct_A_fill_9 (X : fr_X) (n : Nat) (r : Nat) (hr : r < n) (I : fr_I) (J : fr_J) (p1 : Int32) : fr_Ct X y_A_fill c_A_fill 4 none (fr_rm 0) [.ref (fr_ad X 9 r), .int p1] (fr_Z0 X n) (fr_Z0 X n) I J (fr_pv (fun I' J' => (f_A_fill_9 I r p1) = I' ∧ J = J')) := by
  refine fr_ct (by decide) rfl rfl (Nat.le_of_ble_eq_true rfl) rfl (fun E => ?_)
  refine fr_iconst d_A_fill_0 fr_i0 ?_
  refine fr_istore_n (L' := [(2, .int _), (0, .ref _), (1, .int _)]) d_A_fill_1 (by decide) rfl ?_
  refine fr_aload_n d_A_fill_2 rfl ?_
  refine fr_alen (v := 4) d_A_fill_3 rfl (Or.inl ⟨rfl, hr⟩) rfl ?_
  refine fr_istore_n (L' := [(3, .int _), (2, .int _), (0, .ref _), (1, .int _)]) d_A_fill_4 (by decide) rfl ?_
  refine fr_iload_n d_A_fill_5 rfl ?_
  refine fr_iload_n d_A_fill_6 rfl ?_
  refine fr_icmp_ge 20 d_A_fill_7 rfl (fun h => absurd h (by decide)) (fun _ => ?_)
  refine fr_aload_n d_A_fill_10 rfl ?_
  refine fr_iload_n d_A_fill_11 rfl ?_
  refine fr_iload_n d_A_fill_12 rfl ?_
  refine fr_iast (0) d_A_fill_13 rfl rfl (Or.inl ⟨rfl, hr⟩) rfl (by decide) (by decide) ?_
  refine fr_iinc (v := 1) (L' := [(2, .int _), (3, .int _), (0, .ref _), (1, .int _)]) d_A_fill_14 rfl (by decide) (by decide) rfl ?_
  refine fr_goto 5 d_A_fill_17 rfl ?_
  refine fr_iload_n d_A_fill_5 rfl ?_
  refine fr_iload_n d_A_fill_6 rfl ?_
  refine fr_icmp_ge 20 d_A_fill_7 rfl (fun h => absurd h (by decide)) (fun _ => ?_)
  refine fr_aload_n d_A_fill_10 rfl ?_
  refine fr_iload_n d_A_fill_11 rfl ?_
  refine fr_iload_n d_A_fill_12 rfl ?_
  refine fr_iast (1) d_A_fill_13 rfl rfl (Or.inl ⟨rfl, hr⟩) rfl (by decide) (by decide) ?_
  refine fr_iinc (v := 2) (L' := [(2, .int _), (3, .int _), (0, .ref _), (1, .int _)]) d_A_fill_14 rfl (by decide) (by decide) rfl ?_
  refine fr_goto 5 d_A_fill_17 rfl ?_
  refine fr_iload_n d_A_fill_5 rfl ?_
  refine fr_iload_n d_A_fill_6 rfl ?_
  refine fr_icmp_ge 20 d_A_fill_7 rfl (fun h => absurd h (by decide)) (fun _ => ?_)
  refine fr_aload_n d_A_fill_10 rfl ?_
  refine fr_iload_n d_A_fill_11 rfl ?_
  refine fr_iload_n d_A_fill_12 rfl ?_
  refine fr_iast (2) d_A_fill_13 rfl rfl (Or.inl ⟨rfl, hr⟩) rfl (by decide) (by decide) ?_
  refine fr_iinc (v := 3) (L' := [(2, .int _), (3, .int _), (0, .ref _), (1, .int _)]) d_A_fill_14 rfl (by decide) (by decide) rfl ?_
  refine fr_goto 5 d_A_fill_17 rfl ?_
  refine fr_iload_n d_A_fill_5 rfl ?_
  refine fr_iload_n d_A_fill_6 rfl ?_
  refine fr_icmp_ge 20 d_A_fill_7 rfl (fun h => absurd h (by decide)) (fun _ => ?_)
  refine fr_aload_n d_A_fill_10 rfl ?_
  refine fr_iload_n d_A_fill_11 rfl ?_
  refine fr_iload_n d_A_fill_12 rfl ?_
  refine fr_iast (3) d_A_fill_13 rfl rfl (Or.inl ⟨rfl, hr⟩) rfl (by decide) (by decide) ?_
  refine fr_iinc (v := 4) (L' := [(2, .int _), (3, .int _), (0, .ref _), (1, .int _)]) d_A_fill_14 rfl (by decide) (by decide) rfl ?_
  refine fr_goto 5 d_A_fill_17 rfl ?_
  refine fr_iload_n d_A_fill_5 rfl ?_
  refine fr_iload_n d_A_fill_6 rfl ?_
  refine fr_icmp_ge 20 d_A_fill_7 rfl (fun _ => ?_) (fun h => absurd h (by decide))
  exact fr_vret d_A_fill_20 rfl (Nat.zero_le _) (Nat.zero_le _) ⟨rfl, rfl⟩
theorem fw_A_fill_9 {n : Nat} {I : fr_I} {r : Nat} {p1 : Int32} (hw : fr_wf n I) : fr_wf n (f_A_fill_9 I r p1) := by
  unfold f_A_fill_9
  exact (fw_ui (k := 9) rfl (fw_ui (k := 9) rfl (fw_ui (k := 9) rfl (fw_ui (k := 9) rfl hw))))
def f_A_fill_13 (I : fr_I) (r : Nat) (p1 : Int32) : fr_I :=
  (fr_ui (fr_ui (fr_ui (fr_ui (fr_ui (fr_ui (fr_ui (fr_ui I 13 r 0 p1) 13 r 1 p1) 13 r 2 p1) 13 r 3 p1) 13 r 4 p1) 13 r 5 p1) 13 r 6 p1) 13 r 7 p1)
set_option maxRecDepth 10000 in
theorem ct_A_fill_13 (X : fr_X) (n : Nat) (r : Nat) (hr : r < n) (I : fr_I) (J : fr_J) (p1 : Int32) : fr_Ct X y_A_fill c_A_fill 4 none (fr_rm 0) [.ref (fr_ad X 13 r), .int p1] (fr_Z0 X n) (fr_Z0 X n) I J (fr_pv (fun I' J' => (f_A_fill_13 I r p1) = I' ∧ J = J')) := by
  refine fr_ct (by decide) rfl rfl (Nat.le_of_ble_eq_true rfl) rfl (fun E => ?_)
  refine fr_iconst d_A_fill_0 fr_i0 ?_
  refine fr_istore_n (L' := [(2, .int _), (0, .ref _), (1, .int _)]) d_A_fill_1 (by decide) rfl ?_
  refine fr_aload_n d_A_fill_2 rfl ?_
  refine fr_alen (v := 8) d_A_fill_3 rfl (Or.inl ⟨rfl, hr⟩) rfl ?_
  refine fr_istore_n (L' := [(3, .int _), (2, .int _), (0, .ref _), (1, .int _)]) d_A_fill_4 (by decide) rfl ?_
  refine fr_iload_n d_A_fill_5 rfl ?_
  refine fr_iload_n d_A_fill_6 rfl ?_
  refine fr_icmp_ge 20 d_A_fill_7 rfl (fun h => absurd h (by decide)) (fun _ => ?_)
  refine fr_aload_n d_A_fill_10 rfl ?_
  refine fr_iload_n d_A_fill_11 rfl ?_
  refine fr_iload_n d_A_fill_12 rfl ?_
  refine fr_iast (0) d_A_fill_13 rfl rfl (Or.inl ⟨rfl, hr⟩) rfl (by decide) (by decide) ?_
  refine fr_iinc (v := 1) (L' := [(2, .int _), (3, .int _), (0, .ref _), (1, .int _)]) d_A_fill_14 rfl (by decide) (by decide) rfl ?_
  refine fr_goto 5 d_A_fill_17 rfl ?_
  refine fr_iload_n d_A_fill_5 rfl ?_
  refine fr_iload_n d_A_fill_6 rfl ?_
  refine fr_icmp_ge 20 d_A_fill_7 rfl (fun h => absurd h (by decide)) (fun _ => ?_)
  refine fr_aload_n d_A_fill_10 rfl ?_
  refine fr_iload_n d_A_fill_11 rfl ?_
  refine fr_iload_n d_A_fill_12 rfl ?_
  refine fr_iast (1) d_A_fill_13 rfl rfl (Or.inl ⟨rfl, hr⟩) rfl (by decide) (by decide) ?_
  refine fr_iinc (v := 2) (L' := [(2, .int _), (3, .int _), (0, .ref _), (1, .int _)]) d_A_fill_14 rfl (by decide) (by decide) rfl ?_
  refine fr_goto 5 d_A_fill_17 rfl ?_
  refine fr_iload_n d_A_fill_5 rfl ?_
  refine fr_iload_n d_A_fill_6 rfl ?_
  refine fr_icmp_ge 20 d_A_fill_7 rfl (fun h => absurd h (by decide)) (fun _ => ?_)
  refine fr_aload_n d_A_fill_10 rfl ?_
  refine fr_iload_n d_A_fill_11 rfl ?_
  refine fr_iload_n d_A_fill_12 rfl ?_
  refine fr_iast (2) d_A_fill_13 rfl rfl (Or.inl ⟨rfl, hr⟩) rfl (by decide) (by decide) ?_
  refine fr_iinc (v := 3) (L' := [(2, .int _), (3, .int _), (0, .ref _), (1, .int _)]) d_A_fill_14 rfl (by decide) (by decide) rfl ?_
  refine fr_goto 5 d_A_fill_17 rfl ?_
  refine fr_iload_n d_A_fill_5 rfl ?_
  refine fr_iload_n d_A_fill_6 rfl ?_
  refine fr_icmp_ge 20 d_A_fill_7 rfl (fun h => absurd h (by decide)) (fun _ => ?_)
  refine fr_aload_n d_A_fill_10 rfl ?_
  refine fr_iload_n d_A_fill_11 rfl ?_
  refine fr_iload_n d_A_fill_12 rfl ?_
  refine fr_iast (3) d_A_fill_13 rfl rfl (Or.inl ⟨rfl, hr⟩) rfl (by decide) (by decide) ?_
  refine fr_iinc (v := 4) (L' := [(2, .int _), (3, .int _), (0, .ref _), (1, .int _)]) d_A_fill_14 rfl (by decide) (by decide) rfl ?_
  refine fr_goto 5 d_A_fill_17 rfl ?_
  refine fr_iload_n d_A_fill_5 rfl ?_
  refine fr_iload_n d_A_fill_6 rfl ?_
  refine fr_icmp_ge 20 d_A_fill_7 rfl (fun h => absurd h (by decide)) (fun _ => ?_)
  refine fr_aload_n d_A_fill_10 rfl ?_
  refine fr_iload_n d_A_fill_11 rfl ?_
  refine fr_iload_n d_A_fill_12 rfl ?_
  refine fr_iast (4) d_A_fill_13 rfl rfl (Or.inl ⟨rfl, hr⟩) rfl (by decide) (by decide) ?_
  refine fr_iinc (v := 5) (L' := [(2, .int _), (3, .int _), (0, .ref _), (1, .int _)]) d_A_fill_14 rfl (by decide) (by decide) rfl ?_
  refine fr_goto 5 d_A_fill_17 rfl ?_
  refine fr_iload_n d_A_fill_5 rfl ?_
  refine fr_iload_n d_A_fill_6 rfl ?_
  refine fr_icmp_ge 20 d_A_fill_7 rfl (fun h => absurd h (by decide)) (fun _ => ?_)
  refine fr_aload_n d_A_fill_10 rfl ?_
  refine fr_iload_n d_A_fill_11 rfl ?_
  refine fr_iload_n d_A_fill_12 rfl ?_
  refine fr_iast (5) d_A_fill_13 rfl rfl (Or.inl ⟨rfl, hr⟩) rfl (by decide) (by decide) ?_
  refine fr_iinc (v := 6) (L' := [(2, .int _), (3, .int _), (0, .ref _), (1, .int _)]) d_A_fill_14 rfl (by decide) (by decide) rfl ?_
  refine fr_goto 5 d_A_fill_17 rfl ?_
  refine fr_iload_n d_A_fill_5 rfl ?_
  refine fr_iload_n d_A_fill_6 rfl ?_
  refine fr_icmp_ge 20 d_A_fill_7 rfl (fun h => absurd h (by decide)) (fun _ => ?_)
  refine fr_aload_n d_A_fill_10 rfl ?_
  refine fr_iload_n d_A_fill_11 rfl ?_
  refine fr_iload_n d_A_fill_12 rfl ?_
  refine fr_iast (6) d_A_fill_13 rfl rfl (Or.inl ⟨rfl, hr⟩) rfl (by decide) (by decide) ?_
  refine fr_iinc (v := 7) (L' := [(2, .int _), (3, .int _), (0, .ref _), (1, .int _)]) d_A_fill_14 rfl (by decide) (by decide) rfl ?_
  refine fr_goto 5 d_A_fill_17 rfl ?_
  refine fr_iload_n d_A_fill_5 rfl ?_
  refine fr_iload_n d_A_fill_6 rfl ?_
  refine fr_icmp_ge 20 d_A_fill_7 rfl (fun h => absurd h (by decide)) (fun _ => ?_)
  refine fr_aload_n d_A_fill_10 rfl ?_
  refine fr_iload_n d_A_fill_11 rfl ?_
  refine fr_iload_n d_A_fill_12 rfl ?_
  refine fr_iast (7) d_A_fill_13 rfl rfl (Or.inl ⟨rfl, hr⟩) rfl (by decide) (by decide) ?_
  refine fr_iinc (v := 8) (L' := [(2, .int _), (3, .int _), (0, .ref _), (1, .int _)]) d_A_fill_14 rfl (by decide) (by decide) rfl ?_
  refine fr_goto 5 d_A_fill_17 rfl ?_
  refine fr_iload_n d_A_fill_5 rfl ?_
  refine fr_iload_n d_A_fill_6 rfl ?_
  refine fr_icmp_ge 20 d_A_fill_7 rfl (fun _ => ?_) (fun h => absurd h (by decide))
  exact fr_vret d_A_fill_20 rfl (Nat.zero_le _) (Nat.zero_le _) ⟨rfl, rfl⟩
theorem fw_A_fill_13 {n : Nat} {I : fr_I} {r : Nat} {p1 : Int32} (hw : fr_wf n I) : fr_wf n (f_A_fill_13 I r p1) := by
  unfold f_A_fill_13
  exact (fw_ui (k := 13) rfl (fw_ui (k := 13) rfl (fw_ui (k := 13) rfl (fw_ui (k := 13) rfl (fw_ui (k := 13) rfl (fw_ui (k := 13) rfl (fw_ui (k := 13) rfl (fw_ui (k := 13) rfl hw))))))))
def f_W_placeOf (I : fr_I) (p1 : Int32) : Int32 :=
  (p1 &&& 7)
set_option maxRecDepth 10000 in
theorem ct_W_placeOf (X : fr_X) (n : Nat) (I : fr_I) (J : fr_J) (p1 : Int32) : fr_Ct X y_W_placeOf c_W_placeOf 1 (some .int) (fr_rm 0) [.int p1] (fr_Z0 X n) (fr_Z0 X n) I J (fr_pi (fun x I' J' => (f_W_placeOf I p1) = x ∧ I = I' ∧ J = J')) := by
  refine fr_ct (by decide) rfl rfl (Nat.le_of_ble_eq_true rfl) rfl (fun E => ?_)
  refine fr_iload_n d_W_placeOf_0 rfl ?_
  refine fr_bipush d_W_placeOf_1 fr_b7 ?_
  refine fr_iand d_W_placeOf_3 ?_
  exact fr_iret d_W_placeOf_4 rfl (fr_nar_i _) (Nat.zero_le _) (Nat.zero_le _) ⟨rfl, rfl, rfl⟩
def f_W_learn (I : fr_I) (r : Nat) (p1 : Int32) (p2 : Int32) : fr_I :=
  if (p1 >>> (1 &&& 31)) < ((I 11 r 5) >>> (1 &&& 31)) then
    I
  else
    (fr_ui (fr_ui I 11 r 5 p1) 11 r 6 p2)
set_option maxRecDepth 10000 in
theorem ct_W_learn (X : fr_X) (n : Nat) (r : Nat) (hr : r < n) (I : fr_I) (J : fr_J) (p1 : Int32) (p2 : Int32) : fr_Ct X y_W_learn c_W_learn 3 none (fr_rm 0) [.ref (fr_ad X 11 r), .int p1, .int p2] (fr_Z0 X n) (fr_Z0 X n) I J (fr_pv (fun I' J' => (f_W_learn I r p1 p2) = I' ∧ J = J')) := by
  refine fr_ct (by decide) rfl rfl (Nat.le_of_ble_eq_true rfl) rfl (fun E => ?_)
  refine fr_iload_n d_W_learn_0 rfl ?_
  refine fr_iconst d_W_learn_1 fr_i1 ?_
  refine fr_ishr d_W_learn_2 ?_
  refine fr_aload_n d_W_learn_3 rfl ?_
  refine fr_geti d_W_learn_4 fl_W_50 rfl rfl (Or.inl ⟨rfl, hr⟩) ?_
  refine fr_iconst d_W_learn_7 fr_i1 ?_
  refine fr_ishr d_W_learn_8 ?_
  refine fr_icmp_lt 22 d_W_learn_9 rfl (fun h1 => ?_) (fun h1 => ?_)
  · skip
    exact fr_vret d_W_learn_22 rfl (Nat.zero_le _) (Nat.zero_le _) ⟨(by unfold f_W_learn; rw [if_pos h1]), rfl⟩
  · skip
    refine fr_aload_n d_W_learn_12 rfl ?_
    refine fr_iload_n d_W_learn_13 rfl ?_
    refine fr_puti d_W_learn_14 fl_W_50 rfl rfl (Or.inl ⟨rfl, hr⟩) ?_
    refine fr_aload_n d_W_learn_17 rfl ?_
    refine fr_iload_n d_W_learn_18 rfl ?_
    refine fr_puti d_W_learn_19 fl_W_53 rfl rfl (Or.inl ⟨rfl, hr⟩) ?_
    exact fr_vret d_W_learn_22 rfl (Nat.zero_le _) (Nat.zero_le _) ⟨(by unfold f_W_learn; rw [if_neg h1]), rfl⟩
theorem fw_W_learn {n : Nat} {I : fr_I} {r : Nat} {p1 : Int32} {p2 : Int32} (hw : fr_wf n I) : fr_wf n (f_W_learn I r p1 p2) := by
  unfold f_W_learn
  refine fw_ite (fun h => ?_) (fun h => ?_)
  · skip
    exact hw
  · skip
    exact (fw_ui (k := 11) (j := 6) rfl (fw_ui (k := 11) (j := 5) rfl hw))
def f_W_holdsBack (I : fr_I) (r : Nat) (p1 : Int32) : Int32 :=
  if ((I 11 r 5) &&& 1) = 1 then
    if 12 < (p1 - (I 11 r 6)) then
      0
    else
      1
  else
    0
set_option maxRecDepth 10000 in
theorem ct_W_holdsBack (X : fr_X) (n : Nat) (r : Nat) (hr : r < n) (I : fr_I) (J : fr_J) (p1 : Int32) : fr_Ct X y_W_holdsBack c_W_holdsBack 2 (some .boolean) (fr_rm 0) [.ref (fr_ad X 11 r), .int p1] (fr_Z0 X n) (fr_Z0 X n) I J (fr_pi (fun x I' J' => (f_W_holdsBack I r p1) = x ∧ I = I' ∧ J = J')) := by
  refine fr_ct (by decide) rfl rfl (Nat.le_of_ble_eq_true rfl) rfl (fun E => ?_)
  refine fr_aload_n d_W_holdsBack_0 rfl ?_
  refine fr_geti d_W_holdsBack_1 fl_W_50 rfl rfl (Or.inl ⟨rfl, hr⟩) ?_
  refine fr_iconst d_W_holdsBack_4 fr_i1 ?_
  refine fr_iand d_W_holdsBack_5 ?_
  refine fr_iconst d_W_holdsBack_6 fr_i1 ?_
  refine fr_icmp_ne 25 d_W_holdsBack_7 rfl (fun h1 => ?_) (fun h1 => ?_)
  · skip
    refine fr_iconst d_W_holdsBack_25 fr_i0 ?_
    exact fr_iret d_W_holdsBack_26 rfl (fr_nar_b (Or.inl rfl)) (Nat.zero_le _) (Nat.zero_le _) ⟨(by unfold f_W_holdsBack; rw [if_neg h1]), rfl, rfl⟩
  · skip
    refine fr_iload_n d_W_holdsBack_10 rfl ?_
    refine fr_aload_n d_W_holdsBack_11 rfl ?_
    refine fr_geti d_W_holdsBack_12 fl_W_53 rfl rfl (Or.inl ⟨rfl, hr⟩) ?_
    refine fr_isub d_W_holdsBack_15 ?_
    refine fr_bipush d_W_holdsBack_16 fr_b12 ?_
    refine fr_icmp_gt 25 d_W_holdsBack_18 rfl (fun h2 => ?_) (fun h2 => ?_)
    · skip
      refine fr_iconst d_W_holdsBack_25 fr_i0 ?_
      exact fr_iret d_W_holdsBack_26 rfl (fr_nar_b (Or.inl rfl)) (Nat.zero_le _) (Nat.zero_le _) ⟨(by unfold f_W_holdsBack; rw [if_pos h1, if_pos h2]), rfl, rfl⟩
    · skip
      refine fr_iconst d_W_holdsBack_21 fr_i1 ?_
      refine fr_goto 26 d_W_holdsBack_22 rfl ?_
      exact fr_iret d_W_holdsBack_26 rfl (fr_nar_b (Or.inr rfl)) (Nat.zero_le _) (Nat.zero_le _) ⟨(by unfold f_W_holdsBack; rw [if_pos h1, if_neg h2]), rfl, rfl⟩
def f_W_send (I : fr_I) (r : Nat) (p1 : Int32) (p2 : Int32) : fr_I :=
  if ((fr_ui I 12 r (((f_W_placeOf I p2)).toNatClampNeg) p1) 11 r 3) = 0 then
    (fr_ui (fr_ui I 12 r (((f_W_placeOf I p2)).toNatClampNeg) p1) 13 r (((f_W_placeOf I p2)).toNatClampNeg) 0)
  else
    (fr_ui (fr_ui I 12 r (((f_W_placeOf I p2)).toNatClampNeg) p1) 13 r (((f_W_placeOf I p2)).toNatClampNeg) (p2 + ((fr_ui I 12 r (((f_W_placeOf I p2)).toNatClampNeg) p1) 11 r 3)))
set_option maxRecDepth 10000 in
theorem ct_W_send (X : fr_X) (n : Nat) (r : Nat) (hr : r < n) (I : fr_I) (J : fr_J) (p1 : Int32) (p2 : Int32) : fr_Ct X y_W_send c_W_send 4 none (fr_rm 1) [.ref (fr_ad X 11 r), .int p1, .int p2] (fr_Z0 X n) (fr_Z0 X n) I J (fr_pv (fun I' J' => (f_W_send I r p1 p2) = I' ∧ J = J')) := by
  refine fr_ct (by decide) rfl rfl (Nat.le_of_ble_eq_true rfl) rfl (fun E => ?_)
  refine fr_iload_n d_W_send_0 rfl ?_
  refine fr_callSi d_W_send_1 (ct_W_placeOf X n _ _ _) ms_W_27 rfl rfl ⟨Nat.le_of_ble_eq_true rfl, Nat.le_of_ble_eq_true rfl⟩ ⟨rfl, rfl⟩ ⟨Nat.zero_le _, Nat.zero_le _⟩ (Nat.le_of_ble_eq_true rfl) (fun x I' J' hp1 => ?_)
  obtain ⟨rfl, rfl, rfl⟩ := hp1
  refine fr_istore_n (L' := [(3, .int _), (0, .ref _), (1, .int _), (2, .int _)]) d_W_send_4 (by decide) rfl ?_
  refine fr_aload_n d_W_send_5 rfl ?_
  refine fr_getr (k' := 12) (r' := r) d_W_send_6 fl_W_9 rfl rfl rfl (Or.inl ⟨rfl, hr⟩) ?_
  refine fr_iload_n d_W_send_9 rfl ?_
  refine fr_iload_n d_W_send_10 rfl ?_
  refine fr_iast (((f_W_placeOf I p2)).toNatClampNeg) d_W_send_11 rfl rfl (Or.inl ⟨rfl, hr⟩) (fr_and7_eq _) (fr_and7_lt _) (by decide) ?_
  refine fr_aload_n d_W_send_12 rfl ?_
  refine fr_getr (k' := 13) (r' := r) d_W_send_13 fl_W_13 rfl rfl rfl (Or.inl ⟨rfl, hr⟩) ?_
  refine fr_iload_n d_W_send_16 rfl ?_
  refine fr_aload_n d_W_send_17 rfl ?_
  refine fr_geti d_W_send_18 fl_W_16 rfl rfl (Or.inl ⟨rfl, hr⟩) ?_
  refine fr_if_ne 28 d_W_send_21 rfl (fun h2 => ?_) (fun h2 => ?_)
  · skip
    refine fr_iload_n d_W_send_28 rfl ?_
    refine fr_aload_n d_W_send_29 rfl ?_
    refine fr_geti d_W_send_30 fl_W_16 rfl rfl (Or.inl ⟨rfl, hr⟩) ?_
    refine fr_iadd d_W_send_33 ?_
    refine fr_iast (((f_W_placeOf I p2)).toNatClampNeg) d_W_send_34 rfl rfl (Or.inl ⟨rfl, hr⟩) (fr_and7_eq _) (fr_and7_lt _) (by decide) ?_
    exact fr_vret d_W_send_35 rfl (Nat.zero_le _) (Nat.zero_le _) ⟨(by unfold f_W_send; rw [if_neg h2]), rfl⟩
  · skip
    refine fr_iconst d_W_send_24 fr_i0 ?_
    refine fr_goto 34 d_W_send_25 rfl ?_
    refine fr_iast (((f_W_placeOf I p2)).toNatClampNeg) d_W_send_34 rfl rfl (Or.inl ⟨rfl, hr⟩) (fr_and7_eq _) (fr_and7_lt _) (by decide) ?_
    exact fr_vret d_W_send_35 rfl (Nat.zero_le _) (Nat.zero_le _) ⟨(by unfold f_W_send; rw [if_pos h2]), rfl⟩
theorem fw_W_send {n : Nat} {I : fr_I} {r : Nat} {p1 : Int32} {p2 : Int32} (hw : fr_wf n I) : fr_wf n (f_W_send I r p1 p2) := by
  unfold f_W_send
  refine fw_ite (fun h => ?_) (fun h => ?_)
  · skip
    exact (fw_ui (k := 13) rfl (fw_ui (k := 12) rfl hw))
  · skip
    exact (fw_ui (k := 13) rfl (fw_ui (k := 12) rfl hw))
def f_W_report (I : fr_I) (r : Nat) (p1 : Int32) (p2 : Int32) (p3 : Int32) : fr_I :=
  if p3 = 0 then
    if (I 11 r 8) = 0 then
      I
    else
      if p1 < (I 11 r 8) then
        I
      else
        if ((fr_ui (fr_ui I 11 r 7 (if 8 < (2 * (I 11 r 7)) then 8 else (2 * (I 11 r 7)))) 11 r 8 (p1 + ((fr_ui I 11 r 7 (if 8 < (2 * (I 11 r 7)) then 8 else (2 * (I 11 r 7)))) 11 r 7))) 11 r 0) = 0 then
          (fr_ui (fr_ui I 11 r 7 (if 8 < (2 * (I 11 r 7)) then 8 else (2 * (I 11 r 7)))) 11 r 8 (p1 + ((fr_ui I 11 r 7 (if 8 < (2 * (I 11 r 7)) then 8 else (2 * (I 11 r 7)))) 11 r 7)))
        else
          (f_W_send ((fr_ui (fr_ui I 11 r 7 (if 8 < (2 * (I 11 r 7)) then 8 else (2 * (I 11 r 7)))) 11 r 8 (p1 + ((fr_ui I 11 r 7 (if 8 < (2 * (I 11 r 7)) then 8 else (2 * (I 11 r 7)))) 11 r 7)))) r ((2 * ((fr_ui (fr_ui I 11 r 7 (if 8 < (2 * (I 11 r 7)) then 8 else (2 * (I 11 r 7)))) 11 r 8 (p1 + ((fr_ui I 11 r 7 (if 8 < (2 * (I 11 r 7)) then 8 else (2 * (I 11 r 7)))) 11 r 7))) 11 r 4)) + (if p2 = 0 then (0 : Int32) else 1)) p1)
  else
    if ((fr_ui (fr_ui (fr_ui I 11 r 4 ((I 11 r 4) + 1)) 11 r 7 1) 11 r 8 (p1 + ((fr_ui (fr_ui I 11 r 4 ((I 11 r 4) + 1)) 11 r 7 1) 11 r 7))) 11 r 0) = 0 then
      (fr_ui (fr_ui (fr_ui I 11 r 4 ((I 11 r 4) + 1)) 11 r 7 1) 11 r 8 (p1 + ((fr_ui (fr_ui I 11 r 4 ((I 11 r 4) + 1)) 11 r 7 1) 11 r 7)))
    else
      (f_W_send ((fr_ui (fr_ui (fr_ui I 11 r 4 ((I 11 r 4) + 1)) 11 r 7 1) 11 r 8 (p1 + ((fr_ui (fr_ui I 11 r 4 ((I 11 r 4) + 1)) 11 r 7 1) 11 r 7)))) r ((2 * ((fr_ui (fr_ui (fr_ui I 11 r 4 ((I 11 r 4) + 1)) 11 r 7 1) 11 r 8 (p1 + ((fr_ui (fr_ui I 11 r 4 ((I 11 r 4) + 1)) 11 r 7 1) 11 r 7))) 11 r 4)) + (if p2 = 0 then (0 : Int32) else 1)) p1)
set_option maxRecDepth 10000 in
theorem ct_W_report (X : fr_X) (n : Nat) (r : Nat) (hr : r < n) (I : fr_I) (J : fr_J) (p1 : Int32) (p2 : Int32) (p3 : Int32) : fr_Ct X y_W_report c_W_report 4 none (fr_rm 2) [.ref (fr_ad X 11 r), .int p1, .int p2, .int p3] (fr_Z0 X n) (fr_Z0 X n) I J (fr_pv (fun I' J' => (f_W_report I r p1 p2 p3) = I' ∧ J = J')) := by
  refine fr_ct (by decide) rfl rfl (Nat.le_of_ble_eq_true rfl) rfl (fun E => ?_)
  refine fr_iload_n d_W_report_0 rfl ?_
  refine fr_if_eq 22 d_W_report_1 rfl (fun h1 => ?_) (fun h1 => ?_)
  · skip
    refine fr_aload_n d_W_report_22 rfl ?_
    refine fr_geti d_W_report_23 fl_W_20 rfl rfl (Or.inl ⟨rfl, hr⟩) ?_
    refine fr_if_eq 55 d_W_report_26 rfl (fun h2 => ?_) (fun h2 => ?_)
    · skip
      exact fr_vret d_W_report_55 rfl (Nat.zero_le _) (Nat.zero_le _) ⟨(by unfold f_W_report; rw [if_pos h1, if_pos h2]), rfl⟩
    · skip
      refine fr_iload_n d_W_report_29 rfl ?_
      refine fr_aload_n d_W_report_30 rfl ?_
      refine fr_geti d_W_report_31 fl_W_20 rfl rfl (Or.inl ⟨rfl, hr⟩) ?_
      refine fr_icmp_lt 55 d_W_report_34 rfl (fun h3 => ?_) (fun h3 => ?_)
      · skip
        exact fr_vret d_W_report_55 rfl (Nat.zero_le _) (Nat.zero_le _) ⟨(by unfold f_W_report; rw [if_pos h1, if_neg h2, if_pos h3]), rfl⟩
      · skip
        refine fr_aload_n d_W_report_37 rfl ?_
        refine fr_iconst d_W_report_38 fr_i2 ?_
        refine fr_aload_n d_W_report_39 rfl ?_
        refine fr_geti d_W_report_40 fl_W_38 rfl rfl (Or.inl ⟨rfl, hr⟩) ?_
        refine fr_imul d_W_report_43 ?_
        refine fr_bipush d_W_report_44 fr_b8 ?_
        refine fr_mmin d_W_report_46 ml_W_41 mw_min1 mw_min2 mw_min3 (Nat.le_of_ble_eq_true rfl) (Nat.le_of_ble_eq_true rfl) (Nat.zero_le _) (Nat.zero_le _) ?_
        refine fr_puti d_W_report_49 fl_W_38 rfl rfl (Or.inl ⟨rfl, hr⟩) ?_
        refine fr_goto 56 d_W_report_52 rfl ?_
        refine fr_aload_n d_W_report_56 rfl ?_
        refine fr_iload_n d_W_report_57 rfl ?_
        refine fr_aload_n d_W_report_58 rfl ?_
        refine fr_geti d_W_report_59 fl_W_38 rfl rfl (Or.inl ⟨rfl, hr⟩) ?_
        refine fr_iadd d_W_report_62 ?_
        refine fr_puti d_W_report_63 fl_W_20 rfl rfl (Or.inl ⟨rfl, hr⟩) ?_
        refine fr_aload_n d_W_report_66 rfl ?_
        refine fr_geti d_W_report_67 fl_W_23 rfl rfl (Or.inl ⟨rfl, hr⟩) ?_
        refine fr_if_eq 94 d_W_report_70 rfl (fun h4 => ?_) (fun h4 => ?_)
        · skip
          exact fr_vret d_W_report_94 rfl (Nat.zero_le _) (Nat.zero_le _) ⟨(by unfold f_W_report; rw [if_pos h1, if_neg h2, if_neg h3, if_pos h4]), rfl⟩
        · skip
          refine fr_aload_n d_W_report_73 rfl ?_
          refine fr_iconst d_W_report_74 fr_i2 ?_
          refine fr_aload_n d_W_report_75 rfl ?_
          refine fr_geti d_W_report_76 fl_W_35 rfl rfl (Or.inl ⟨rfl, hr⟩) ?_
          refine fr_imul d_W_report_79 ?_
          refine fr_iload_n d_W_report_80 rfl ?_
          refine fr_tif_eq (t := 88) (j := 89) d_W_report_81 rfl (fun k => fr_iconst d_W_report_84 fr_i1 (fr_goto 89 d_W_report_85 rfl k)) (fun k => fr_iconst d_W_report_88 fr_i0 k) ?_
          refine fr_iadd d_W_report_89 ?_
          refine fr_iload_n d_W_report_90 rfl ?_
          refine fr_callVv fr_q5 d_W_report_91 (ct_W_send X n r hr _ _ _ _) mv_W_47 rfl rfl rfl (Or.inl ⟨rfl, hr⟩) rfl rfl ⟨Nat.le_of_ble_eq_true rfl, Nat.le_of_ble_eq_true rfl⟩ ⟨rfl, rfl⟩ ⟨Nat.zero_le _, Nat.zero_le _⟩ (Nat.le_of_ble_eq_true rfl) (fun I' J' hp5 => ?_)
          obtain ⟨rfl, rfl⟩ := hp5
          exact fr_vret d_W_report_94 rfl (Nat.zero_le _) (Nat.zero_le _) ⟨(by unfold f_W_report; rw [if_pos h1, if_neg h2, if_neg h3, if_neg h4]), rfl⟩
  · skip
    refine fr_aload_n d_W_report_4 rfl ?_
    refine fr_dup d_W_report_5 rfl ?_
    refine fr_geti d_W_report_6 fl_W_35 rfl rfl (Or.inl ⟨rfl, hr⟩) ?_
    refine fr_iconst d_W_report_9 fr_i1 ?_
    refine fr_iadd d_W_report_10 ?_
    refine fr_puti d_W_report_11 fl_W_35 rfl rfl (Or.inl ⟨rfl, hr⟩) ?_
    refine fr_aload_n d_W_report_14 rfl ?_
    refine fr_iconst d_W_report_15 fr_i1 ?_
    refine fr_puti d_W_report_16 fl_W_38 rfl rfl (Or.inl ⟨rfl, hr⟩) ?_
    refine fr_goto 56 d_W_report_19 rfl ?_
    refine fr_aload_n d_W_report_56 rfl ?_
    refine fr_iload_n d_W_report_57 rfl ?_
    refine fr_aload_n d_W_report_58 rfl ?_
    refine fr_geti d_W_report_59 fl_W_38 rfl rfl (Or.inl ⟨rfl, hr⟩) ?_
    refine fr_iadd d_W_report_62 ?_
    refine fr_puti d_W_report_63 fl_W_20 rfl rfl (Or.inl ⟨rfl, hr⟩) ?_
    refine fr_aload_n d_W_report_66 rfl ?_
    refine fr_geti d_W_report_67 fl_W_23 rfl rfl (Or.inl ⟨rfl, hr⟩) ?_
    refine fr_if_eq 94 d_W_report_70 rfl (fun h6 => ?_) (fun h6 => ?_)
    · skip
      exact fr_vret d_W_report_94 rfl (Nat.zero_le _) (Nat.zero_le _) ⟨(by unfold f_W_report; rw [if_neg h1, if_pos h6]), rfl⟩
    · skip
      refine fr_aload_n d_W_report_73 rfl ?_
      refine fr_iconst d_W_report_74 fr_i2 ?_
      refine fr_aload_n d_W_report_75 rfl ?_
      refine fr_geti d_W_report_76 fl_W_35 rfl rfl (Or.inl ⟨rfl, hr⟩) ?_
      refine fr_imul d_W_report_79 ?_
      refine fr_iload_n d_W_report_80 rfl ?_
      refine fr_tif_eq (t := 88) (j := 89) d_W_report_81 rfl (fun k => fr_iconst d_W_report_84 fr_i1 (fr_goto 89 d_W_report_85 rfl k)) (fun k => fr_iconst d_W_report_88 fr_i0 k) ?_
      refine fr_iadd d_W_report_89 ?_
      refine fr_iload_n d_W_report_90 rfl ?_
      refine fr_callVv fr_q5 d_W_report_91 (ct_W_send X n r hr _ _ _ _) mv_W_47 rfl rfl rfl (Or.inl ⟨rfl, hr⟩) rfl rfl ⟨Nat.le_of_ble_eq_true rfl, Nat.le_of_ble_eq_true rfl⟩ ⟨rfl, rfl⟩ ⟨Nat.zero_le _, Nat.zero_le _⟩ (Nat.le_of_ble_eq_true rfl) (fun I' J' hp7 => ?_)
      obtain ⟨rfl, rfl⟩ := hp7
      exact fr_vret d_W_report_94 rfl (Nat.zero_le _) (Nat.zero_le _) ⟨(by unfold f_W_report; rw [if_neg h1, if_neg h6]), rfl⟩
theorem fw_W_report {n : Nat} {I : fr_I} {r : Nat} {p1 : Int32} {p2 : Int32} {p3 : Int32} (hw : fr_wf n I) : fr_wf n (f_W_report I r p1 p2 p3) := by
  unfold f_W_report
  refine fw_ite (fun h => ?_) (fun h => ?_)
  · skip
    refine fw_ite (fun h => ?_) (fun h => ?_)
    · skip
      exact hw
    · skip
      refine fw_ite (fun h => ?_) (fun h => ?_)
      · skip
        exact hw
      · skip
        refine fw_ite (fun h => ?_) (fun h => ?_)
        · skip
          exact (fw_ui (k := 11) (j := 8) rfl (fw_ui (k := 11) (j := 7) rfl hw))
        · skip
          exact (fw_W_send (fw_ui (k := 11) (j := 8) rfl (fw_ui (k := 11) (j := 7) rfl hw)))
  · skip
    refine fw_ite (fun h => ?_) (fun h => ?_)
    · skip
      exact (fw_ui (k := 11) (j := 8) rfl (fw_ui (k := 11) (j := 7) rfl (fw_ui (k := 11) (j := 4) rfl hw)))
    · skip
      exact (fw_W_send (fw_ui (k := 11) (j := 8) rfl (fw_ui (k := 11) (j := 7) rfl (fw_ui (k := 11) (j := 4) rfl hw))))
def f_W_forget (I : fr_I) (r : Nat) : fr_I :=
  (fr_ui (fr_ui (fr_ui (f_A_fill_13 I r 0) 11 r 4 0) 11 r 5 0) 11 r 8 0)
set_option maxRecDepth 10000 in
theorem ct_W_forget (X : fr_X) (n : Nat) (r : Nat) (hr : r < n) (I : fr_I) (J : fr_J) : fr_Ct X y_W_forget c_W_forget 1 none (fr_rm 1) [.ref (fr_ad X 11 r)] (fr_Z0 X n) (fr_Z0 X n) I J (fr_pv (fun I' J' => (f_W_forget I r) = I' ∧ J = J')) := by
  refine fr_ct (by decide) rfl rfl (Nat.le_of_ble_eq_true rfl) rfl (fun E => ?_)
  refine fr_aload_n d_W_forget_0 rfl ?_
  refine fr_getr (k' := 13) (r' := r) d_W_forget_1 fl_W_13 rfl rfl rfl (Or.inl ⟨rfl, hr⟩) ?_
  refine fr_iconst d_W_forget_4 fr_i0 ?_
  refine fr_callSv d_W_forget_5 (ct_A_fill_13 X n r hr _ _ _) ms_W_56 rfl rfl ⟨Nat.le_of_ble_eq_true rfl, Nat.le_of_ble_eq_true rfl⟩ ⟨rfl, rfl⟩ ⟨Nat.zero_le _, Nat.zero_le _⟩ (Nat.le_of_ble_eq_true rfl) (fun I' J' hp1 => ?_)
  obtain ⟨rfl, rfl⟩ := hp1
  refine fr_aload_n d_W_forget_8 rfl ?_
  refine fr_iconst d_W_forget_9 fr_i0 ?_
  refine fr_puti d_W_forget_10 fl_W_35 rfl rfl (Or.inl ⟨rfl, hr⟩) ?_
  refine fr_aload_n d_W_forget_13 rfl ?_
  refine fr_iconst d_W_forget_14 fr_i0 ?_
  refine fr_puti d_W_forget_15 fl_W_50 rfl rfl (Or.inl ⟨rfl, hr⟩) ?_
  refine fr_aload_n d_W_forget_18 rfl ?_
  refine fr_iconst d_W_forget_19 fr_i0 ?_
  refine fr_puti d_W_forget_20 fl_W_20 rfl rfl (Or.inl ⟨rfl, hr⟩) ?_
  exact fr_vret d_W_forget_23 rfl (Nat.zero_le _) (Nat.zero_le _) ⟨rfl, rfl⟩
theorem fw_W_forget {n : Nat} {I : fr_I} {r : Nat} (hw : fr_wf n I) : fr_wf n (f_W_forget I r) := by
  unfold f_W_forget
  exact (fw_ui (k := 11) (j := 8) rfl (fw_ui (k := 11) (j := 5) rfl (fw_ui (k := 11) (j := 4) rfl (fw_A_fill_13 hw))))
def fb_W_deliver (r : Nat) (p1 : Int32) (I : fr_I) (i : Nat) : fr_I :=
  if (I 13 r (((f_W_placeOf I (p1 + (nI i)))).toNatClampNeg)) = p1 then
    (f_W_learn I r (I 12 r (((f_W_placeOf I (p1 + (nI i)))).toNatClampNeg)) p1)
  else
    I
theorem fb_W_deliver_eq (r : Nat) (p1 : Int32) (I : fr_I) (i : Nat) : fb_W_deliver r p1 I i =
  if (I 13 r (((f_W_placeOf I (p1 + (nI i)))).toNatClampNeg)) = p1 then
    (f_W_learn I r (I 12 r (((f_W_placeOf I (p1 + (nI i)))).toNatClampNeg)) p1)
  else
    I := rfl
theorem fw_fb_W_deliver {n : Nat} {r : Nat} {p1 : Int32} {I : fr_I} {i : Nat} (hw : fr_wf n I) : fr_wf n (fb_W_deliver r p1 I i) := by
  unfold fb_W_deliver
  refine fw_ite (fun h => ?_) (fun h => ?_)
  · skip
    exact (fw_W_learn hw)
  · skip
    exact hw
def f_W_deliver (I : fr_I) (r : Nat) (p1 : Int32) : fr_I :=
  (fr_it (fb_W_deliver r p1) I 8)
set_option maxRecDepth 10000 in
theorem ct_W_deliver (X : fr_X) (n : Nat) (r : Nat) (hr : r < n) (I : fr_I) (J : fr_J) (p1 : Int32) : fr_Ct X y_W_deliver c_W_deliver 4 none (fr_rm 1) [.ref (fr_ad X 11 r), .int p1] (fr_Z0 X n) (fr_Z0 X n) I J (fr_pv (fun I' J' => (f_W_deliver I r p1) = I' ∧ J = J')) := by
  refine fr_ct (by decide) rfl rfl (Nat.le_of_ble_eq_true rfl) rfl (fun E => ?_)
  refine fr_iconst d_W_deliver_0 fr_i0 ?_
  refine fr_istore_n (L' := [(2, .int _), (0, .ref _), (1, .int _)]) d_W_deliver_1 (by decide) rfl ?_
  refine fr_pick (L' := [(2, .int _), (0, .ref _), (1, .int _)]) [0, 1, 2] rfl ?_
  refine fr_loop (fr_it (fb_W_deliver r p1) I) (fun _ => J) (fun i => [(2, .int (nI i)), (0, .ref (fr_ad X 11 r)), (1, .int p1)]) 8 rfl fr_it_0 rfl ?_ (fun i hi ih => ?_)
  · skip
    refine fr_iload_n d_W_deliver_2 rfl ?_
    refine fr_bipush d_W_deliver_3 fr_b8 ?_
    refine fr_icmp_ge 42 d_W_deliver_5 rfl (fun _ => ?_) (fun h => absurd (by decide) h)
    exact fr_vret d_W_deliver_42 rfl (Nat.zero_le _) (Nat.zero_le _) ⟨rfl, rfl⟩
  · skip
    refine fr_iload_n d_W_deliver_2 rfl ?_
    refine fr_bipush d_W_deliver_3 fr_b8 ?_
    refine fr_icmp_ge 42 d_W_deliver_5 rfl (fun h => absurd h (fr_nge (by decide) hi)) (fun _ => ?_)
    refine fr_iload_n d_W_deliver_8 rfl ?_
    refine fr_iload_n d_W_deliver_9 rfl ?_
    refine fr_iadd d_W_deliver_10 ?_
    refine fr_callSi d_W_deliver_11 (ct_W_placeOf X n _ _ _) ms_W_27 rfl rfl ⟨Nat.le_of_ble_eq_true rfl, Nat.le_of_ble_eq_true rfl⟩ ⟨rfl, rfl⟩ ⟨Nat.zero_le _, Nat.zero_le _⟩ (Nat.le_of_ble_eq_true rfl) (fun x I' J' hp1 => ?_)
    obtain ⟨rfl, rfl, rfl⟩ := hp1
    refine fr_istore_n (L' := [(3, .int _), (2, .int _), (0, .ref _), (1, .int _)]) d_W_deliver_14 (by decide) rfl ?_
    refine fr_aload_n d_W_deliver_15 rfl ?_
    refine fr_getr (k' := 13) (r' := r) d_W_deliver_16 fl_W_13 rfl rfl rfl (Or.inl ⟨rfl, hr⟩) ?_
    refine fr_iload_n d_W_deliver_19 rfl ?_
    refine fr_iald (((f_W_placeOf ((fr_it (fb_W_deliver r p1) I i)) (p1 + (nI i)))).toNatClampNeg) d_W_deliver_20 rfl rfl (Or.inl ⟨rfl, hr⟩) (fr_and7_eq _) (fr_and7_lt _) (by decide) ?_
    refine fr_iload_n d_W_deliver_21 rfl ?_
    refine fr_icmp_ne 36 d_W_deliver_22 rfl (fun h2 => ?_) (fun h2 => ?_)
    · skip
      refine fr_iinc (v := (nI (i + 1))) (L' := [(2, .int _), (3, .int _), (0, .ref _), (1, .int _)]) d_W_deliver_36 rfl (fr_inc _) (by decide) rfl ?_
      refine fr_goto 2 d_W_deliver_39 rfl ?_
      refine fr_pick (L' := [(2, .int _), (0, .ref _), (1, .int _)]) [0, 2, 3] rfl ?_
      refine fr_eqI (I' := fr_it (fb_W_deliver r p1) I (i + 1)) (Eq.symm (by rw [fr_it_s, fb_W_deliver_eq, if_neg h2])) rfl ?_
      exact ih
    · skip
      refine fr_aload_n d_W_deliver_25 rfl ?_
      refine fr_aload_n d_W_deliver_26 rfl ?_
      refine fr_getr (k' := 12) (r' := r) d_W_deliver_27 fl_W_9 rfl rfl rfl (Or.inl ⟨rfl, hr⟩) ?_
      refine fr_iload_n d_W_deliver_30 rfl ?_
      refine fr_iald (((f_W_placeOf ((fr_it (fb_W_deliver r p1) I i)) (p1 + (nI i)))).toNatClampNeg) d_W_deliver_31 rfl rfl (Or.inl ⟨rfl, hr⟩) (fr_and7_eq _) (fr_and7_lt _) (by decide) ?_
      refine fr_iload_n d_W_deliver_32 rfl ?_
      refine fr_callVv fr_q5 d_W_deliver_33 (ct_W_learn X n r hr _ _ _ _) mv_W_31 rfl rfl rfl (Or.inl ⟨rfl, hr⟩) rfl rfl ⟨Nat.le_of_ble_eq_true rfl, Nat.le_of_ble_eq_true rfl⟩ ⟨rfl, rfl⟩ ⟨Nat.zero_le _, Nat.zero_le _⟩ (Nat.le_of_ble_eq_true rfl) (fun I' J' hp3 => ?_)
      obtain ⟨rfl, rfl⟩ := hp3
      refine fr_iinc (v := (nI (i + 1))) (L' := [(2, .int _), (3, .int _), (0, .ref _), (1, .int _)]) d_W_deliver_36 rfl (fr_inc _) (by decide) rfl ?_
      refine fr_goto 2 d_W_deliver_39 rfl ?_
      refine fr_pick (L' := [(2, .int _), (0, .ref _), (1, .int _)]) [0, 2, 3] rfl ?_
      refine fr_eqI (I' := fr_it (fb_W_deliver r p1) I (i + 1)) (Eq.symm (by rw [fr_it_s, fb_W_deliver_eq, if_pos h2])) rfl ?_
      exact ih
theorem fw_W_deliver {n : Nat} {I : fr_I} {r : Nat} {p1 : Int32} (hw : fr_wf n I) : fr_wf n (f_W_deliver I r p1) := by
  unfold f_W_deliver
  exact (fw_it 8 (fun I i hi hw => fw_fb_W_deliver  hw) hw 8 (Nat.le_refl _))
end
section
-- the class's root, as its loop goes: K bits are left
def fr_bt : Nat → Int32
  | 0 => 0
  | K + 1 => nI (2 ^ K)
def fr_rb (m : Int64) : Nat → Int32 → Int32
  | 0, a => a
  | K + 1, a => if 0 < lg_cmp ((a + fr_bt (K + 1)).toInt64 * (a + fr_bt (K + 1)).toInt64) m then fr_rb m K a else fr_rb m K (a + fr_bt (K + 1))
theorem fr_rb_gt {m : Int64} {K : Nat} {a : Int32} (h : 0 < lg_cmp ((a + fr_bt (K + 1)).toInt64 * (a + fr_bt (K + 1)).toInt64) m) : fr_rb m (K + 1) a = fr_rb m K a := if_pos h
theorem fr_rb_le {m : Int64} {K : Nat} {a : Int32} (h : ¬ 0 < lg_cmp ((a + fr_bt (K + 1)).toInt64 * (a + fr_bt (K + 1)).toInt64) m) : fr_rb m (K + 1) a = fr_rb m K (a + fr_bt (K + 1)) := if_neg h
theorem fr_bt_pos {K : Nat} (h : K < 18) : ¬ fr_bt (K + 1) ≤ 0 := by
  have : ∀ K, K < 18 → ¬ fr_bt (K + 1) ≤ 0 := by decide
  exact this K h
theorem fr_bt_shr {K : Nat} (h : K < 18) : fr_bt (K + 1) >>> ((1 : Int32) &&& 31) = fr_bt K := by
  have : ∀ K, K < 18 → fr_bt (K + 1) >>> ((1 : Int32) &&& 31) = fr_bt K := by decide
  exact this K h
section FRind
variable {X : fr_X} {E : fr_E} {own nm : String} {cc : ByteArray} {nL : Nat} {ret : Option FieldType} {R : Room} {Q : State → Prop} {cs sl : Nat} {Z : fr_Z} {pc : Nat} {L : List (Nat × Value)} {st : List Value} {I : fr_I} {J : fr_J}
theorem fr_ind {α : Type} (LL : Nat → α → List (Nat × Value)) (inv : Nat → α → Prop) (e : Nat) (a0 : α) (h0 : L = LL e a0) (hi0 : inv e a0) (hz : ∀ a, inv 0 a → fr_Ev X E own nm cc nL ret R Q cs sl Z pc (LL 0 a) st I J)
    (hs : ∀ K a, K < e → inv (K + 1) a → (∀ a', inv K a' → fr_Ev X E own nm cc nL ret R Q cs sl Z pc (LL K a') st I J) → fr_Ev X E own nm cc nL ret R Q cs sl Z pc (LL (K + 1) a) st I J) : fr_Ev X E own nm cc nL ret R Q cs sl Z pc L st I J := by
  subst h0
  have key : ∀ K, K ≤ e → ∀ a, inv K a → fr_Ev X E own nm cc nL ret R Q cs sl Z pc (LL K a) st I J := by
    intro K
    induction K with
    | zero => intro _ a ha; exact hz a ha
    | succ K ih => intro hK a ha; exact hs K a (by omega) ha (ih (by omega))
  exact key e (Nat.le_refl _) a0 hi0
end FRind
theorem fw_oldp {n : Nat} {I : fr_I} {r : Nat} (hr : r < n) (hw : fr_wf n I) : fr_wf n (fr_ui I 8 r 1 (((I 8 r 1) + 1) - ((I 8 r 1) + 1) / 4 * 4)) := by
  obtain ⟨h1, h2, h3, h4, h5, h6⟩ := hw
  refine ⟨h1, (fr_ui_n (fun z => absurd z.1 (by decide))).trans h2, by rw [fr_ui_n (fun z => absurd z.1 (by decide))]; exact h3, fun q hq => ?_, fun q hq => by rw [fr_ui_n (fun z => absurd z.1 (by decide))]; exact h5 q hq, by rw [fr_ui_n (fun z => absurd z.1 (by decide))]; exact h6⟩
  by_cases e : q = r
  · subst e
    rw [fr_ui_s]
    obtain ⟨a, ha, h⟩ := h4 q hq
    rw [h, nI_1]
    exact ⟨(a + 1) % 4, Nat.mod_lt _ (by decide), pk_rem (a := a + 1) (d := 4) (by omega) (by decide) (by decide)⟩
  · rw [fr_ui_n (fun z => e z.2.1)]; exact h4 q hq
theorem fw_abv_eq {n r : Nat} {I : fr_I} (hw : fr_wf n I) (hr : r < n) (h : ¬ I 7 r 0 = -1) : I 7 r 0 = nI (I 7 r 0).toNatClampNeg := by
  rcases hw.2.2.2.2.1 r hr with ⟨_, h1⟩ | ⟨a, ha, h1⟩
  · exact absurd h1 h
  · have := hw.1
    rw [h1, nI_clamp (by omega)]
theorem fw_abv_lt {n r : Nat} {I : fr_I} (hw : fr_wf n I) (hr : r < n) (h : ¬ I 7 r 0 = -1) : (I 7 r 0).toNatClampNeg < r := by
  rcases hw.2.2.2.2.1 r hr with ⟨_, h1⟩ | ⟨a, ha, h1⟩
  · exact absurd h1 h
  · have := hw.1
    rw [h1, nI_clamp (by omega)]
    exact ha
theorem fw_abv_n {n r : Nat} {I : fr_I} (hw : fr_wf n I) (hr : r < n) (h : 0 < r) : ¬ I 7 r 0 = -1 := by
  rcases hw.2.2.2.2.1 r hr with ⟨h0, _⟩ | ⟨a, ha, h1⟩
  · omega
  · have h8 := hw.1
    rw [h1]
    intro h2
    have h3 : nI a < 0 := by rw [h2]; decide
    exact nI_pos (by omega) h3
section FRind2
variable {X : fr_X} {E : fr_E} {own nm : String} {cc : ByteArray} {nL : Nat} {ret : Option FieldType} {R : Room} {Q : State → Prop} {cs sl : Nat} {Z : fr_Z} {pc : Nat} {L : List (Nat × Value)} {st : List Value} {I : fr_I} {J : fr_J}
theorem fr_ind2 {α : Type} (LL : Nat → α → List (Nat × Value)) (S : α → fr_I × fr_J) (inv : Nat → α → Prop) (e : Nat) (a0 : α) (h0 : L = LL e a0) (hI : I = (S a0).1) (hJ : J = (S a0).2) (hi0 : inv e a0) (hz : ∀ a, inv 0 a → fr_Ev X E own nm cc nL ret R Q cs sl Z pc (LL 0 a) st (S a).1 (S a).2)
    (hs : ∀ K a, K < e → inv (K + 1) a → (∀ a', inv K a' → fr_Ev X E own nm cc nL ret R Q cs sl Z pc (LL K a') st (S a').1 (S a').2) → fr_Ev X E own nm cc nL ret R Q cs sl Z pc (LL (K + 1) a) st (S a).1 (S a).2) : fr_Ev X E own nm cc nL ret R Q cs sl Z pc L st I J := by
  subst h0 hI hJ
  have key : ∀ K, K ≤ e → ∀ a, inv K a → fr_Ev X E own nm cc nL ret R Q cs sl Z pc (LL K a) st (S a).1 (S a).2 := by
    intro K
    induction K with
    | zero => intro _ a ha; exact hz a ha
    | succ K ih => intro hK a ha; exact hs K a (by omega) ha (ih (by omega))
  exact key e (Nat.le_refl _) a0 hi0
end FRind2
/-- the flows of what is below are added, from relay K down to 1 -/
def fr_f2s (I : fr_I) (q : Nat) : fr_I := fr_ui I 2 0 (I 7 q 0).toNatClampNeg ((I 2 0 (I 7 q 0).toNatClampNeg) + (I 2 0 q))
def fr_f2 : Nat → fr_I → fr_I
  | 0, I => I
  | K + 1, I => fr_f2 K (fr_f2s I (K + 1))
theorem fw_f2s {n q : Nat} {I : fr_I} (hw : fr_wf n I) : fr_wf n (fr_f2s I q) := fw_ui (k := 2) rfl hw
theorem fw_f2 {n : Nat} : ∀ {K : Nat} {I : fr_I}, fr_wf n I → fr_wf n (fr_f2 K I) := by
  intro K
  induction K with
  | zero => intro I hw; exact hw
  | succ K ih => intro I hw; exact ih (fw_f2s hw)
end
section
def f_M_set (I : fr_I) (r : Nat) (p1 : Int32) (p2 : Int32) (p3 : Int32) : fr_I :=
  (fr_ui (fr_ui (fr_ui I 8 r 2 p1) 8 r 3 p2) 8 r 4 p3)
set_option maxRecDepth 10000 in
theorem ct_M_set (X : fr_X) (n : Nat) (r : Nat) (hr : r < n) (I : fr_I) (J : fr_J) (p1 : Int32) (p2 : Int32) (p3 : Int32) : fr_Ct X y_M_set c_M_set 4 none (fr_rm 0) [.ref (fr_ad X 8 r), .int p1, .int p2, .int p3] (fr_Z0 X n) (fr_Z0 X n) I J (fr_pv (fun I' J' => (f_M_set I r p1 p2 p3) = I' ∧ J = J')) := by
  refine fr_ct (by decide) rfl rfl (Nat.le_of_ble_eq_true rfl) rfl (fun E => ?_)
  refine fr_aload_n d_M_set_0 rfl ?_
  refine fr_iload_n d_M_set_1 rfl ?_
  refine fr_puti d_M_set_2 fl_M_20 rfl rfl (Or.inl ⟨rfl, hr⟩) ?_
  refine fr_aload_n d_M_set_5 rfl ?_
  refine fr_iload_n d_M_set_6 rfl ?_
  refine fr_puti d_M_set_7 fl_M_13 rfl rfl (Or.inl ⟨rfl, hr⟩) ?_
  refine fr_aload_n d_M_set_10 rfl ?_
  refine fr_iload_n d_M_set_11 rfl ?_
  refine fr_puti d_M_set_12 fl_M_17 rfl rfl (Or.inl ⟨rfl, hr⟩) ?_
  exact fr_vret d_M_set_15 rfl (Nat.zero_le _) (Nat.zero_le _) ⟨rfl, rfl⟩
theorem fw_M_set {n : Nat} {I : fr_I} {r : Nat} {p1 : Int32} {p2 : Int32} {p3 : Int32} (hw : fr_wf n I) : fr_wf n (f_M_set I r p1 p2 p3) := by
  unfold f_M_set
  exact (fw_ui (k := 8) (j := 4) rfl (fw_ui (k := 8) (j := 3) rfl (fw_ui (k := 8) (j := 2) rfl hw)))
def f_M_growth (I : fr_I) (r : Nat) : Int64 :=
  if (I 8 r 2) = 0 then
    1
  else
    if (I 8 r 2) = 1 then
      (((I 8 r 5) - (I 8 r 3))).toInt64
    else
      ((((I 8 r 5)).toInt64 * ((I 8 r 5)).toInt64) - (((I 8 r 3)).toInt64 * ((I 8 r 3)).toInt64))
set_option maxRecDepth 10000 in
theorem ct_M_growth (X : fr_X) (n : Nat) (r : Nat) (hr : r < n) (I : fr_I) (J : fr_J) : fr_Ct X y_M_growth c_M_growth 1 (some .long) (fr_rm 0) [.ref (fr_ad X 8 r)] (fr_Z0 X n) (fr_Z0 X n) I J (fr_pl (fun x I' J' => (f_M_growth I r) = x ∧ I = I' ∧ J = J')) := by
  refine fr_ct (by decide) rfl rfl (Nat.le_of_ble_eq_true rfl) rfl (fun E => ?_)
  refine fr_aload_n d_M_growth_0 rfl ?_
  refine fr_geti d_M_growth_1 fl_M_20 rfl rfl (Or.inl ⟨rfl, hr⟩) ?_
  refine fr_if_ne 9 d_M_growth_4 rfl (fun h1 => ?_) (fun h1 => ?_)
  · skip
    refine fr_aload_n d_M_growth_9 rfl ?_
    refine fr_geti d_M_growth_10 fl_M_20 rfl rfl (Or.inl ⟨rfl, hr⟩) ?_
    refine fr_iconst d_M_growth_13 fr_i1 ?_
    refine fr_icmp_ne 28 d_M_growth_14 rfl (fun h2 => ?_) (fun h2 => ?_)
    · skip
      refine fr_aload_n d_M_growth_28 rfl ?_
      refine fr_geti d_M_growth_29 fl_M_30 rfl rfl (Or.inl ⟨rfl, hr⟩) ?_
      refine fr_i2l d_M_growth_32 rfl ?_
      refine fr_aload_n d_M_growth_33 rfl ?_
      refine fr_geti d_M_growth_34 fl_M_30 rfl rfl (Or.inl ⟨rfl, hr⟩) ?_
      refine fr_i2l d_M_growth_37 rfl ?_
      refine fr_lmul d_M_growth_38 ?_
      refine fr_aload_n d_M_growth_39 rfl ?_
      refine fr_geti d_M_growth_40 fl_M_13 rfl rfl (Or.inl ⟨rfl, hr⟩) ?_
      refine fr_i2l d_M_growth_43 rfl ?_
      refine fr_aload_n d_M_growth_44 rfl ?_
      refine fr_geti d_M_growth_45 fl_M_13 rfl rfl (Or.inl ⟨rfl, hr⟩) ?_
      refine fr_i2l d_M_growth_48 rfl ?_
      refine fr_lmul d_M_growth_49 ?_
      refine fr_lsub d_M_growth_50 ?_
      exact fr_lret d_M_growth_51 rfl (Nat.zero_le _) (Nat.zero_le _) ⟨(by unfold f_M_growth; rw [if_neg h1, if_neg h2]), rfl, rfl⟩
    · skip
      refine fr_aload_n d_M_growth_17 rfl ?_
      refine fr_geti d_M_growth_18 fl_M_30 rfl rfl (Or.inl ⟨rfl, hr⟩) ?_
      refine fr_aload_n d_M_growth_21 rfl ?_
      refine fr_geti d_M_growth_22 fl_M_13 rfl rfl (Or.inl ⟨rfl, hr⟩) ?_
      refine fr_isub d_M_growth_25 ?_
      refine fr_i2l d_M_growth_26 rfl ?_
      exact fr_lret d_M_growth_27 rfl (Nat.zero_le _) (Nat.zero_le _) ⟨(by unfold f_M_growth; rw [if_neg h1, if_pos h2]), rfl, rfl⟩
  · skip
    refine fr_lconst d_M_growth_7 fr_l1 ?_
    exact fr_lret d_M_growth_8 rfl (Nat.zero_le _) (Nat.zero_le _) ⟨(by unfold f_M_growth; rw [if_pos h1]), rfl, rfl⟩
def f_M_limit (I : fr_I) (r : Nat) : Int64 :=
  if (I 8 r 2) = 0 then
    ((I 8 r 4)).toInt64
  else
    if (I 8 r 2) = 1 then
      (((I 8 r 4)).toInt64 * ((I 8 r 3)).toInt64)
    else
      ((((I 8 r 4)).toInt64 * ((I 8 r 3)).toInt64) * ((I 8 r 3)).toInt64)
set_option maxRecDepth 10000 in
theorem ct_M_limit (X : fr_X) (n : Nat) (r : Nat) (hr : r < n) (I : fr_I) (J : fr_J) : fr_Ct X y_M_limit c_M_limit 1 (some .long) (fr_rm 0) [.ref (fr_ad X 8 r)] (fr_Z0 X n) (fr_Z0 X n) I J (fr_pl (fun x I' J' => (f_M_limit I r) = x ∧ I = I' ∧ J = J')) := by
  refine fr_ct (by decide) rfl rfl (Nat.le_of_ble_eq_true rfl) rfl (fun E => ?_)
  refine fr_aload_n d_M_limit_0 rfl ?_
  refine fr_geti d_M_limit_1 fl_M_20 rfl rfl (Or.inl ⟨rfl, hr⟩) ?_
  refine fr_if_ne 13 d_M_limit_4 rfl (fun h1 => ?_) (fun h1 => ?_)
  · skip
    refine fr_aload_n d_M_limit_13 rfl ?_
    refine fr_geti d_M_limit_14 fl_M_20 rfl rfl (Or.inl ⟨rfl, hr⟩) ?_
    refine fr_iconst d_M_limit_17 fr_i1 ?_
    refine fr_icmp_ne 33 d_M_limit_18 rfl (fun h2 => ?_) (fun h2 => ?_)
    · skip
      refine fr_aload_n d_M_limit_33 rfl ?_
      refine fr_geti d_M_limit_34 fl_M_17 rfl rfl (Or.inl ⟨rfl, hr⟩) ?_
      refine fr_i2l d_M_limit_37 rfl ?_
      refine fr_aload_n d_M_limit_38 rfl ?_
      refine fr_geti d_M_limit_39 fl_M_13 rfl rfl (Or.inl ⟨rfl, hr⟩) ?_
      refine fr_i2l d_M_limit_42 rfl ?_
      refine fr_lmul d_M_limit_43 ?_
      refine fr_aload_n d_M_limit_44 rfl ?_
      refine fr_geti d_M_limit_45 fl_M_13 rfl rfl (Or.inl ⟨rfl, hr⟩) ?_
      refine fr_i2l d_M_limit_48 rfl ?_
      refine fr_lmul d_M_limit_49 ?_
      exact fr_lret d_M_limit_50 rfl (Nat.zero_le _) (Nat.zero_le _) ⟨(by unfold f_M_limit; rw [if_neg h1, if_neg h2]), rfl, rfl⟩
    · skip
      refine fr_aload_n d_M_limit_21 rfl ?_
      refine fr_geti d_M_limit_22 fl_M_17 rfl rfl (Or.inl ⟨rfl, hr⟩) ?_
      refine fr_i2l d_M_limit_25 rfl ?_
      refine fr_aload_n d_M_limit_26 rfl ?_
      refine fr_geti d_M_limit_27 fl_M_13 rfl rfl (Or.inl ⟨rfl, hr⟩) ?_
      refine fr_i2l d_M_limit_30 rfl ?_
      refine fr_lmul d_M_limit_31 ?_
      exact fr_lret d_M_limit_32 rfl (Nat.zero_le _) (Nat.zero_le _) ⟨(by unfold f_M_limit; rw [if_neg h1, if_pos h2]), rfl, rfl⟩
  · skip
    refine fr_aload_n d_M_limit_7 rfl ?_
    refine fr_geti d_M_limit_8 fl_M_17 rfl rfl (Or.inl ⟨rfl, hr⟩) ?_
    refine fr_i2l d_M_limit_11 rfl ?_
    exact fr_lret d_M_limit_12 rfl (Nat.zero_le _) (Nat.zero_le _) ⟨(by unfold f_M_limit; rw [if_pos h1]), rfl, rfl⟩
def f_M_isOverLimit (I : fr_I) (J : fr_J) (r : Nat) : Int32 :=
  if (I 8 r 6) = 0 then
    0
  else
    if (lg_cmp (J 8 r 7) (f_M_limit I r)) < 0 then
      0
    else
      1
set_option maxRecDepth 10000 in
theorem ct_M_isOverLimit (X : fr_X) (n : Nat) (r : Nat) (hr : r < n) (I : fr_I) (J : fr_J) : fr_Ct X y_M_isOverLimit c_M_isOverLimit 1 (some .boolean) (fr_rm 1) [.ref (fr_ad X 8 r)] (fr_Z0 X n) (fr_Z0 X n) I J (fr_pi (fun x I' J' => (f_M_isOverLimit I J r) = x ∧ I = I' ∧ J = J')) := by
  refine fr_ct (by decide) rfl rfl (Nat.le_of_ble_eq_true rfl) rfl (fun E => ?_)
  refine fr_aload_n d_M_isOverLimit_0 rfl ?_
  refine fr_geti d_M_isOverLimit_1 fl_M_33 rfl rfl (Or.inl ⟨rfl, hr⟩) ?_
  refine fr_if_eq 23 d_M_isOverLimit_4 rfl (fun h1 => ?_) (fun h1 => ?_)
  · skip
    refine fr_iconst d_M_isOverLimit_23 fr_i0 ?_
    exact fr_iret d_M_isOverLimit_24 rfl (fr_nar_b (Or.inl rfl)) (Nat.zero_le _) (Nat.zero_le _) ⟨(by unfold f_M_isOverLimit; rw [if_pos h1]), rfl, rfl⟩
  · skip
    refine fr_aload_n d_M_isOverLimit_7 rfl ?_
    refine fr_getl d_M_isOverLimit_8 fl_M_37 rfl rfl (Or.inl ⟨rfl, hr⟩) ?_
    refine fr_aload_n d_M_isOverLimit_11 rfl ?_
    refine fr_callVl fr_q3 d_M_isOverLimit_12 (ct_M_limit X n r hr _ _) mv_M_45 rfl rfl rfl (Or.inl ⟨rfl, hr⟩) rfl rfl ⟨Nat.le_of_ble_eq_true rfl, Nat.le_of_ble_eq_true rfl⟩ ⟨rfl, rfl⟩ ⟨Nat.zero_le _, Nat.zero_le _⟩ (Nat.le_of_ble_eq_true rfl) (fun x I' J' hp2 => ?_)
    obtain ⟨rfl, rfl, rfl⟩ := hp2
    refine fr_lcmp d_M_isOverLimit_15 ?_
    refine fr_if_lt 23 d_M_isOverLimit_16 rfl (fun h3 => ?_) (fun h3 => ?_)
    · skip
      refine fr_iconst d_M_isOverLimit_23 fr_i0 ?_
      exact fr_iret d_M_isOverLimit_24 rfl (fr_nar_b (Or.inl rfl)) (Nat.zero_le _) (Nat.zero_le _) ⟨(by unfold f_M_isOverLimit; rw [if_neg h1, if_pos h3]), rfl, rfl⟩
    · skip
      refine fr_iconst d_M_isOverLimit_19 fr_i1 ?_
      refine fr_goto 24 d_M_isOverLimit_20 rfl ?_
      exact fr_iret d_M_isOverLimit_24 rfl (fr_nar_b (Or.inr rfl)) (Nat.zero_le _) (Nat.zero_le _) ⟨(by unfold f_M_isOverLimit; rw [if_neg h1, if_neg h3]), rfl, rfl⟩
def f_M_forget (I : fr_I) (J : fr_J) (r : Nat) : fr_I × fr_J :=
  ((fr_ui (fr_ui (f_A_fill_9 I r 0) 8 r 5 0) 8 r 6 0), (fr_uj J 8 r 7 0))
set_option maxRecDepth 10000 in
theorem ct_M_forget (X : fr_X) (n : Nat) (r : Nat) (hr : r < n) (I : fr_I) (J : fr_J) : fr_Ct X y_M_forget c_M_forget 1 none (fr_rm 1) [.ref (fr_ad X 8 r)] (fr_Z0 X n) (fr_Z0 X n) I J (fr_pv (fun I' J' => (f_M_forget I J r).1 = I' ∧ (f_M_forget I J r).2 = J')) := by
  refine fr_ct (by decide) rfl rfl (Nat.le_of_ble_eq_true rfl) rfl (fun E => ?_)
  refine fr_aload_n d_M_forget_0 rfl ?_
  refine fr_getr (k' := 9) (r' := r) d_M_forget_1 fl_M_9 rfl rfl rfl (Or.inl ⟨rfl, hr⟩) ?_
  refine fr_iconst d_M_forget_4 fr_i0 ?_
  refine fr_callSv d_M_forget_5 (ct_A_fill_9 X n r hr _ _ _) ms_M_48 rfl rfl ⟨Nat.le_of_ble_eq_true rfl, Nat.le_of_ble_eq_true rfl⟩ ⟨rfl, rfl⟩ ⟨Nat.zero_le _, Nat.zero_le _⟩ (Nat.le_of_ble_eq_true rfl) (fun I' J' hp1 => ?_)
  obtain ⟨rfl, rfl⟩ := hp1
  refine fr_aload_n d_M_forget_8 rfl ?_
  refine fr_iconst d_M_forget_9 fr_i0 ?_
  refine fr_puti d_M_forget_10 fl_M_30 rfl rfl (Or.inl ⟨rfl, hr⟩) ?_
  refine fr_aload_n d_M_forget_13 rfl ?_
  refine fr_iconst d_M_forget_14 fr_i0 ?_
  refine fr_putz d_M_forget_15 fl_M_33 rfl rfl (Or.inl rfl) (Or.inl ⟨rfl, hr⟩) ?_
  refine fr_aload_n d_M_forget_18 rfl ?_
  refine fr_lconst d_M_forget_19 fr_l0 ?_
  refine fr_putl d_M_forget_20 fl_M_37 rfl rfl (Or.inl ⟨rfl, hr⟩) ?_
  exact fr_vret d_M_forget_23 rfl (Nat.zero_le _) (Nat.zero_le _) (fr_tIJ (rfl))
theorem fw_M_forget {n : Nat} {I : fr_I} {J : fr_J} {r : Nat} (hw : fr_wf n I) : fr_wf n (f_M_forget I J r).1 := by
  unfold f_M_forget
  exact (fw_ui (k := 8) (j := 6) rfl (fw_ui (k := 8) (j := 5) rfl (fw_A_fill_9 hw)))
def f_M_rootOfMeanSquare (I : fr_I) (r : Nat) : Int32 :=
  (fr_rb (((((0 + (((I 9 r 0)).toInt64 * ((I 9 r 0)).toInt64)) + (((I 9 r 1)).toInt64 * ((I 9 r 1)).toInt64)) + (((I 9 r 2)).toInt64 * ((I 9 r 2)).toInt64)) + (((I 9 r 3)).toInt64 * ((I 9 r 3)).toInt64)) / 4) 18 0)
set_option maxRecDepth 10000 in
theorem ct_M_rootOfMeanSquare (X : fr_X) (n : Nat) (r : Nat) (hr : r < n) (I : fr_I) (J : fr_J) : fr_Ct X y_M_rootOfMeanSquare c_M_rootOfMeanSquare 9 (some .int) (fr_rm 0) [.ref (fr_ad X 8 r)] (fr_Z0 X n) (fr_Z0 X n) I J (fr_pi (fun x I' J' => (f_M_rootOfMeanSquare I r) = x ∧ I = I' ∧ J = J')) := by
  refine fr_ct (by decide) rfl rfl (Nat.le_of_ble_eq_true rfl) rfl (fun E => ?_)
  refine fr_lconst d_M_rootOfMeanSquare_0 fr_l0 ?_
  refine fr_lstore_n (L' := [(1, .long _), (0, .ref _)]) d_M_rootOfMeanSquare_1 (by decide) rfl ?_
  refine fr_iconst d_M_rootOfMeanSquare_2 fr_i0 ?_
  refine fr_istore_n (L' := [(3, .int _), (1, .long _), (0, .ref _)]) d_M_rootOfMeanSquare_3 (by decide) rfl ?_
  refine fr_iload_n d_M_rootOfMeanSquare_4 rfl ?_
  refine fr_iconst d_M_rootOfMeanSquare_5 fr_i4 ?_
  refine fr_icmp_ge 33 d_M_rootOfMeanSquare_6 rfl (fun h => absurd h (by decide)) (fun _ => ?_)
  refine fr_lload_n d_M_rootOfMeanSquare_9 rfl ?_
  refine fr_aload_n d_M_rootOfMeanSquare_10 rfl ?_
  refine fr_getr (k' := 9) (r' := r) d_M_rootOfMeanSquare_11 fl_M_9 rfl rfl rfl (Or.inl ⟨rfl, hr⟩) ?_
  refine fr_iload_n d_M_rootOfMeanSquare_14 rfl ?_
  refine fr_iald (0) d_M_rootOfMeanSquare_15 rfl rfl (Or.inl ⟨rfl, hr⟩) rfl (by decide) (by decide) ?_
  refine fr_i2l d_M_rootOfMeanSquare_16 rfl ?_
  refine fr_aload_n d_M_rootOfMeanSquare_17 rfl ?_
  refine fr_getr (k' := 9) (r' := r) d_M_rootOfMeanSquare_18 fl_M_9 rfl rfl rfl (Or.inl ⟨rfl, hr⟩) ?_
  refine fr_iload_n d_M_rootOfMeanSquare_21 rfl ?_
  refine fr_iald (0) d_M_rootOfMeanSquare_22 rfl rfl (Or.inl ⟨rfl, hr⟩) rfl (by decide) (by decide) ?_
  refine fr_i2l d_M_rootOfMeanSquare_23 rfl ?_
  refine fr_lmul d_M_rootOfMeanSquare_24 ?_
  refine fr_ladd d_M_rootOfMeanSquare_25 ?_
  refine fr_lstore_n (L' := [(1, .long _), (3, .int _), (0, .ref _)]) d_M_rootOfMeanSquare_26 (by decide) rfl ?_
  refine fr_iinc (v := 1) (L' := [(3, .int _), (1, .long _), (0, .ref _)]) d_M_rootOfMeanSquare_27 rfl (by decide) (by decide) rfl ?_
  refine fr_goto 4 d_M_rootOfMeanSquare_30 rfl ?_
  refine fr_iload_n d_M_rootOfMeanSquare_4 rfl ?_
  refine fr_iconst d_M_rootOfMeanSquare_5 fr_i4 ?_
  refine fr_icmp_ge 33 d_M_rootOfMeanSquare_6 rfl (fun h => absurd h (by decide)) (fun _ => ?_)
  refine fr_lload_n d_M_rootOfMeanSquare_9 rfl ?_
  refine fr_aload_n d_M_rootOfMeanSquare_10 rfl ?_
  refine fr_getr (k' := 9) (r' := r) d_M_rootOfMeanSquare_11 fl_M_9 rfl rfl rfl (Or.inl ⟨rfl, hr⟩) ?_
  refine fr_iload_n d_M_rootOfMeanSquare_14 rfl ?_
  refine fr_iald (1) d_M_rootOfMeanSquare_15 rfl rfl (Or.inl ⟨rfl, hr⟩) rfl (by decide) (by decide) ?_
  refine fr_i2l d_M_rootOfMeanSquare_16 rfl ?_
  refine fr_aload_n d_M_rootOfMeanSquare_17 rfl ?_
  refine fr_getr (k' := 9) (r' := r) d_M_rootOfMeanSquare_18 fl_M_9 rfl rfl rfl (Or.inl ⟨rfl, hr⟩) ?_
  refine fr_iload_n d_M_rootOfMeanSquare_21 rfl ?_
  refine fr_iald (1) d_M_rootOfMeanSquare_22 rfl rfl (Or.inl ⟨rfl, hr⟩) rfl (by decide) (by decide) ?_
  refine fr_i2l d_M_rootOfMeanSquare_23 rfl ?_
  refine fr_lmul d_M_rootOfMeanSquare_24 ?_
  refine fr_ladd d_M_rootOfMeanSquare_25 ?_
  refine fr_lstore_n (L' := [(1, .long _), (3, .int _), (0, .ref _)]) d_M_rootOfMeanSquare_26 (by decide) rfl ?_
  refine fr_iinc (v := 2) (L' := [(3, .int _), (1, .long _), (0, .ref _)]) d_M_rootOfMeanSquare_27 rfl (by decide) (by decide) rfl ?_
  refine fr_goto 4 d_M_rootOfMeanSquare_30 rfl ?_
  refine fr_iload_n d_M_rootOfMeanSquare_4 rfl ?_
  refine fr_iconst d_M_rootOfMeanSquare_5 fr_i4 ?_
  refine fr_icmp_ge 33 d_M_rootOfMeanSquare_6 rfl (fun h => absurd h (by decide)) (fun _ => ?_)
  refine fr_lload_n d_M_rootOfMeanSquare_9 rfl ?_
  refine fr_aload_n d_M_rootOfMeanSquare_10 rfl ?_
  refine fr_getr (k' := 9) (r' := r) d_M_rootOfMeanSquare_11 fl_M_9 rfl rfl rfl (Or.inl ⟨rfl, hr⟩) ?_
  refine fr_iload_n d_M_rootOfMeanSquare_14 rfl ?_
  refine fr_iald (2) d_M_rootOfMeanSquare_15 rfl rfl (Or.inl ⟨rfl, hr⟩) rfl (by decide) (by decide) ?_
  refine fr_i2l d_M_rootOfMeanSquare_16 rfl ?_
  refine fr_aload_n d_M_rootOfMeanSquare_17 rfl ?_
  refine fr_getr (k' := 9) (r' := r) d_M_rootOfMeanSquare_18 fl_M_9 rfl rfl rfl (Or.inl ⟨rfl, hr⟩) ?_
  refine fr_iload_n d_M_rootOfMeanSquare_21 rfl ?_
  refine fr_iald (2) d_M_rootOfMeanSquare_22 rfl rfl (Or.inl ⟨rfl, hr⟩) rfl (by decide) (by decide) ?_
  refine fr_i2l d_M_rootOfMeanSquare_23 rfl ?_
  refine fr_lmul d_M_rootOfMeanSquare_24 ?_
  refine fr_ladd d_M_rootOfMeanSquare_25 ?_
  refine fr_lstore_n (L' := [(1, .long _), (3, .int _), (0, .ref _)]) d_M_rootOfMeanSquare_26 (by decide) rfl ?_
  refine fr_iinc (v := 3) (L' := [(3, .int _), (1, .long _), (0, .ref _)]) d_M_rootOfMeanSquare_27 rfl (by decide) (by decide) rfl ?_
  refine fr_goto 4 d_M_rootOfMeanSquare_30 rfl ?_
  refine fr_iload_n d_M_rootOfMeanSquare_4 rfl ?_
  refine fr_iconst d_M_rootOfMeanSquare_5 fr_i4 ?_
  refine fr_icmp_ge 33 d_M_rootOfMeanSquare_6 rfl (fun h => absurd h (by decide)) (fun _ => ?_)
  refine fr_lload_n d_M_rootOfMeanSquare_9 rfl ?_
  refine fr_aload_n d_M_rootOfMeanSquare_10 rfl ?_
  refine fr_getr (k' := 9) (r' := r) d_M_rootOfMeanSquare_11 fl_M_9 rfl rfl rfl (Or.inl ⟨rfl, hr⟩) ?_
  refine fr_iload_n d_M_rootOfMeanSquare_14 rfl ?_
  refine fr_iald (3) d_M_rootOfMeanSquare_15 rfl rfl (Or.inl ⟨rfl, hr⟩) rfl (by decide) (by decide) ?_
  refine fr_i2l d_M_rootOfMeanSquare_16 rfl ?_
  refine fr_aload_n d_M_rootOfMeanSquare_17 rfl ?_
  refine fr_getr (k' := 9) (r' := r) d_M_rootOfMeanSquare_18 fl_M_9 rfl rfl rfl (Or.inl ⟨rfl, hr⟩) ?_
  refine fr_iload_n d_M_rootOfMeanSquare_21 rfl ?_
  refine fr_iald (3) d_M_rootOfMeanSquare_22 rfl rfl (Or.inl ⟨rfl, hr⟩) rfl (by decide) (by decide) ?_
  refine fr_i2l d_M_rootOfMeanSquare_23 rfl ?_
  refine fr_lmul d_M_rootOfMeanSquare_24 ?_
  refine fr_ladd d_M_rootOfMeanSquare_25 ?_
  refine fr_lstore_n (L' := [(1, .long _), (3, .int _), (0, .ref _)]) d_M_rootOfMeanSquare_26 (by decide) rfl ?_
  refine fr_iinc (v := 4) (L' := [(3, .int _), (1, .long _), (0, .ref _)]) d_M_rootOfMeanSquare_27 rfl (by decide) (by decide) rfl ?_
  refine fr_goto 4 d_M_rootOfMeanSquare_30 rfl ?_
  refine fr_iload_n d_M_rootOfMeanSquare_4 rfl ?_
  refine fr_iconst d_M_rootOfMeanSquare_5 fr_i4 ?_
  refine fr_icmp_ge 33 d_M_rootOfMeanSquare_6 rfl (fun _ => ?_) (fun h => absurd h (by decide))
  refine fr_lload_n d_M_rootOfMeanSquare_33 rfl ?_
  refine fr_ldc2 lc_M_54 d_M_rootOfMeanSquare_34 ?_
  refine fr_ldiv d_M_rootOfMeanSquare_37 (by decide) ?_
  refine fr_lstore_n (L' := [(3, .long _), (1, .long _), (0, .ref _)]) d_M_rootOfMeanSquare_38 (by decide) rfl ?_
  refine fr_iconst d_M_rootOfMeanSquare_39 fr_i0 ?_
  refine fr_istore (L' := [(5, .int _), (3, .long _), (1, .long _), (0, .ref _)]) d_M_rootOfMeanSquare_40 (by decide) rfl ?_
  refine fr_ldc lc_M_56 d_M_rootOfMeanSquare_42 ?_
  refine fr_istore (L' := [(6, .int _), (5, .int _), (3, .long _), (1, .long _), (0, .ref _)]) d_M_rootOfMeanSquare_44 (by decide) rfl ?_
  refine fr_pick (L' := [(6, .int _), (5, .int _), (3, .long _)]) [0, 1, 2] rfl ?_
  refine fr_ind (fun K (a : Int32) => [(6, .int (fr_bt K)), (5, .int a), (3, .long (((((0 + (((I 9 r 0)).toInt64 * ((I 9 r 0)).toInt64)) + (((I 9 r 1)).toInt64 * ((I 9 r 1)).toInt64)) + (((I 9 r 2)).toInt64 * ((I 9 r 2)).toInt64)) + (((I 9 r 3)).toInt64 * ((I 9 r 3)).toInt64)) / 4))]) (fun K a => fr_rb (((((0 + (((I 9 r 0)).toInt64 * ((I 9 r 0)).toInt64)) + (((I 9 r 1)).toInt64 * ((I 9 r 1)).toInt64)) + (((I 9 r 2)).toInt64 * ((I 9 r 2)).toInt64)) + (((I 9 r 3)).toInt64 * ((I 9 r 3)).toInt64)) / 4) K a = fr_rb (((((0 + (((I 9 r 0)).toInt64 * ((I 9 r 0)).toInt64)) + (((I 9 r 1)).toInt64 * ((I 9 r 1)).toInt64)) + (((I 9 r 2)).toInt64 * ((I 9 r 2)).toInt64)) + (((I 9 r 3)).toInt64 * ((I 9 r 3)).toInt64)) / 4) 18 0) 18 0 rfl rfl (fun a ha => ?_) (fun K a hK ha ih => ?_)
  · skip
    refine fr_iload d_M_rootOfMeanSquare_46 rfl ?_
    refine fr_if_le 85 d_M_rootOfMeanSquare_48 rfl (fun _ => ?_) (fun h => absurd (by decide) h)
    refine fr_iload d_M_rootOfMeanSquare_85 rfl ?_
    exact fr_iret d_M_rootOfMeanSquare_87 rfl (fr_nar_i _) (Nat.zero_le _) (Nat.zero_le _) ⟨ha.symm, rfl, rfl⟩
  · skip
    refine fr_iload d_M_rootOfMeanSquare_46 rfl ?_
    refine fr_if_le 85 d_M_rootOfMeanSquare_48 rfl (fun h => absurd h (fr_bt_pos hK)) (fun _ => ?_)
    refine fr_iload d_M_rootOfMeanSquare_51 rfl ?_
    refine fr_iload d_M_rootOfMeanSquare_53 rfl ?_
    refine fr_iadd d_M_rootOfMeanSquare_55 ?_
    refine fr_i2l d_M_rootOfMeanSquare_56 rfl ?_
    refine fr_lstore (L' := [(7, .long _), (6, .int _), (5, .int _), (3, .long _)]) d_M_rootOfMeanSquare_57 (by decide) rfl ?_
    refine fr_lload d_M_rootOfMeanSquare_59 rfl ?_
    refine fr_lload d_M_rootOfMeanSquare_61 rfl ?_
    refine fr_lmul d_M_rootOfMeanSquare_63 ?_
    refine fr_lload_n d_M_rootOfMeanSquare_64 rfl ?_
    refine fr_lcmp d_M_rootOfMeanSquare_65 ?_
    refine fr_if_gt 76 d_M_rootOfMeanSquare_66 rfl (fun h1 => ?_) (fun h1 => ?_)
    · skip
      refine fr_iload d_M_rootOfMeanSquare_76 rfl ?_
      refine fr_iconst d_M_rootOfMeanSquare_78 fr_i1 ?_
      refine fr_ishr d_M_rootOfMeanSquare_79 ?_
      refine fr_istore (L' := [(6, .int _), (7, .long _), (5, .int _), (3, .long _)]) d_M_rootOfMeanSquare_80 (by decide) rfl ?_
      refine fr_goto 46 d_M_rootOfMeanSquare_82 rfl ?_
      refine fr_pick (L' := [(6, .int _), (5, .int _), (3, .long _)]) [0, 2, 3] rfl ?_
      rw [fr_bt_shr hK]
      exact ih _ ((fr_rb_gt h1).symm.trans ha)
    · skip
      refine fr_iload d_M_rootOfMeanSquare_69 rfl ?_
      refine fr_iload d_M_rootOfMeanSquare_71 rfl ?_
      refine fr_iadd d_M_rootOfMeanSquare_73 ?_
      refine fr_istore (L' := [(5, .int _), (7, .long _), (6, .int _), (3, .long _)]) d_M_rootOfMeanSquare_74 (by decide) rfl ?_
      refine fr_iload d_M_rootOfMeanSquare_76 rfl ?_
      refine fr_iconst d_M_rootOfMeanSquare_78 fr_i1 ?_
      refine fr_ishr d_M_rootOfMeanSquare_79 ?_
      refine fr_istore (L' := [(6, .int _), (5, .int _), (7, .long _), (3, .long _)]) d_M_rootOfMeanSquare_80 (by decide) rfl ?_
      refine fr_goto 46 d_M_rootOfMeanSquare_82 rfl ?_
      refine fr_pick (L' := [(6, .int _), (5, .int _), (3, .long _)]) [0, 1, 3] rfl ?_
      rw [fr_bt_shr hK]
      exact ih _ ((fr_rb_le h1).symm.trans ha)
end
section
def f_M_measure (I : fr_I) (J : fr_J) (r : Nat) (p1 : Int32) : fr_I × fr_J :=
  if ((fr_ui (fr_ui (fr_ui (fr_ui I 9 r ((I 8 r 1).toNatClampNeg) p1) 8 r 1 ((((fr_ui I 9 r ((I 8 r 1).toNatClampNeg) p1) 8 r 1) + 1) - (((fr_ui I 9 r ((I 8 r 1).toNatClampNeg) p1) 8 r 1) + 1) / 4 * 4)) 8 r 5 (f_M_rootOfMeanSquare ((fr_ui (fr_ui I 9 r ((I 8 r 1).toNatClampNeg) p1) 8 r 1 ((((fr_ui I 9 r ((I 8 r 1).toNatClampNeg) p1) 8 r 1) + 1) - (((fr_ui I 9 r ((I 8 r 1).toNatClampNeg) p1) 8 r 1) + 1) / 4 * 4))) r)) 8 r 6 (if ((fr_ui (fr_ui (fr_ui I 9 r ((I 8 r 1).toNatClampNeg) p1) 8 r 1 ((((fr_ui I 9 r ((I 8 r 1).toNatClampNeg) p1) 8 r 1) + 1) - (((fr_ui I 9 r ((I 8 r 1).toNatClampNeg) p1) 8 r 1) + 1) / 4 * 4)) 8 r 5 (f_M_rootOfMeanSquare ((fr_ui (fr_ui I 9 r ((I 8 r 1).toNatClampNeg) p1) 8 r 1 ((((fr_ui I 9 r ((I 8 r 1).toNatClampNeg) p1) 8 r 1) + 1) - (((fr_ui I 9 r ((I 8 r 1).toNatClampNeg) p1) 8 r 1) + 1) / 4 * 4))) r)) 8 r 5) ≤ ((fr_ui (fr_ui (fr_ui I 9 r ((I 8 r 1).toNatClampNeg) p1) 8 r 1 ((((fr_ui I 9 r ((I 8 r 1).toNatClampNeg) p1) 8 r 1) + 1) - (((fr_ui I 9 r ((I 8 r 1).toNatClampNeg) p1) 8 r 1) + 1) / 4 * 4)) 8 r 5 (f_M_rootOfMeanSquare ((fr_ui (fr_ui I 9 r ((I 8 r 1).toNatClampNeg) p1) 8 r 1 ((((fr_ui I 9 r ((I 8 r 1).toNatClampNeg) p1) 8 r 1) + 1) - (((fr_ui I 9 r ((I 8 r 1).toNatClampNeg) p1) 8 r 1) + 1) / 4 * 4))) r)) 8 r 3) then (0 : Int32) else 1)) 8 r 6) = 0 then
    ((fr_ui (fr_ui (fr_ui (fr_ui I 9 r ((I 8 r 1).toNatClampNeg) p1) 8 r 1 ((((fr_ui I 9 r ((I 8 r 1).toNatClampNeg) p1) 8 r 1) + 1) - (((fr_ui I 9 r ((I 8 r 1).toNatClampNeg) p1) 8 r 1) + 1) / 4 * 4)) 8 r 5 (f_M_rootOfMeanSquare ((fr_ui (fr_ui I 9 r ((I 8 r 1).toNatClampNeg) p1) 8 r 1 ((((fr_ui I 9 r ((I 8 r 1).toNatClampNeg) p1) 8 r 1) + 1) - (((fr_ui I 9 r ((I 8 r 1).toNatClampNeg) p1) 8 r 1) + 1) / 4 * 4))) r)) 8 r 6 (if ((fr_ui (fr_ui (fr_ui I 9 r ((I 8 r 1).toNatClampNeg) p1) 8 r 1 ((((fr_ui I 9 r ((I 8 r 1).toNatClampNeg) p1) 8 r 1) + 1) - (((fr_ui I 9 r ((I 8 r 1).toNatClampNeg) p1) 8 r 1) + 1) / 4 * 4)) 8 r 5 (f_M_rootOfMeanSquare ((fr_ui (fr_ui I 9 r ((I 8 r 1).toNatClampNeg) p1) 8 r 1 ((((fr_ui I 9 r ((I 8 r 1).toNatClampNeg) p1) 8 r 1) + 1) - (((fr_ui I 9 r ((I 8 r 1).toNatClampNeg) p1) 8 r 1) + 1) / 4 * 4))) r)) 8 r 5) ≤ ((fr_ui (fr_ui (fr_ui I 9 r ((I 8 r 1).toNatClampNeg) p1) 8 r 1 ((((fr_ui I 9 r ((I 8 r 1).toNatClampNeg) p1) 8 r 1) + 1) - (((fr_ui I 9 r ((I 8 r 1).toNatClampNeg) p1) 8 r 1) + 1) / 4 * 4)) 8 r 5 (f_M_rootOfMeanSquare ((fr_ui (fr_ui I 9 r ((I 8 r 1).toNatClampNeg) p1) 8 r 1 ((((fr_ui I 9 r ((I 8 r 1).toNatClampNeg) p1) 8 r 1) + 1) - (((fr_ui I 9 r ((I 8 r 1).toNatClampNeg) p1) 8 r 1) + 1) / 4 * 4))) r)) 8 r 3) then (0 : Int32) else 1)), (fr_uj J 8 r 7 0))
  else
    ((fr_ui (fr_ui (fr_ui (fr_ui I 9 r ((I 8 r 1).toNatClampNeg) p1) 8 r 1 ((((fr_ui I 9 r ((I 8 r 1).toNatClampNeg) p1) 8 r 1) + 1) - (((fr_ui I 9 r ((I 8 r 1).toNatClampNeg) p1) 8 r 1) + 1) / 4 * 4)) 8 r 5 (f_M_rootOfMeanSquare ((fr_ui (fr_ui I 9 r ((I 8 r 1).toNatClampNeg) p1) 8 r 1 ((((fr_ui I 9 r ((I 8 r 1).toNatClampNeg) p1) 8 r 1) + 1) - (((fr_ui I 9 r ((I 8 r 1).toNatClampNeg) p1) 8 r 1) + 1) / 4 * 4))) r)) 8 r 6 (if ((fr_ui (fr_ui (fr_ui I 9 r ((I 8 r 1).toNatClampNeg) p1) 8 r 1 ((((fr_ui I 9 r ((I 8 r 1).toNatClampNeg) p1) 8 r 1) + 1) - (((fr_ui I 9 r ((I 8 r 1).toNatClampNeg) p1) 8 r 1) + 1) / 4 * 4)) 8 r 5 (f_M_rootOfMeanSquare ((fr_ui (fr_ui I 9 r ((I 8 r 1).toNatClampNeg) p1) 8 r 1 ((((fr_ui I 9 r ((I 8 r 1).toNatClampNeg) p1) 8 r 1) + 1) - (((fr_ui I 9 r ((I 8 r 1).toNatClampNeg) p1) 8 r 1) + 1) / 4 * 4))) r)) 8 r 5) ≤ ((fr_ui (fr_ui (fr_ui I 9 r ((I 8 r 1).toNatClampNeg) p1) 8 r 1 ((((fr_ui I 9 r ((I 8 r 1).toNatClampNeg) p1) 8 r 1) + 1) - (((fr_ui I 9 r ((I 8 r 1).toNatClampNeg) p1) 8 r 1) + 1) / 4 * 4)) 8 r 5 (f_M_rootOfMeanSquare ((fr_ui (fr_ui I 9 r ((I 8 r 1).toNatClampNeg) p1) 8 r 1 ((((fr_ui I 9 r ((I 8 r 1).toNatClampNeg) p1) 8 r 1) + 1) - (((fr_ui I 9 r ((I 8 r 1).toNatClampNeg) p1) 8 r 1) + 1) / 4 * 4))) r)) 8 r 3) then (0 : Int32) else 1)), (fr_uj J 8 r 7 ((J 8 r 7) + (f_M_growth ((fr_ui (fr_ui (fr_ui (fr_ui I 9 r ((I 8 r 1).toNatClampNeg) p1) 8 r 1 ((((fr_ui I 9 r ((I 8 r 1).toNatClampNeg) p1) 8 r 1) + 1) - (((fr_ui I 9 r ((I 8 r 1).toNatClampNeg) p1) 8 r 1) + 1) / 4 * 4)) 8 r 5 (f_M_rootOfMeanSquare ((fr_ui (fr_ui I 9 r ((I 8 r 1).toNatClampNeg) p1) 8 r 1 ((((fr_ui I 9 r ((I 8 r 1).toNatClampNeg) p1) 8 r 1) + 1) - (((fr_ui I 9 r ((I 8 r 1).toNatClampNeg) p1) 8 r 1) + 1) / 4 * 4))) r)) 8 r 6 (if ((fr_ui (fr_ui (fr_ui I 9 r ((I 8 r 1).toNatClampNeg) p1) 8 r 1 ((((fr_ui I 9 r ((I 8 r 1).toNatClampNeg) p1) 8 r 1) + 1) - (((fr_ui I 9 r ((I 8 r 1).toNatClampNeg) p1) 8 r 1) + 1) / 4 * 4)) 8 r 5 (f_M_rootOfMeanSquare ((fr_ui (fr_ui I 9 r ((I 8 r 1).toNatClampNeg) p1) 8 r 1 ((((fr_ui I 9 r ((I 8 r 1).toNatClampNeg) p1) 8 r 1) + 1) - (((fr_ui I 9 r ((I 8 r 1).toNatClampNeg) p1) 8 r 1) + 1) / 4 * 4))) r)) 8 r 5) ≤ ((fr_ui (fr_ui (fr_ui I 9 r ((I 8 r 1).toNatClampNeg) p1) 8 r 1 ((((fr_ui I 9 r ((I 8 r 1).toNatClampNeg) p1) 8 r 1) + 1) - (((fr_ui I 9 r ((I 8 r 1).toNatClampNeg) p1) 8 r 1) + 1) / 4 * 4)) 8 r 5 (f_M_rootOfMeanSquare ((fr_ui (fr_ui I 9 r ((I 8 r 1).toNatClampNeg) p1) 8 r 1 ((((fr_ui I 9 r ((I 8 r 1).toNatClampNeg) p1) 8 r 1) + 1) - (((fr_ui I 9 r ((I 8 r 1).toNatClampNeg) p1) 8 r 1) + 1) / 4 * 4))) r)) 8 r 3) then (0 : Int32) else 1))) r))))
set_option maxRecDepth 10000 in
theorem ct_M_measure (X : fr_X) (n : Nat) (r : Nat) (hr : r < n) (I : fr_I) (J : fr_J) (p1 : Int32) (hw : fr_wf n I) : fr_Ct X y_M_measure c_M_measure 2 none (fr_rm 1) [.ref (fr_ad X 8 r), .int p1] (fr_Z0 X n) (fr_Z0 X n) I J (fr_pv (fun I' J' => (f_M_measure I J r p1).1 = I' ∧ (f_M_measure I J r p1).2 = J')) := by
  refine fr_ct (by decide) rfl rfl (Nat.le_of_ble_eq_true rfl) rfl (fun E => ?_)
  refine fr_aload_n d_M_measure_0 rfl ?_
  refine fr_getr (k' := 9) (r' := r) d_M_measure_1 fl_M_9 rfl rfl rfl (Or.inl ⟨rfl, hr⟩) ?_
  refine fr_aload_n d_M_measure_4 rfl ?_
  refine fr_geti d_M_measure_5 fl_M_23 rfl rfl (Or.inl ⟨rfl, hr⟩) ?_
  refine fr_iload_n d_M_measure_8 rfl ?_
  refine fr_iast ((I 8 r 1).toNatClampNeg) d_M_measure_9 rfl rfl (Or.inl ⟨rfl, hr⟩) (fw_old_eq hw hr) (fw_old_lt hw hr) (by decide) ?_
  refine fr_aload_n d_M_measure_10 rfl ?_
  refine fr_aload_n d_M_measure_11 rfl ?_
  refine fr_geti d_M_measure_12 fl_M_23 rfl rfl (Or.inl ⟨rfl, hr⟩) ?_
  refine fr_iconst d_M_measure_15 fr_i1 ?_
  refine fr_iadd d_M_measure_16 ?_
  refine fr_iconst d_M_measure_17 fr_i4 ?_
  refine fr_irem d_M_measure_18 (by decide) ?_
  refine fr_puti d_M_measure_19 fl_M_23 rfl rfl (Or.inl ⟨rfl, hr⟩) ?_
  refine fr_aload_n d_M_measure_22 rfl ?_
  refine fr_aload_n d_M_measure_23 rfl ?_
  refine fr_callVi fr_q3 d_M_measure_24 (ct_M_rootOfMeanSquare X n r hr _ _) mv_M_26 rfl rfl rfl (Or.inl ⟨rfl, hr⟩) rfl rfl ⟨Nat.le_of_ble_eq_true rfl, Nat.le_of_ble_eq_true rfl⟩ ⟨rfl, rfl⟩ ⟨Nat.zero_le _, Nat.zero_le _⟩ (Nat.le_of_ble_eq_true rfl) (fun x I' J' hp1 => ?_)
  obtain ⟨rfl, rfl, rfl⟩ := hp1
  refine fr_puti d_M_measure_27 fl_M_30 rfl rfl (Or.inl ⟨rfl, hr⟩) ?_
  refine fr_aload_n d_M_measure_30 rfl ?_
  refine fr_aload_n d_M_measure_31 rfl ?_
  refine fr_geti d_M_measure_32 fl_M_30 rfl rfl (Or.inl ⟨rfl, hr⟩) ?_
  refine fr_aload_n d_M_measure_35 rfl ?_
  refine fr_geti d_M_measure_36 fl_M_13 rfl rfl (Or.inl ⟨rfl, hr⟩) ?_
  refine fr_ticmp_le (t := 46) (j := 47) d_M_measure_39 rfl (fun k => fr_iconst d_M_measure_42 fr_i1 (fr_goto 47 d_M_measure_43 rfl k)) (fun k => fr_iconst d_M_measure_46 fr_i0 k) ?_
  refine fr_putz d_M_measure_47 fl_M_33 rfl rfl fr_if01 (Or.inl ⟨rfl, hr⟩) ?_
  refine fr_aload_n d_M_measure_50 rfl ?_
  refine fr_aload_n d_M_measure_51 rfl ?_
  refine fr_geti d_M_measure_52 fl_M_33 rfl rfl (Or.inl ⟨rfl, hr⟩) ?_
  refine fr_if_eq 70 d_M_measure_55 rfl (fun h2 => ?_) (fun h2 => ?_)
  · skip
    refine fr_lconst d_M_measure_70 fr_l0 ?_
    refine fr_putl d_M_measure_71 fl_M_37 rfl rfl (Or.inl ⟨rfl, hr⟩) ?_
    exact fr_vret d_M_measure_74 rfl (Nat.zero_le _) (Nat.zero_le _) (fr_tIJ (by unfold f_M_measure; rw [if_pos h2]))
  · skip
    refine fr_aload_n d_M_measure_58 rfl ?_
    refine fr_getl d_M_measure_59 fl_M_37 rfl rfl (Or.inl ⟨rfl, hr⟩) ?_
    refine fr_aload_n d_M_measure_62 rfl ?_
    refine fr_callVl fr_q3 d_M_measure_63 (ct_M_growth X n r hr _ _) mv_M_41 rfl rfl rfl (Or.inl ⟨rfl, hr⟩) rfl rfl ⟨Nat.le_of_ble_eq_true rfl, Nat.le_of_ble_eq_true rfl⟩ ⟨rfl, rfl⟩ ⟨Nat.zero_le _, Nat.zero_le _⟩ (Nat.le_of_ble_eq_true rfl) (fun x I' J' hp3 => ?_)
    obtain ⟨rfl, rfl, rfl⟩ := hp3
    refine fr_ladd d_M_measure_66 ?_
    refine fr_goto 71 d_M_measure_67 rfl ?_
    refine fr_putl d_M_measure_71 fl_M_37 rfl rfl (Or.inl ⟨rfl, hr⟩) ?_
    exact fr_vret d_M_measure_74 rfl (Nat.zero_le _) (Nat.zero_le _) (fr_tIJ (by unfold f_M_measure; rw [if_neg h2]))
theorem fw_M_measure {n : Nat} {I : fr_I} {J : fr_J} {r : Nat} {p1 : Int32} (hr : r < n) (hw : fr_wf n I) : fr_wf n (f_M_measure I J r p1).1 := by
  unfold f_M_measure
  refine fw_ite_1 (fun h => ?_) (fun h => ?_)
  · skip
    exact (fw_ui (k := 8) (j := 6) rfl (fw_ui (k := 8) (j := 5) rfl (fw_oldp hr (fw_ui (k := 9) rfl hw))))
  · skip
    exact (fw_ui (k := 8) (j := 6) rfl (fw_ui (k := 8) (j := 5) rfl (fw_oldp hr (fw_ui (k := 9) rfl hw))))
def f_F_isWithin (I : fr_I) (p1 : Int32) (p2 : Int32) (p3 : Int32) : Int32 :=
  if p1 < p2 then
    0
  else
    if p3 < p1 then
      0
    else
      1
set_option maxRecDepth 10000 in
theorem ct_F_isWithin (X : fr_X) (n : Nat) (I : fr_I) (J : fr_J) (p1 : Int32) (p2 : Int32) (p3 : Int32) : fr_Ct X y_F_isWithin c_F_isWithin 3 (some .boolean) (fr_rm 0) [.int p1, .int p2, .int p3] (fr_Z0 X n) (fr_Z0 X n) I J (fr_pi (fun x I' J' => (f_F_isWithin I p1 p2 p3) = x ∧ I = I' ∧ J = J')) := by
  refine fr_ct (by decide) rfl rfl (Nat.le_of_ble_eq_true rfl) rfl (fun E => ?_)
  refine fr_iload_n d_F_isWithin_0 rfl ?_
  refine fr_iload_n d_F_isWithin_1 rfl ?_
  refine fr_icmp_lt 14 d_F_isWithin_2 rfl (fun h1 => ?_) (fun h1 => ?_)
  · skip
    refine fr_iconst d_F_isWithin_14 fr_i0 ?_
    exact fr_iret d_F_isWithin_15 rfl (fr_nar_b (Or.inl rfl)) (Nat.zero_le _) (Nat.zero_le _) ⟨(by unfold f_F_isWithin; rw [if_pos h1]), rfl, rfl⟩
  · skip
    refine fr_iload_n d_F_isWithin_5 rfl ?_
    refine fr_iload_n d_F_isWithin_6 rfl ?_
    refine fr_icmp_gt 14 d_F_isWithin_7 rfl (fun h2 => ?_) (fun h2 => ?_)
    · skip
      refine fr_iconst d_F_isWithin_14 fr_i0 ?_
      exact fr_iret d_F_isWithin_15 rfl (fr_nar_b (Or.inl rfl)) (Nat.zero_le _) (Nat.zero_le _) ⟨(by unfold f_F_isWithin; rw [if_neg h1, if_pos h2]), rfl, rfl⟩
    · skip
      refine fr_iconst d_F_isWithin_10 fr_i1 ?_
      refine fr_goto 15 d_F_isWithin_11 rfl ?_
      exact fr_iret d_F_isWithin_15 rfl (fr_nar_b (Or.inr rfl)) (Nat.zero_le _) (Nat.zero_le _) ⟨(by unfold f_F_isWithin; rw [if_neg h1, if_neg h2]), rfl, rfl⟩
def f_F_isRelay (I : fr_I) (p1 : Int32) : Int32 :=
  if p1 < 0 then
    0
  else
    if (I 0 0 4) ≤ p1 then
      0
    else
      1
set_option maxRecDepth 10000 in
theorem ct_F_isRelay (X : fr_X) (n : Nat) (I : fr_I) (J : fr_J) (p1 : Int32) : fr_Ct X y_F_isRelay c_F_isRelay 2 (some .boolean) (fr_rm 0) [.ref (fr_ad X 0 0), .int p1] (fr_Z0 X n) (fr_Z0 X n) I J (fr_pi (fun x I' J' => (f_F_isRelay I p1) = x ∧ I = I' ∧ J = J')) := by
  refine fr_ct (by decide) rfl rfl (Nat.le_of_ble_eq_true rfl) rfl (fun E => ?_)
  refine fr_iload_n d_F_isRelay_0 rfl ?_
  refine fr_if_lt 16 d_F_isRelay_1 rfl (fun h1 => ?_) (fun h1 => ?_)
  · skip
    refine fr_iconst d_F_isRelay_16 fr_i0 ?_
    exact fr_iret d_F_isRelay_17 rfl (fr_nar_b (Or.inl rfl)) (Nat.zero_le _) (Nat.zero_le _) ⟨(by unfold f_F_isRelay; rw [if_pos h1]), rfl, rfl⟩
  · skip
    refine fr_iload_n d_F_isRelay_4 rfl ?_
    refine fr_aload_n d_F_isRelay_5 rfl ?_
    refine fr_geti d_F_isRelay_6 fl_F_30 rfl rfl (Or.inr ⟨rfl, rfl⟩) ?_
    refine fr_icmp_ge 16 d_F_isRelay_9 rfl (fun h2 => ?_) (fun h2 => ?_)
    · skip
      refine fr_iconst d_F_isRelay_16 fr_i0 ?_
      exact fr_iret d_F_isRelay_17 rfl (fr_nar_b (Or.inl rfl)) (Nat.zero_le _) (Nat.zero_le _) ⟨(by unfold f_F_isRelay; rw [if_neg h1, if_pos h2]), rfl, rfl⟩
    · skip
      refine fr_iconst d_F_isRelay_12 fr_i1 ?_
      refine fr_goto 17 d_F_isRelay_13 rfl ?_
      exact fr_iret d_F_isRelay_17 rfl (fr_nar_b (Or.inr rfl)) (Nat.zero_le _) (Nat.zero_le _) ⟨(by unfold f_F_isRelay; rw [if_neg h1, if_neg h2]), rfl, rfl⟩
theorem f01_F_isRelay {I : fr_I} {p1 : Int32} : f_F_isRelay I p1 = 0 ∨ f_F_isRelay I p1 = 1 := by
  unfold f_F_isRelay
  split
  · exact Or.inl rfl
  · split
    · exact Or.inl rfl
    · exact Or.inr rfl
def f_F_isPlaceFor (I : fr_I) (p1 : Int32) : Int32 :=
  if (I 0 0 4) = 0 then
    if p1 = (-1) then
      1
    else
      0
  else
    (f_F_isRelay I p1)
set_option maxRecDepth 10000 in
theorem ct_F_isPlaceFor (X : fr_X) (n : Nat) (I : fr_I) (J : fr_J) (p1 : Int32) : fr_Ct X y_F_isPlaceFor c_F_isPlaceFor 2 (some .boolean) (fr_rm 1) [.ref (fr_ad X 0 0), .int p1] (fr_Z0 X n) (fr_Z0 X n) I J (fr_pi (fun x I' J' => (f_F_isPlaceFor I p1) = x ∧ I = I' ∧ J = J')) := by
  refine fr_ct (by decide) rfl rfl (Nat.le_of_ble_eq_true rfl) rfl (fun E => ?_)
  refine fr_aload_n d_F_isPlaceFor_0 rfl ?_
  refine fr_geti d_F_isPlaceFor_1 fl_F_30 rfl rfl (Or.inr ⟨rfl, rfl⟩) ?_
  refine fr_if_ne 20 d_F_isPlaceFor_4 rfl (fun h1 => ?_) (fun h1 => ?_)
  · skip
    refine fr_aload_n d_F_isPlaceFor_20 rfl ?_
    refine fr_iload_n d_F_isPlaceFor_21 rfl ?_
    refine fr_callVi fr_q0 d_F_isPlaceFor_22 (ct_F_isRelay X n _ _ _) mv_F_44 rfl rfl rfl (Or.inr ⟨rfl, rfl⟩) rfl rfl ⟨Nat.le_of_ble_eq_true rfl, Nat.le_of_ble_eq_true rfl⟩ ⟨rfl, rfl⟩ ⟨Nat.zero_le _, Nat.zero_le _⟩ (Nat.le_of_ble_eq_true rfl) (fun x I' J' hp2 => ?_)
    obtain ⟨rfl, rfl, rfl⟩ := hp2
    exact fr_iret d_F_isPlaceFor_25 rfl (fr_nar_b f01_F_isRelay) (Nat.zero_le _) (Nat.zero_le _) ⟨(by unfold f_F_isPlaceFor; rw [if_neg h1]), rfl, rfl⟩
  · skip
    refine fr_iload_n d_F_isPlaceFor_7 rfl ?_
    refine fr_iconst d_F_isPlaceFor_8 fr_im1 ?_
    refine fr_icmp_ne 16 d_F_isPlaceFor_9 rfl (fun h3 => ?_) (fun h3 => ?_)
    · skip
      refine fr_iconst d_F_isPlaceFor_16 fr_i0 ?_
      refine fr_goto 25 d_F_isPlaceFor_17 rfl ?_
      exact fr_iret d_F_isPlaceFor_25 rfl (fr_nar_b (Or.inl rfl)) (Nat.zero_le _) (Nat.zero_le _) ⟨(by unfold f_F_isPlaceFor; rw [if_pos h1, if_neg h3]), rfl, rfl⟩
    · skip
      refine fr_iconst d_F_isPlaceFor_12 fr_i1 ?_
      refine fr_goto 25 d_F_isPlaceFor_13 rfl ?_
      exact fr_iret d_F_isPlaceFor_25 rfl (fr_nar_b (Or.inr rfl)) (Nat.zero_le _) (Nat.zero_le _) ⟨(by unfold f_F_isPlaceFor; rw [if_pos h1, if_pos h3]), rfl, rfl⟩
theorem fr_isR_in {n r : Nat} {I : fr_I} (hw : fr_wf n I) (hr : r < n) : f_F_isRelay I (nI r) = 1 := by
  have h8 := hw.1
  unfold f_F_isRelay
  rw [if_neg (nI_pos (by omega)), fw_cnt hw, if_neg (nI_ge hr (by omega))]
theorem fr_isR_0 {n : Nat} {I : fr_I} (hw : fr_wf n I) {x : Int32} (h : f_F_isRelay I x = 0) : x < 0 ∨ nI n ≤ x := by
  unfold f_F_isRelay at h
  split at h
  · rename_i h1; exact Or.inl h1
  · split at h
    · rename_i h1; rw [fw_cnt hw] at h1; exact Or.inr h1
    · cases h
theorem fr_isR_1 {n : Nat} {I : fr_I} (hw : fr_wf n I) {x : Int32} (h : ¬ f_F_isRelay I x = 0) : ∃ r, r < n ∧ x = nI r := by
  have h8 := hw.1
  rcases pk_ix x (n := n) (by omega) with h1 | h1 | h1
  · exact absurd (if_pos h1) h
  · refine absurd ?_ h
    unfold f_F_isRelay
    rw [fw_cnt hw]
    by_cases hx : x < 0
    · rw [if_pos hx]
    · rw [if_neg hx, if_pos h1]
  · exact h1
end
section
def f_F_settings (I : fr_I) (r : Nat) (p2 : Int32) (p3 : Int32) (p4 : Int32) : Int32 × fr_I :=
  if (f_F_isWithin I p2 0 2) = 0 then
    (0, I)
  else
    if (f_F_isWithin I p3 1 5000) = 0 then
      (0, I)
    else
      if (f_F_isWithin I p4 1 1000) = 0 then
        (0, I)
      else
        (1, (f_M_set I r p2 p3 p4))
set_option maxRecDepth 10000 in
theorem ct_F_settings (X : fr_X) (n : Nat) (r : Nat) (hr : r < n) (I : fr_I) (J : fr_J) (p2 : Int32) (p3 : Int32) (p4 : Int32) (hw : fr_wf n I) : fr_Ct X y_F_settings c_F_settings 5 (some .boolean) (fr_rm 1) [.ref (fr_ad X 0 0), .int (nI r), .int p2, .int p3, .int p4] (fr_Z0 X n) (fr_Z0 X n) I J (fr_pi (fun x I' J' => (f_F_settings I r p2 p3 p4).1 = x ∧ (f_F_settings I r p2 p3 p4).2 = I' ∧ J = J')) := by
  refine fr_ct (by decide) rfl rfl (Nat.le_of_ble_eq_true rfl) rfl (fun E => ?_)
  refine fr_aload_n d_F_settings_0 rfl ?_
  refine fr_iload_n d_F_settings_1 rfl ?_
  refine fr_callVi fr_q0 d_F_settings_2 (ct_F_isRelay X n _ _ _) mv_F_44 rfl rfl rfl (Or.inr ⟨rfl, rfl⟩) rfl rfl ⟨Nat.le_of_ble_eq_true rfl, Nat.le_of_ble_eq_true rfl⟩ ⟨rfl, rfl⟩ ⟨Nat.zero_le _, Nat.zero_le _⟩ (Nat.le_of_ble_eq_true rfl) (fun x I' J' hp1 => ?_)
  obtain ⟨rfl, rfl, rfl⟩ := hp1
  rw [fr_isR_in hw hr]
  refine fr_if_eq 40 d_F_settings_5 rfl (fun h => absurd h (by decide)) (fun _ => ?_)
  refine fr_iload_n d_F_settings_8 rfl ?_
  refine fr_iconst d_F_settings_9 fr_i0 ?_
  refine fr_iconst d_F_settings_10 fr_i2 ?_
  refine fr_callSi d_F_settings_11 (ct_F_isWithin X n _ _ _ _ _) ms_F_47 rfl rfl ⟨Nat.le_of_ble_eq_true rfl, Nat.le_of_ble_eq_true rfl⟩ ⟨rfl, rfl⟩ ⟨Nat.zero_le _, Nat.zero_le _⟩ (Nat.le_of_ble_eq_true rfl) (fun x I' J' hp2 => ?_)
  obtain ⟨rfl, rfl, rfl⟩ := hp2
  refine fr_if_eq 40 d_F_settings_14 rfl (fun h3 => ?_) (fun h3 => ?_)
  · skip
    refine fr_iconst d_F_settings_40 fr_i0 ?_
    exact fr_iret d_F_settings_41 rfl (fr_nar_b (Or.inl rfl)) (Nat.zero_le _) (Nat.zero_le _) (fr_tIx (by unfold f_F_settings; rw [if_pos h3]))
  · skip
    refine fr_iload_n d_F_settings_17 rfl ?_
    refine fr_iconst d_F_settings_18 fr_i1 ?_
    refine fr_sipush d_F_settings_19 fr_s5000 ?_
    refine fr_callSi d_F_settings_22 (ct_F_isWithin X n _ _ _ _ _) ms_F_47 rfl rfl ⟨Nat.le_of_ble_eq_true rfl, Nat.le_of_ble_eq_true rfl⟩ ⟨rfl, rfl⟩ ⟨Nat.zero_le _, Nat.zero_le _⟩ (Nat.le_of_ble_eq_true rfl) (fun x I' J' hp4 => ?_)
    obtain ⟨rfl, rfl, rfl⟩ := hp4
    refine fr_if_eq 40 d_F_settings_25 rfl (fun h5 => ?_) (fun h5 => ?_)
    · skip
      refine fr_iconst d_F_settings_40 fr_i0 ?_
      exact fr_iret d_F_settings_41 rfl (fr_nar_b (Or.inl rfl)) (Nat.zero_le _) (Nat.zero_le _) (fr_tIx (by unfold f_F_settings; rw [if_neg h3, if_pos h5]))
    · skip
      refine fr_iload d_F_settings_28 rfl ?_
      refine fr_iconst d_F_settings_30 fr_i1 ?_
      refine fr_sipush d_F_settings_31 fr_s1000 ?_
      refine fr_callSi d_F_settings_34 (ct_F_isWithin X n _ _ _ _ _) ms_F_47 rfl rfl ⟨Nat.le_of_ble_eq_true rfl, Nat.le_of_ble_eq_true rfl⟩ ⟨rfl, rfl⟩ ⟨Nat.zero_le _, Nat.zero_le _⟩ (Nat.le_of_ble_eq_true rfl) (fun x I' J' hp6 => ?_)
      obtain ⟨rfl, rfl, rfl⟩ := hp6
      refine fr_if_ne 42 d_F_settings_37 rfl (fun h7 => ?_) (fun h7 => ?_)
      · skip
        refine fr_aload_n d_F_settings_42 rfl ?_
        refine fr_getr (k' := 1) (r' := 0) d_F_settings_43 fl_F_11 rfl rfl rfl (Or.inr ⟨rfl, rfl⟩) ?_
        refine fr_iload_n d_F_settings_46 rfl ?_
        refine fr_aald (k' := 7) (r' := r) (r) d_F_settings_47 rfl rfl (if_pos hr) (Or.inr ⟨rfl, rfl⟩) rfl (fw_lt8 hw hr) (by decide) ?_
        refine fr_getr (k' := 8) (r' := r) d_F_settings_48 fl_F_51 rfl rfl rfl (Or.inl ⟨rfl, hr⟩) ?_
        refine fr_iload_n d_F_settings_51 rfl ?_
        refine fr_iload_n d_F_settings_52 rfl ?_
        refine fr_iload d_F_settings_53 rfl ?_
        refine fr_callVv fr_q3 d_F_settings_55 (ct_M_set X n r hr _ _ _ _ _) mv_F_55 rfl rfl rfl (Or.inl ⟨rfl, hr⟩) rfl rfl ⟨Nat.le_of_ble_eq_true rfl, Nat.le_of_ble_eq_true rfl⟩ ⟨rfl, rfl⟩ ⟨Nat.zero_le _, Nat.zero_le _⟩ (Nat.le_of_ble_eq_true rfl) (fun I' J' hp8 => ?_)
        obtain ⟨rfl, rfl⟩ := hp8
        refine fr_iconst d_F_settings_58 fr_i1 ?_
        exact fr_iret d_F_settings_59 rfl (fr_nar_b (Or.inr rfl)) (Nat.zero_le _) (Nat.zero_le _) (fr_tIx (by unfold f_F_settings; rw [if_neg h3, if_neg h5, if_neg h7]))
      · skip
        refine fr_iconst d_F_settings_40 fr_i0 ?_
        exact fr_iret d_F_settings_41 rfl (fr_nar_b (Or.inl rfl)) (Nat.zero_le _) (Nat.zero_le _) (fr_tIx (by unfold f_F_settings; rw [if_neg h3, if_neg h5, if_pos h7]))
theorem fw_F_settings {n : Nat} {I : fr_I} {r : Nat} {p2 : Int32} {p3 : Int32} {p4 : Int32} (hw : fr_wf n I) : fr_wf n (f_F_settings I r p2 p3 p4).2 := by
  unfold f_F_settings
  refine fw_ite_2 (fun h => ?_) (fun h => ?_)
  · skip
    exact hw
  · skip
    refine fw_ite_2 (fun h => ?_) (fun h => ?_)
    · skip
      exact hw
    · skip
      refine fw_ite_2 (fun h => ?_) (fun h => ?_)
      · skip
        exact hw
      · skip
        exact (fw_M_set hw)
def f_F_settings_no (I : fr_I) (p1 : Int32) (p2 : Int32) (p3 : Int32) (p4 : Int32) : Int32 :=
  0
set_option maxRecDepth 10000 in
theorem ct_F_settings_no (X : fr_X) (n : Nat) (I : fr_I) (J : fr_J) (p1 : Int32) (p2 : Int32) (p3 : Int32) (p4 : Int32) (hx : f_F_isRelay I p1 = 0) : fr_Ct X y_F_settings c_F_settings 5 (some .boolean) (fr_rm 1) [.ref (fr_ad X 0 0), .int p1, .int p2, .int p3, .int p4] (fr_Z0 X n) (fr_Z0 X n) I J (fr_pi (fun x I' J' => (f_F_settings_no I p1 p2 p3 p4) = x ∧ I = I' ∧ J = J')) := by
  refine fr_ct (by decide) rfl rfl (Nat.le_of_ble_eq_true rfl) rfl (fun E => ?_)
  refine fr_aload_n d_F_settings_0 rfl ?_
  refine fr_iload_n d_F_settings_1 rfl ?_
  refine fr_callVi fr_q0 d_F_settings_2 (ct_F_isRelay X n _ _ _) mv_F_44 rfl rfl rfl (Or.inr ⟨rfl, rfl⟩) rfl rfl ⟨Nat.le_of_ble_eq_true rfl, Nat.le_of_ble_eq_true rfl⟩ ⟨rfl, rfl⟩ ⟨Nat.zero_le _, Nat.zero_le _⟩ (Nat.le_of_ble_eq_true rfl) (fun x I' J' hp1 => ?_)
  obtain ⟨rfl, rfl, rfl⟩ := hp1
  rw [hx]
  refine fr_if_eq 40 d_F_settings_5 rfl (fun _ => ?_) (fun h => absurd h (by decide))
  refine fr_iconst d_F_settings_40 fr_i0 ?_
  exact fr_iret d_F_settings_41 rfl (fr_nar_b (Or.inl rfl)) (Nat.zero_le _) (Nat.zero_le _) ⟨rfl, rfl, rfl⟩
def f_F_options (I : fr_I) (r : Nat) (p2 : Int32) (p3 : Int32) (p4 : Int32) : Int32 × fr_I :=
  if (f_F_isWithin I p3 0 3) = 0 then
    (0, I)
  else
    if (f_F_isWithin I p4 1 50) = 0 then
      (0, I)
    else
      (1, (fr_ui (fr_ui (fr_ui I 7 r 4 p2) 7 r 5 p3) 7 r 6 p4))
set_option maxRecDepth 10000 in
theorem ct_F_options (X : fr_X) (n : Nat) (r : Nat) (hr : r < n) (I : fr_I) (J : fr_J) (p2 : Int32) (p3 : Int32) (p4 : Int32) (hw : fr_wf n I) (hb : p2 = 0 ∨ p2 = 1) : fr_Ct X y_F_options c_F_options 6 (some .boolean) (fr_rm 1) [.ref (fr_ad X 0 0), .int (nI r), .int p2, .int p3, .int p4] (fr_Z0 X n) (fr_Z0 X n) I J (fr_pi (fun x I' J' => (f_F_options I r p2 p3 p4).1 = x ∧ (f_F_options I r p2 p3 p4).2 = I' ∧ J = J')) := by
  refine fr_ct (by decide) rfl rfl (Nat.le_of_ble_eq_true rfl) rfl (fun E => ?_)
  refine fr_aload_n d_F_options_0 rfl ?_
  refine fr_iload_n d_F_options_1 rfl ?_
  refine fr_callVi fr_q0 d_F_options_2 (ct_F_isRelay X n _ _ _) mv_F_44 rfl rfl rfl (Or.inr ⟨rfl, rfl⟩) rfl rfl ⟨Nat.le_of_ble_eq_true rfl, Nat.le_of_ble_eq_true rfl⟩ ⟨rfl, rfl⟩ ⟨Nat.zero_le _, Nat.zero_le _⟩ (Nat.le_of_ble_eq_true rfl) (fun x I' J' hp1 => ?_)
  obtain ⟨rfl, rfl, rfl⟩ := hp1
  rw [fr_isR_in hw hr]
  refine fr_if_eq 28 d_F_options_5 rfl (fun h => absurd h (by decide)) (fun _ => ?_)
  refine fr_iload_n d_F_options_8 rfl ?_
  refine fr_iconst d_F_options_9 fr_i0 ?_
  refine fr_iconst d_F_options_10 fr_i3 ?_
  refine fr_callSi d_F_options_11 (ct_F_isWithin X n _ _ _ _ _) ms_F_47 rfl rfl ⟨Nat.le_of_ble_eq_true rfl, Nat.le_of_ble_eq_true rfl⟩ ⟨rfl, rfl⟩ ⟨Nat.zero_le _, Nat.zero_le _⟩ (Nat.le_of_ble_eq_true rfl) (fun x I' J' hp2 => ?_)
  obtain ⟨rfl, rfl, rfl⟩ := hp2
  refine fr_if_eq 28 d_F_options_14 rfl (fun h3 => ?_) (fun h3 => ?_)
  · skip
    refine fr_iconst d_F_options_28 fr_i0 ?_
    exact fr_iret d_F_options_29 rfl (fr_nar_b (Or.inl rfl)) (Nat.zero_le _) (Nat.zero_le _) (fr_tIx (by unfold f_F_options; rw [if_pos h3]))
  · skip
    refine fr_iload d_F_options_17 rfl ?_
    refine fr_iconst d_F_options_19 fr_i1 ?_
    refine fr_bipush d_F_options_20 fr_b50 ?_
    refine fr_callSi d_F_options_22 (ct_F_isWithin X n _ _ _ _ _) ms_F_47 rfl rfl ⟨Nat.le_of_ble_eq_true rfl, Nat.le_of_ble_eq_true rfl⟩ ⟨rfl, rfl⟩ ⟨Nat.zero_le _, Nat.zero_le _⟩ (Nat.le_of_ble_eq_true rfl) (fun x I' J' hp4 => ?_)
    obtain ⟨rfl, rfl, rfl⟩ := hp4
    refine fr_if_ne 30 d_F_options_25 rfl (fun h5 => ?_) (fun h5 => ?_)
    · skip
      refine fr_aload_n d_F_options_30 rfl ?_
      refine fr_getr (k' := 1) (r' := 0) d_F_options_31 fl_F_11 rfl rfl rfl (Or.inr ⟨rfl, rfl⟩) ?_
      refine fr_iload_n d_F_options_34 rfl ?_
      refine fr_aald (k' := 7) (r' := r) (r) d_F_options_35 rfl rfl (if_pos hr) (Or.inr ⟨rfl, rfl⟩) rfl (fw_lt8 hw hr) (by decide) ?_
      refine fr_astore (L' := [(5, .ref _), (0, .ref _), (1, .int _), (2, .int _), (3, .int _), (4, .int _)]) d_F_options_36 (by decide) rfl ?_
      refine fr_aload d_F_options_38 rfl ?_
      refine fr_iload_n d_F_options_40 rfl ?_
      refine fr_putz d_F_options_41 fl_F_61 rfl rfl hb (Or.inl ⟨rfl, hr⟩) ?_
      refine fr_aload d_F_options_44 rfl ?_
      refine fr_iload_n d_F_options_46 rfl ?_
      refine fr_puti d_F_options_47 fl_F_65 rfl rfl (Or.inl ⟨rfl, hr⟩) ?_
      refine fr_aload d_F_options_50 rfl ?_
      refine fr_iload d_F_options_52 rfl ?_
      refine fr_puti d_F_options_54 fl_F_68 rfl rfl (Or.inl ⟨rfl, hr⟩) ?_
      refine fr_iconst d_F_options_57 fr_i1 ?_
      exact fr_iret d_F_options_58 rfl (fr_nar_b (Or.inr rfl)) (Nat.zero_le _) (Nat.zero_le _) (fr_tIx (by unfold f_F_options; rw [if_neg h3, if_neg h5]))
    · skip
      refine fr_iconst d_F_options_28 fr_i0 ?_
      exact fr_iret d_F_options_29 rfl (fr_nar_b (Or.inl rfl)) (Nat.zero_le _) (Nat.zero_le _) (fr_tIx (by unfold f_F_options; rw [if_neg h3, if_pos h5]))
theorem fw_F_options {n : Nat} {I : fr_I} {r : Nat} {p2 : Int32} {p3 : Int32} {p4 : Int32} (hw : fr_wf n I) : fr_wf n (f_F_options I r p2 p3 p4).2 := by
  unfold f_F_options
  refine fw_ite_2 (fun h => ?_) (fun h => ?_)
  · skip
    exact hw
  · skip
    refine fw_ite_2 (fun h => ?_) (fun h => ?_)
    · skip
      exact hw
    · skip
      exact (fw_ui (k := 7) (j := 6) rfl (fw_ui (k := 7) (j := 5) rfl (fw_ui (k := 7) (j := 4) rfl hw)))
def f_F_options_no (I : fr_I) (p1 : Int32) (p2 : Int32) (p3 : Int32) (p4 : Int32) : Int32 :=
  0
set_option maxRecDepth 10000 in
theorem ct_F_options_no (X : fr_X) (n : Nat) (I : fr_I) (J : fr_J) (p1 : Int32) (p2 : Int32) (p3 : Int32) (p4 : Int32) (hx : f_F_isRelay I p1 = 0) : fr_Ct X y_F_options c_F_options 6 (some .boolean) (fr_rm 1) [.ref (fr_ad X 0 0), .int p1, .int p2, .int p3, .int p4] (fr_Z0 X n) (fr_Z0 X n) I J (fr_pi (fun x I' J' => (f_F_options_no I p1 p2 p3 p4) = x ∧ I = I' ∧ J = J')) := by
  refine fr_ct (by decide) rfl rfl (Nat.le_of_ble_eq_true rfl) rfl (fun E => ?_)
  refine fr_aload_n d_F_options_0 rfl ?_
  refine fr_iload_n d_F_options_1 rfl ?_
  refine fr_callVi fr_q0 d_F_options_2 (ct_F_isRelay X n _ _ _) mv_F_44 rfl rfl rfl (Or.inr ⟨rfl, rfl⟩) rfl rfl ⟨Nat.le_of_ble_eq_true rfl, Nat.le_of_ble_eq_true rfl⟩ ⟨rfl, rfl⟩ ⟨Nat.zero_le _, Nat.zero_le _⟩ (Nat.le_of_ble_eq_true rfl) (fun x I' J' hp1 => ?_)
  obtain ⟨rfl, rfl, rfl⟩ := hp1
  rw [hx]
  refine fr_if_eq 28 d_F_options_5 rfl (fun _ => ?_) (fun h => absurd h (by decide))
  refine fr_iconst d_F_options_28 fr_i0 ?_
  exact fr_iret d_F_options_29 rfl (fr_nar_b (Or.inl rfl)) (Nat.zero_le _) (Nat.zero_le _) ⟨rfl, rfl, rfl⟩
def f_F_load (I : fr_I) (r : Nat) (p2 : Int32) : Int32 × fr_I :=
  if (f_F_isWithin I p2 0 2000) = 0 then
    (0, I)
  else
    (1, (fr_ui I 7 r 7 p2))
set_option maxRecDepth 10000 in
theorem ct_F_load (X : fr_X) (n : Nat) (r : Nat) (hr : r < n) (I : fr_I) (J : fr_J) (p2 : Int32) (hw : fr_wf n I) : fr_Ct X y_F_load c_F_load 3 (some .boolean) (fr_rm 1) [.ref (fr_ad X 0 0), .int (nI r), .int p2] (fr_Z0 X n) (fr_Z0 X n) I J (fr_pi (fun x I' J' => (f_F_load I r p2).1 = x ∧ (f_F_load I r p2).2 = I' ∧ J = J')) := by
  refine fr_ct (by decide) rfl rfl (Nat.le_of_ble_eq_true rfl) rfl (fun E => ?_)
  refine fr_aload_n d_F_load_0 rfl ?_
  refine fr_iload_n d_F_load_1 rfl ?_
  refine fr_callVi fr_q0 d_F_load_2 (ct_F_isRelay X n _ _ _) mv_F_44 rfl rfl rfl (Or.inr ⟨rfl, rfl⟩) rfl rfl ⟨Nat.le_of_ble_eq_true rfl, Nat.le_of_ble_eq_true rfl⟩ ⟨rfl, rfl⟩ ⟨Nat.zero_le _, Nat.zero_le _⟩ (Nat.le_of_ble_eq_true rfl) (fun x I' J' hp1 => ?_)
  obtain ⟨rfl, rfl, rfl⟩ := hp1
  rw [fr_isR_in hw hr]
  refine fr_if_eq 19 d_F_load_5 rfl (fun h => absurd h (by decide)) (fun _ => ?_)
  refine fr_iload_n d_F_load_8 rfl ?_
  refine fr_iconst d_F_load_9 fr_i0 ?_
  refine fr_sipush d_F_load_10 fr_s2000 ?_
  refine fr_callSi d_F_load_13 (ct_F_isWithin X n _ _ _ _ _) ms_F_47 rfl rfl ⟨Nat.le_of_ble_eq_true rfl, Nat.le_of_ble_eq_true rfl⟩ ⟨rfl, rfl⟩ ⟨Nat.zero_le _, Nat.zero_le _⟩ (Nat.le_of_ble_eq_true rfl) (fun x I' J' hp2 => ?_)
  obtain ⟨rfl, rfl, rfl⟩ := hp2
  refine fr_if_ne 21 d_F_load_16 rfl (fun h3 => ?_) (fun h3 => ?_)
  · skip
    refine fr_aload_n d_F_load_21 rfl ?_
    refine fr_getr (k' := 1) (r' := 0) d_F_load_22 fl_F_11 rfl rfl rfl (Or.inr ⟨rfl, rfl⟩) ?_
    refine fr_iload_n d_F_load_25 rfl ?_
    refine fr_aald (k' := 7) (r' := r) (r) d_F_load_26 rfl rfl (if_pos hr) (Or.inr ⟨rfl, rfl⟩) rfl (fw_lt8 hw hr) (by decide) ?_
    refine fr_iload_n d_F_load_27 rfl ?_
    refine fr_puti d_F_load_28 fl_F_71 rfl rfl (Or.inl ⟨rfl, hr⟩) ?_
    refine fr_iconst d_F_load_31 fr_i1 ?_
    exact fr_iret d_F_load_32 rfl (fr_nar_b (Or.inr rfl)) (Nat.zero_le _) (Nat.zero_le _) (fr_tIx (by unfold f_F_load; rw [if_neg h3]))
  · skip
    refine fr_iconst d_F_load_19 fr_i0 ?_
    exact fr_iret d_F_load_20 rfl (fr_nar_b (Or.inl rfl)) (Nat.zero_le _) (Nat.zero_le _) (fr_tIx (by unfold f_F_load; rw [if_pos h3]))
theorem fw_F_load {n : Nat} {I : fr_I} {r : Nat} {p2 : Int32} (hw : fr_wf n I) : fr_wf n (f_F_load I r p2).2 := by
  unfold f_F_load
  refine fw_ite_2 (fun h => ?_) (fun h => ?_)
  · skip
    exact hw
  · skip
    exact (fw_ui (k := 7) (j := 7) rfl hw)
def f_F_load_no (I : fr_I) (p1 : Int32) (p2 : Int32) : Int32 :=
  0
set_option maxRecDepth 10000 in
theorem ct_F_load_no (X : fr_X) (n : Nat) (I : fr_I) (J : fr_J) (p1 : Int32) (p2 : Int32) (hx : f_F_isRelay I p1 = 0) : fr_Ct X y_F_load c_F_load 3 (some .boolean) (fr_rm 1) [.ref (fr_ad X 0 0), .int p1, .int p2] (fr_Z0 X n) (fr_Z0 X n) I J (fr_pi (fun x I' J' => (f_F_load_no I p1 p2) = x ∧ I = I' ∧ J = J')) := by
  refine fr_ct (by decide) rfl rfl (Nat.le_of_ble_eq_true rfl) rfl (fun E => ?_)
  refine fr_aload_n d_F_load_0 rfl ?_
  refine fr_iload_n d_F_load_1 rfl ?_
  refine fr_callVi fr_q0 d_F_load_2 (ct_F_isRelay X n _ _ _) mv_F_44 rfl rfl rfl (Or.inr ⟨rfl, rfl⟩) rfl rfl ⟨Nat.le_of_ble_eq_true rfl, Nat.le_of_ble_eq_true rfl⟩ ⟨rfl, rfl⟩ ⟨Nat.zero_le _, Nat.zero_le _⟩ (Nat.le_of_ble_eq_true rfl) (fun x I' J' hp1 => ?_)
  obtain ⟨rfl, rfl, rfl⟩ := hp1
  rw [hx]
  refine fr_if_eq 19 d_F_load_5 rfl (fun _ => ?_) (fun h => absurd h (by decide))
  refine fr_iconst d_F_load_19 fr_i0 ?_
  exact fr_iret d_F_load_20 rfl (fr_nar_b (Or.inl rfl)) (Nat.zero_le _) (Nat.zero_le _) ⟨rfl, rfl, rfl⟩
def f_F_fault (I : fr_I) (r : Nat) (p2 : Int32) : Int32 × fr_I :=
  if (f_F_isWithin I p2 0 20000) = 0 then
    (0, I)
  else
    (1, (fr_ui I 7 r 8 p2))
set_option maxRecDepth 10000 in
theorem ct_F_fault (X : fr_X) (n : Nat) (r : Nat) (hr : r < n) (I : fr_I) (J : fr_J) (p2 : Int32) (hw : fr_wf n I) : fr_Ct X y_F_fault c_F_fault 3 (some .boolean) (fr_rm 1) [.ref (fr_ad X 0 0), .int (nI r), .int p2] (fr_Z0 X n) (fr_Z0 X n) I J (fr_pi (fun x I' J' => (f_F_fault I r p2).1 = x ∧ (f_F_fault I r p2).2 = I' ∧ J = J')) := by
  refine fr_ct (by decide) rfl rfl (Nat.le_of_ble_eq_true rfl) rfl (fun E => ?_)
  refine fr_aload_n d_F_fault_0 rfl ?_
  refine fr_iload_n d_F_fault_1 rfl ?_
  refine fr_callVi fr_q0 d_F_fault_2 (ct_F_isRelay X n _ _ _) mv_F_44 rfl rfl rfl (Or.inr ⟨rfl, rfl⟩) rfl rfl ⟨Nat.le_of_ble_eq_true rfl, Nat.le_of_ble_eq_true rfl⟩ ⟨rfl, rfl⟩ ⟨Nat.zero_le _, Nat.zero_le _⟩ (Nat.le_of_ble_eq_true rfl) (fun x I' J' hp1 => ?_)
  obtain ⟨rfl, rfl, rfl⟩ := hp1
  rw [fr_isR_in hw hr]
  refine fr_if_eq 19 d_F_fault_5 rfl (fun h => absurd h (by decide)) (fun _ => ?_)
  refine fr_iload_n d_F_fault_8 rfl ?_
  refine fr_iconst d_F_fault_9 fr_i0 ?_
  refine fr_sipush d_F_fault_10 fr_s20000 ?_
  refine fr_callSi d_F_fault_13 (ct_F_isWithin X n _ _ _ _ _) ms_F_47 rfl rfl ⟨Nat.le_of_ble_eq_true rfl, Nat.le_of_ble_eq_true rfl⟩ ⟨rfl, rfl⟩ ⟨Nat.zero_le _, Nat.zero_le _⟩ (Nat.le_of_ble_eq_true rfl) (fun x I' J' hp2 => ?_)
  obtain ⟨rfl, rfl, rfl⟩ := hp2
  refine fr_if_ne 21 d_F_fault_16 rfl (fun h3 => ?_) (fun h3 => ?_)
  · skip
    refine fr_aload_n d_F_fault_21 rfl ?_
    refine fr_getr (k' := 1) (r' := 0) d_F_fault_22 fl_F_11 rfl rfl rfl (Or.inr ⟨rfl, rfl⟩) ?_
    refine fr_iload_n d_F_fault_25 rfl ?_
    refine fr_aald (k' := 7) (r' := r) (r) d_F_fault_26 rfl rfl (if_pos hr) (Or.inr ⟨rfl, rfl⟩) rfl (fw_lt8 hw hr) (by decide) ?_
    refine fr_iload_n d_F_fault_27 rfl ?_
    refine fr_puti d_F_fault_28 fl_F_74 rfl rfl (Or.inl ⟨rfl, hr⟩) ?_
    refine fr_iconst d_F_fault_31 fr_i1 ?_
    exact fr_iret d_F_fault_32 rfl (fr_nar_b (Or.inr rfl)) (Nat.zero_le _) (Nat.zero_le _) (fr_tIx (by unfold f_F_fault; rw [if_neg h3]))
  · skip
    refine fr_iconst d_F_fault_19 fr_i0 ?_
    exact fr_iret d_F_fault_20 rfl (fr_nar_b (Or.inl rfl)) (Nat.zero_le _) (Nat.zero_le _) (fr_tIx (by unfold f_F_fault; rw [if_pos h3]))
theorem fw_F_fault {n : Nat} {I : fr_I} {r : Nat} {p2 : Int32} (hw : fr_wf n I) : fr_wf n (f_F_fault I r p2).2 := by
  unfold f_F_fault
  refine fw_ite_2 (fun h => ?_) (fun h => ?_)
  · skip
    exact hw
  · skip
    exact (fw_ui (k := 7) (j := 8) rfl hw)
def f_F_fault_no (I : fr_I) (p1 : Int32) (p2 : Int32) : Int32 :=
  0
set_option maxRecDepth 10000 in
theorem ct_F_fault_no (X : fr_X) (n : Nat) (I : fr_I) (J : fr_J) (p1 : Int32) (p2 : Int32) (hx : f_F_isRelay I p1 = 0) : fr_Ct X y_F_fault c_F_fault 3 (some .boolean) (fr_rm 1) [.ref (fr_ad X 0 0), .int p1, .int p2] (fr_Z0 X n) (fr_Z0 X n) I J (fr_pi (fun x I' J' => (f_F_fault_no I p1 p2) = x ∧ I = I' ∧ J = J')) := by
  refine fr_ct (by decide) rfl rfl (Nat.le_of_ble_eq_true rfl) rfl (fun E => ?_)
  refine fr_aload_n d_F_fault_0 rfl ?_
  refine fr_iload_n d_F_fault_1 rfl ?_
  refine fr_callVi fr_q0 d_F_fault_2 (ct_F_isRelay X n _ _ _) mv_F_44 rfl rfl rfl (Or.inr ⟨rfl, rfl⟩) rfl rfl ⟨Nat.le_of_ble_eq_true rfl, Nat.le_of_ble_eq_true rfl⟩ ⟨rfl, rfl⟩ ⟨Nat.zero_le _, Nat.zero_le _⟩ (Nat.le_of_ble_eq_true rfl) (fun x I' J' hp1 => ?_)
  obtain ⟨rfl, rfl, rfl⟩ := hp1
  rw [hx]
  refine fr_if_eq 19 d_F_fault_5 rfl (fun _ => ?_) (fun h => absurd h (by decide))
  refine fr_iconst d_F_fault_19 fr_i0 ?_
  exact fr_iret d_F_fault_20 rfl (fr_nar_b (Or.inl rfl)) (Nat.zero_le _) (Nat.zero_le _) ⟨rfl, rfl, rfl⟩
def f_F_jam (I : fr_I) (r : Nat) (p2 : Int32) : Int32 × fr_I :=
  (1, (fr_ui I 10 r 1 p2))
set_option maxRecDepth 10000 in
theorem ct_F_jam (X : fr_X) (n : Nat) (r : Nat) (hr : r < n) (I : fr_I) (J : fr_J) (p2 : Int32) (hw : fr_wf n I) (hb : p2 = 0 ∨ p2 = 1) : fr_Ct X y_F_jam c_F_jam 3 (some .boolean) (fr_rm 1) [.ref (fr_ad X 0 0), .int (nI r), .int p2] (fr_Z0 X n) (fr_Z0 X n) I J (fr_pi (fun x I' J' => (f_F_jam I r p2).1 = x ∧ (f_F_jam I r p2).2 = I' ∧ J = J')) := by
  refine fr_ct (by decide) rfl rfl (Nat.le_of_ble_eq_true rfl) rfl (fun E => ?_)
  refine fr_aload_n d_F_jam_0 rfl ?_
  refine fr_iload_n d_F_jam_1 rfl ?_
  refine fr_callVi fr_q0 d_F_jam_2 (ct_F_isRelay X n _ _ _) mv_F_44 rfl rfl rfl (Or.inr ⟨rfl, rfl⟩) rfl rfl ⟨Nat.le_of_ble_eq_true rfl, Nat.le_of_ble_eq_true rfl⟩ ⟨rfl, rfl⟩ ⟨Nat.zero_le _, Nat.zero_le _⟩ (Nat.le_of_ble_eq_true rfl) (fun x I' J' hp1 => ?_)
  obtain ⟨rfl, rfl, rfl⟩ := hp1
  rw [fr_isR_in hw hr]
  refine fr_if_ne 10 d_F_jam_5 rfl (fun _ => ?_) (fun h => absurd h (by decide))
  refine fr_aload_n d_F_jam_10 rfl ?_
  refine fr_getr (k' := 1) (r' := 0) d_F_jam_11 fl_F_11 rfl rfl rfl (Or.inr ⟨rfl, rfl⟩) ?_
  refine fr_iload_n d_F_jam_14 rfl ?_
  refine fr_aald (k' := 7) (r' := r) (r) d_F_jam_15 rfl rfl (if_pos hr) (Or.inr ⟨rfl, rfl⟩) rfl (fw_lt8 hw hr) (by decide) ?_
  refine fr_getr (k' := 10) (r' := r) d_F_jam_16 fl_F_77 rfl rfl rfl (Or.inl ⟨rfl, hr⟩) ?_
  refine fr_iload_n d_F_jam_19 rfl ?_
  refine fr_putz d_F_jam_20 fl_F_81 rfl rfl hb (Or.inl ⟨rfl, hr⟩) ?_
  refine fr_iconst d_F_jam_23 fr_i1 ?_
  exact fr_iret d_F_jam_24 rfl (fr_nar_b (Or.inr rfl)) (Nat.zero_le _) (Nat.zero_le _) (fr_tIx (rfl))
theorem fw_F_jam {n : Nat} {I : fr_I} {r : Nat} {p2 : Int32} (hw : fr_wf n I) : fr_wf n (f_F_jam I r p2).2 := by
  unfold f_F_jam
  exact (fw_ui (k := 10) (j := 1) rfl hw)
def f_F_jam_no (I : fr_I) (p1 : Int32) (p2 : Int32) : Int32 :=
  0
set_option maxRecDepth 10000 in
theorem ct_F_jam_no (X : fr_X) (n : Nat) (I : fr_I) (J : fr_J) (p1 : Int32) (p2 : Int32) (hx : f_F_isRelay I p1 = 0) : fr_Ct X y_F_jam c_F_jam 3 (some .boolean) (fr_rm 1) [.ref (fr_ad X 0 0), .int p1, .int p2] (fr_Z0 X n) (fr_Z0 X n) I J (fr_pi (fun x I' J' => (f_F_jam_no I p1 p2) = x ∧ I = I' ∧ J = J')) := by
  refine fr_ct (by decide) rfl rfl (Nat.le_of_ble_eq_true rfl) rfl (fun E => ?_)
  refine fr_aload_n d_F_jam_0 rfl ?_
  refine fr_iload_n d_F_jam_1 rfl ?_
  refine fr_callVi fr_q0 d_F_jam_2 (ct_F_isRelay X n _ _ _) mv_F_44 rfl rfl rfl (Or.inr ⟨rfl, rfl⟩) rfl rfl ⟨Nat.le_of_ble_eq_true rfl, Nat.le_of_ble_eq_true rfl⟩ ⟨rfl, rfl⟩ ⟨Nat.zero_le _, Nat.zero_le _⟩ (Nat.le_of_ble_eq_true rfl) (fun x I' J' hp1 => ?_)
  obtain ⟨rfl, rfl, rfl⟩ := hp1
  rw [hx]
  refine fr_if_ne 10 d_F_jam_5 rfl (fun h => absurd h (by decide)) (fun _ => ?_)
  refine fr_iconst d_F_jam_8 fr_i0 ?_
  exact fr_iret d_F_jam_9 rfl (fr_nar_b (Or.inl rfl)) (Nat.zero_le _) (Nat.zero_le _) ⟨rfl, rfl, rfl⟩
def f_F_line (I : fr_I) (r : Nat) (p2 : Int32) : Int32 × fr_I :=
  if (f_F_isWithin I p2 0 8) = 0 then
    (0, I)
  else
    (1, (fr_ui I 11 r 3 p2))
set_option maxRecDepth 10000 in
theorem ct_F_line (X : fr_X) (n : Nat) (r : Nat) (hr : r < n) (I : fr_I) (J : fr_J) (p2 : Int32) (hw : fr_wf n I) : fr_Ct X y_F_line c_F_line 3 (some .boolean) (fr_rm 1) [.ref (fr_ad X 0 0), .int (nI r), .int p2] (fr_Z0 X n) (fr_Z0 X n) I J (fr_pi (fun x I' J' => (f_F_line I r p2).1 = x ∧ (f_F_line I r p2).2 = I' ∧ J = J')) := by
  refine fr_ct (by decide) rfl rfl (Nat.le_of_ble_eq_true rfl) rfl (fun E => ?_)
  refine fr_aload_n d_F_line_0 rfl ?_
  refine fr_iload_n d_F_line_1 rfl ?_
  refine fr_callVi fr_q0 d_F_line_2 (ct_F_isRelay X n _ _ _) mv_F_44 rfl rfl rfl (Or.inr ⟨rfl, rfl⟩) rfl rfl ⟨Nat.le_of_ble_eq_true rfl, Nat.le_of_ble_eq_true rfl⟩ ⟨rfl, rfl⟩ ⟨Nat.zero_le _, Nat.zero_le _⟩ (Nat.le_of_ble_eq_true rfl) (fun x I' J' hp1 => ?_)
  obtain ⟨rfl, rfl, rfl⟩ := hp1
  rw [fr_isR_in hw hr]
  refine fr_if_eq 18 d_F_line_5 rfl (fun h => absurd h (by decide)) (fun _ => ?_)
  refine fr_iload_n d_F_line_8 rfl ?_
  refine fr_iconst d_F_line_9 fr_i0 ?_
  refine fr_bipush d_F_line_10 fr_b8 ?_
  refine fr_callSi d_F_line_12 (ct_F_isWithin X n _ _ _ _ _) ms_F_47 rfl rfl ⟨Nat.le_of_ble_eq_true rfl, Nat.le_of_ble_eq_true rfl⟩ ⟨rfl, rfl⟩ ⟨Nat.zero_le _, Nat.zero_le _⟩ (Nat.le_of_ble_eq_true rfl) (fun x I' J' hp2 => ?_)
  obtain ⟨rfl, rfl, rfl⟩ := hp2
  refine fr_if_ne 20 d_F_line_15 rfl (fun h3 => ?_) (fun h3 => ?_)
  · skip
    refine fr_aload_n d_F_line_20 rfl ?_
    refine fr_getr (k' := 1) (r' := 0) d_F_line_21 fl_F_11 rfl rfl rfl (Or.inr ⟨rfl, rfl⟩) ?_
    refine fr_iload_n d_F_line_24 rfl ?_
    refine fr_aald (k' := 7) (r' := r) (r) d_F_line_25 rfl rfl (if_pos hr) (Or.inr ⟨rfl, rfl⟩) rfl (fw_lt8 hw hr) (by decide) ?_
    refine fr_getr (k' := 11) (r' := r) d_F_line_26 fl_F_86 rfl rfl rfl (Or.inl ⟨rfl, hr⟩) ?_
    refine fr_iload_n d_F_line_29 rfl ?_
    refine fr_puti d_F_line_30 fl_F_90 rfl rfl (Or.inl ⟨rfl, hr⟩) ?_
    refine fr_iconst d_F_line_33 fr_i1 ?_
    exact fr_iret d_F_line_34 rfl (fr_nar_b (Or.inr rfl)) (Nat.zero_le _) (Nat.zero_le _) (fr_tIx (by unfold f_F_line; rw [if_neg h3]))
  · skip
    refine fr_iconst d_F_line_18 fr_i0 ?_
    exact fr_iret d_F_line_19 rfl (fr_nar_b (Or.inl rfl)) (Nat.zero_le _) (Nat.zero_le _) (fr_tIx (by unfold f_F_line; rw [if_pos h3]))
theorem fw_F_line {n : Nat} {I : fr_I} {r : Nat} {p2 : Int32} (hw : fr_wf n I) : fr_wf n (f_F_line I r p2).2 := by
  unfold f_F_line
  refine fw_ite_2 (fun h => ?_) (fun h => ?_)
  · skip
    exact hw
  · skip
    exact (fw_ui (k := 11) (j := 3) rfl hw)
def f_F_line_no (I : fr_I) (p1 : Int32) (p2 : Int32) : Int32 :=
  0
set_option maxRecDepth 10000 in
theorem ct_F_line_no (X : fr_X) (n : Nat) (I : fr_I) (J : fr_J) (p1 : Int32) (p2 : Int32) (hx : f_F_isRelay I p1 = 0) : fr_Ct X y_F_line c_F_line 3 (some .boolean) (fr_rm 1) [.ref (fr_ad X 0 0), .int p1, .int p2] (fr_Z0 X n) (fr_Z0 X n) I J (fr_pi (fun x I' J' => (f_F_line_no I p1 p2) = x ∧ I = I' ∧ J = J')) := by
  refine fr_ct (by decide) rfl rfl (Nat.le_of_ble_eq_true rfl) rfl (fun E => ?_)
  refine fr_aload_n d_F_line_0 rfl ?_
  refine fr_iload_n d_F_line_1 rfl ?_
  refine fr_callVi fr_q0 d_F_line_2 (ct_F_isRelay X n _ _ _) mv_F_44 rfl rfl rfl (Or.inr ⟨rfl, rfl⟩) rfl rfl ⟨Nat.le_of_ble_eq_true rfl, Nat.le_of_ble_eq_true rfl⟩ ⟨rfl, rfl⟩ ⟨Nat.zero_le _, Nat.zero_le _⟩ (Nat.le_of_ble_eq_true rfl) (fun x I' J' hp1 => ?_)
  obtain ⟨rfl, rfl, rfl⟩ := hp1
  rw [hx]
  refine fr_if_eq 18 d_F_line_5 rfl (fun _ => ?_) (fun h => absurd h (by decide))
  refine fr_iconst d_F_line_18 fr_i0 ?_
  exact fr_iret d_F_line_19 rfl (fr_nar_b (Or.inl rfl)) (Nat.zero_le _) (Nat.zero_le _) ⟨rfl, rfl, rfl⟩
def f_F_operate (I : fr_I) (r : Nat) (p2 : Int32) : Int32 × fr_I :=
  (1, (f_B_forget ((fr_ui I 10 r 0 p2)) r))
set_option maxRecDepth 10000 in
theorem ct_F_operate (X : fr_X) (n : Nat) (r : Nat) (hr : r < n) (I : fr_I) (J : fr_J) (p2 : Int32) (hw : fr_wf n I) (hb : p2 = 0 ∨ p2 = 1) : fr_Ct X y_F_operate c_F_operate 3 (some .boolean) (fr_rm 1) [.ref (fr_ad X 0 0), .int (nI r), .int p2] (fr_Z0 X n) (fr_Z0 X n) I J (fr_pi (fun x I' J' => (f_F_operate I r p2).1 = x ∧ (f_F_operate I r p2).2 = I' ∧ J = J')) := by
  refine fr_ct (by decide) rfl rfl (Nat.le_of_ble_eq_true rfl) rfl (fun E => ?_)
  refine fr_aload_n d_F_operate_0 rfl ?_
  refine fr_iload_n d_F_operate_1 rfl ?_
  refine fr_callVi fr_q0 d_F_operate_2 (ct_F_isRelay X n _ _ _) mv_F_44 rfl rfl rfl (Or.inr ⟨rfl, rfl⟩) rfl rfl ⟨Nat.le_of_ble_eq_true rfl, Nat.le_of_ble_eq_true rfl⟩ ⟨rfl, rfl⟩ ⟨Nat.zero_le _, Nat.zero_le _⟩ (Nat.le_of_ble_eq_true rfl) (fun x I' J' hp1 => ?_)
  obtain ⟨rfl, rfl, rfl⟩ := hp1
  rw [fr_isR_in hw hr]
  refine fr_if_ne 10 d_F_operate_5 rfl (fun _ => ?_) (fun h => absurd h (by decide))
  refine fr_aload_n d_F_operate_10 rfl ?_
  refine fr_getr (k' := 1) (r' := 0) d_F_operate_11 fl_F_11 rfl rfl rfl (Or.inr ⟨rfl, rfl⟩) ?_
  refine fr_iload_n d_F_operate_14 rfl ?_
  refine fr_aald (k' := 7) (r' := r) (r) d_F_operate_15 rfl rfl (if_pos hr) (Or.inr ⟨rfl, rfl⟩) rfl (fw_lt8 hw hr) (by decide) ?_
  refine fr_getr (k' := 10) (r' := r) d_F_operate_16 fl_F_77 rfl rfl rfl (Or.inl ⟨rfl, hr⟩) ?_
  refine fr_iload_n d_F_operate_19 rfl ?_
  refine fr_putz d_F_operate_20 fl_F_95 rfl rfl hb (Or.inl ⟨rfl, hr⟩) ?_
  refine fr_aload_n d_F_operate_23 rfl ?_
  refine fr_getr (k' := 1) (r' := 0) d_F_operate_24 fl_F_11 rfl rfl rfl (Or.inr ⟨rfl, rfl⟩) ?_
  refine fr_iload_n d_F_operate_27 rfl ?_
  refine fr_aald (k' := 7) (r' := r) (r) d_F_operate_28 rfl rfl (if_pos hr) (Or.inr ⟨rfl, rfl⟩) rfl (fw_lt8 hw hr) (by decide) ?_
  refine fr_getr (k' := 10) (r' := r) d_F_operate_29 fl_F_77 rfl rfl rfl (Or.inl ⟨rfl, hr⟩) ?_
  refine fr_callVv fr_q4 d_F_operate_32 (ct_B_forget X n r hr _ _) mv_F_98 rfl rfl rfl (Or.inl ⟨rfl, hr⟩) rfl rfl ⟨Nat.le_of_ble_eq_true rfl, Nat.le_of_ble_eq_true rfl⟩ ⟨rfl, rfl⟩ ⟨Nat.zero_le _, Nat.zero_le _⟩ (Nat.le_of_ble_eq_true rfl) (fun I' J' hp2 => ?_)
  obtain ⟨rfl, rfl⟩ := hp2
  refine fr_iconst d_F_operate_35 fr_i1 ?_
  exact fr_iret d_F_operate_36 rfl (fr_nar_b (Or.inr rfl)) (Nat.zero_le _) (Nat.zero_le _) (fr_tIx (rfl))
theorem fw_F_operate {n : Nat} {I : fr_I} {r : Nat} {p2 : Int32} (hw : fr_wf n I) : fr_wf n (f_F_operate I r p2).2 := by
  unfold f_F_operate
  exact (fw_B_forget (fw_ui (k := 10) (j := 0) rfl hw))
def f_F_operate_no (I : fr_I) (p1 : Int32) (p2 : Int32) : Int32 :=
  0
set_option maxRecDepth 10000 in
theorem ct_F_operate_no (X : fr_X) (n : Nat) (I : fr_I) (J : fr_J) (p1 : Int32) (p2 : Int32) (hx : f_F_isRelay I p1 = 0) : fr_Ct X y_F_operate c_F_operate 3 (some .boolean) (fr_rm 1) [.ref (fr_ad X 0 0), .int p1, .int p2] (fr_Z0 X n) (fr_Z0 X n) I J (fr_pi (fun x I' J' => (f_F_operate_no I p1 p2) = x ∧ I = I' ∧ J = J')) := by
  refine fr_ct (by decide) rfl rfl (Nat.le_of_ble_eq_true rfl) rfl (fun E => ?_)
  refine fr_aload_n d_F_operate_0 rfl ?_
  refine fr_iload_n d_F_operate_1 rfl ?_
  refine fr_callVi fr_q0 d_F_operate_2 (ct_F_isRelay X n _ _ _) mv_F_44 rfl rfl rfl (Or.inr ⟨rfl, rfl⟩) rfl rfl ⟨Nat.le_of_ble_eq_true rfl, Nat.le_of_ble_eq_true rfl⟩ ⟨rfl, rfl⟩ ⟨Nat.zero_le _, Nat.zero_le _⟩ (Nat.le_of_ble_eq_true rfl) (fun x I' J' hp1 => ?_)
  obtain ⟨rfl, rfl, rfl⟩ := hp1
  rw [hx]
  refine fr_if_ne 10 d_F_operate_5 rfl (fun h => absurd h (by decide)) (fun _ => ?_)
  refine fr_iconst d_F_operate_8 fr_i0 ?_
  exact fr_iret d_F_operate_9 rfl (fr_nar_b (Or.inl rfl)) (Nat.zero_le _) (Nat.zero_le _) ⟨rfl, rfl, rfl⟩
def f_F_time (I : fr_I) : Int32 :=
  (I 0 0 5)
set_option maxRecDepth 10000 in
theorem ct_F_time (X : fr_X) (n : Nat) (I : fr_I) (J : fr_J) : fr_Ct X y_F_time c_F_time 1 (some .int) (fr_rm 0) [.ref (fr_ad X 0 0)] (fr_Z0 X n) (fr_Z0 X n) I J (fr_pi (fun x I' J' => (f_F_time I) = x ∧ I = I' ∧ J = J')) := by
  refine fr_ct (by decide) rfl rfl (Nat.le_of_ble_eq_true rfl) rfl (fun E => ?_)
  refine fr_aload_n d_F_time_0 rfl ?_
  refine fr_geti d_F_time_1 fl_F_34 rfl rfl (Or.inr ⟨rfl, rfl⟩) ?_
  exact fr_iret d_F_time_4 rfl (fr_nar_i _) (Nat.zero_le _) (Nat.zero_le _) ⟨rfl, rfl, rfl⟩
def f_F_sum (I : fr_I) (J : fr_J) (r : Nat) : Int64 :=
  (J 8 r 7)
set_option maxRecDepth 10000 in
theorem ct_F_sum (X : fr_X) (n : Nat) (r : Nat) (hr : r < n) (I : fr_I) (J : fr_J)  (hw : fr_wf n I) : fr_Ct X y_F_sum c_F_sum 2 (some .long) (fr_rm 1) [.ref (fr_ad X 0 0), .int (nI r)] (fr_Z0 X n) (fr_Z0 X n) I J (fr_pl (fun x I' J' => (f_F_sum I J r) = x ∧ I = I' ∧ J = J')) := by
  refine fr_ct (by decide) rfl rfl (Nat.le_of_ble_eq_true rfl) rfl (fun E => ?_)
  refine fr_aload_n d_F_sum_0 rfl ?_
  refine fr_iload_n d_F_sum_1 rfl ?_
  refine fr_callVi fr_q0 d_F_sum_2 (ct_F_isRelay X n _ _ _) mv_F_44 rfl rfl rfl (Or.inr ⟨rfl, rfl⟩) rfl rfl ⟨Nat.le_of_ble_eq_true rfl, Nat.le_of_ble_eq_true rfl⟩ ⟨rfl, rfl⟩ ⟨Nat.zero_le _, Nat.zero_le _⟩ (Nat.le_of_ble_eq_true rfl) (fun x I' J' hp1 => ?_)
  obtain ⟨rfl, rfl, rfl⟩ := hp1
  rw [fr_isR_in hw hr]
  refine fr_if_eq 23 d_F_sum_5 rfl (fun h => absurd h (by decide)) (fun _ => ?_)
  refine fr_aload_n d_F_sum_8 rfl ?_
  refine fr_getr (k' := 1) (r' := 0) d_F_sum_9 fl_F_11 rfl rfl rfl (Or.inr ⟨rfl, rfl⟩) ?_
  refine fr_iload_n d_F_sum_12 rfl ?_
  refine fr_aald (k' := 7) (r' := r) (r) d_F_sum_13 rfl rfl (if_pos hr) (Or.inr ⟨rfl, rfl⟩) rfl (fw_lt8 hw hr) (by decide) ?_
  refine fr_getr (k' := 8) (r' := r) d_F_sum_14 fl_F_51 rfl rfl rfl (Or.inl ⟨rfl, hr⟩) ?_
  refine fr_getl d_F_sum_17 fl_F_122 rfl rfl (Or.inl ⟨rfl, hr⟩) ?_
  refine fr_goto 26 d_F_sum_20 rfl ?_
  exact fr_lret d_F_sum_26 rfl (Nat.zero_le _) (Nat.zero_le _) ⟨rfl, rfl, rfl⟩
def f_F_sum_no (I : fr_I) (p1 : Int32) : Int64 :=
  (-1)
set_option maxRecDepth 10000 in
theorem ct_F_sum_no (X : fr_X) (n : Nat) (I : fr_I) (J : fr_J) (p1 : Int32) (hx : f_F_isRelay I p1 = 0) : fr_Ct X y_F_sum c_F_sum 2 (some .long) (fr_rm 1) [.ref (fr_ad X 0 0), .int p1] (fr_Z0 X n) (fr_Z0 X n) I J (fr_pl (fun x I' J' => (f_F_sum_no I p1) = x ∧ I = I' ∧ J = J')) := by
  refine fr_ct (by decide) rfl rfl (Nat.le_of_ble_eq_true rfl) rfl (fun E => ?_)
  refine fr_aload_n d_F_sum_0 rfl ?_
  refine fr_iload_n d_F_sum_1 rfl ?_
  refine fr_callVi fr_q0 d_F_sum_2 (ct_F_isRelay X n _ _ _) mv_F_44 rfl rfl rfl (Or.inr ⟨rfl, rfl⟩) rfl rfl ⟨Nat.le_of_ble_eq_true rfl, Nat.le_of_ble_eq_true rfl⟩ ⟨rfl, rfl⟩ ⟨Nat.zero_le _, Nat.zero_le _⟩ (Nat.le_of_ble_eq_true rfl) (fun x I' J' hp1 => ?_)
  obtain ⟨rfl, rfl, rfl⟩ := hp1
  rw [hx]
  refine fr_if_eq 23 d_F_sum_5 rfl (fun _ => ?_) (fun h => absurd h (by decide))
  refine fr_ldc2 lc_F_126 d_F_sum_23 ?_
  exact fr_lret d_F_sum_26 rfl (Nat.zero_le _) (Nat.zero_le _) ⟨rfl, rfl, rfl⟩
def f_F_used (I : fr_I) (r : Nat) : Int32 :=
  (I 10 r 5)
set_option maxRecDepth 10000 in
theorem ct_F_used (X : fr_X) (n : Nat) (r : Nat) (hr : r < n) (I : fr_I) (J : fr_J)  (hw : fr_wf n I) : fr_Ct X y_F_used c_F_used 2 (some .int) (fr_rm 1) [.ref (fr_ad X 0 0), .int (nI r)] (fr_Z0 X n) (fr_Z0 X n) I J (fr_pi (fun x I' J' => (f_F_used I r) = x ∧ I = I' ∧ J = J')) := by
  refine fr_ct (by decide) rfl rfl (Nat.le_of_ble_eq_true rfl) rfl (fun E => ?_)
  refine fr_aload_n d_F_used_0 rfl ?_
  refine fr_iload_n d_F_used_1 rfl ?_
  refine fr_callVi fr_q0 d_F_used_2 (ct_F_isRelay X n _ _ _) mv_F_44 rfl rfl rfl (Or.inr ⟨rfl, rfl⟩) rfl rfl ⟨Nat.le_of_ble_eq_true rfl, Nat.le_of_ble_eq_true rfl⟩ ⟨rfl, rfl⟩ ⟨Nat.zero_le _, Nat.zero_le _⟩ (Nat.le_of_ble_eq_true rfl) (fun x I' J' hp1 => ?_)
  obtain ⟨rfl, rfl, rfl⟩ := hp1
  rw [fr_isR_in hw hr]
  refine fr_if_eq 23 d_F_used_5 rfl (fun h => absurd h (by decide)) (fun _ => ?_)
  refine fr_aload_n d_F_used_8 rfl ?_
  refine fr_getr (k' := 1) (r' := 0) d_F_used_9 fl_F_11 rfl rfl rfl (Or.inr ⟨rfl, rfl⟩) ?_
  refine fr_iload_n d_F_used_12 rfl ?_
  refine fr_aald (k' := 7) (r' := r) (r) d_F_used_13 rfl rfl (if_pos hr) (Or.inr ⟨rfl, rfl⟩) rfl (fw_lt8 hw hr) (by decide) ?_
  refine fr_getr (k' := 10) (r' := r) d_F_used_14 fl_F_77 rfl rfl rfl (Or.inl ⟨rfl, hr⟩) ?_
  refine fr_geti d_F_used_17 fl_F_128 rfl rfl (Or.inl ⟨rfl, hr⟩) ?_
  refine fr_goto 24 d_F_used_20 rfl ?_
  exact fr_iret d_F_used_24 rfl (fr_nar_i _) (Nat.zero_le _) (Nat.zero_le _) ⟨rfl, rfl, rfl⟩
def f_F_used_no (I : fr_I) (p1 : Int32) : Int32 :=
  (-1)
set_option maxRecDepth 10000 in
theorem ct_F_used_no (X : fr_X) (n : Nat) (I : fr_I) (J : fr_J) (p1 : Int32) (hx : f_F_isRelay I p1 = 0) : fr_Ct X y_F_used c_F_used 2 (some .int) (fr_rm 1) [.ref (fr_ad X 0 0), .int p1] (fr_Z0 X n) (fr_Z0 X n) I J (fr_pi (fun x I' J' => (f_F_used_no I p1) = x ∧ I = I' ∧ J = J')) := by
  refine fr_ct (by decide) rfl rfl (Nat.le_of_ble_eq_true rfl) rfl (fun E => ?_)
  refine fr_aload_n d_F_used_0 rfl ?_
  refine fr_iload_n d_F_used_1 rfl ?_
  refine fr_callVi fr_q0 d_F_used_2 (ct_F_isRelay X n _ _ _) mv_F_44 rfl rfl rfl (Or.inr ⟨rfl, rfl⟩) rfl rfl ⟨Nat.le_of_ble_eq_true rfl, Nat.le_of_ble_eq_true rfl⟩ ⟨rfl, rfl⟩ ⟨Nat.zero_le _, Nat.zero_le _⟩ (Nat.le_of_ble_eq_true rfl) (fun x I' J' hp1 => ?_)
  obtain ⟨rfl, rfl, rfl⟩ := hp1
  rw [hx]
  refine fr_if_eq 23 d_F_used_5 rfl (fun _ => ?_) (fun h => absurd h (by decide))
  refine fr_iconst d_F_used_23 fr_im1 ?_
  exact fr_iret d_F_used_24 rfl (fr_nar_i _) (Nat.zero_le _) (Nat.zero_le _) ⟨rfl, rfl, rfl⟩
def f_F_changes (I : fr_I) (r : Nat) : Int32 :=
  (I 11 r 4)
set_option maxRecDepth 10000 in
theorem ct_F_changes (X : fr_X) (n : Nat) (r : Nat) (hr : r < n) (I : fr_I) (J : fr_J)  (hw : fr_wf n I) : fr_Ct X y_F_changes c_F_changes 2 (some .int) (fr_rm 1) [.ref (fr_ad X 0 0), .int (nI r)] (fr_Z0 X n) (fr_Z0 X n) I J (fr_pi (fun x I' J' => (f_F_changes I r) = x ∧ I = I' ∧ J = J')) := by
  refine fr_ct (by decide) rfl rfl (Nat.le_of_ble_eq_true rfl) rfl (fun E => ?_)
  refine fr_aload_n d_F_changes_0 rfl ?_
  refine fr_iload_n d_F_changes_1 rfl ?_
  refine fr_callVi fr_q0 d_F_changes_2 (ct_F_isRelay X n _ _ _) mv_F_44 rfl rfl rfl (Or.inr ⟨rfl, rfl⟩) rfl rfl ⟨Nat.le_of_ble_eq_true rfl, Nat.le_of_ble_eq_true rfl⟩ ⟨rfl, rfl⟩ ⟨Nat.zero_le _, Nat.zero_le _⟩ (Nat.le_of_ble_eq_true rfl) (fun x I' J' hp1 => ?_)
  obtain ⟨rfl, rfl, rfl⟩ := hp1
  rw [fr_isR_in hw hr]
  refine fr_if_eq 23 d_F_changes_5 rfl (fun h => absurd h (by decide)) (fun _ => ?_)
  refine fr_aload_n d_F_changes_8 rfl ?_
  refine fr_getr (k' := 1) (r' := 0) d_F_changes_9 fl_F_11 rfl rfl rfl (Or.inr ⟨rfl, rfl⟩) ?_
  refine fr_iload_n d_F_changes_12 rfl ?_
  refine fr_aald (k' := 7) (r' := r) (r) d_F_changes_13 rfl rfl (if_pos hr) (Or.inr ⟨rfl, rfl⟩) rfl (fw_lt8 hw hr) (by decide) ?_
  refine fr_getr (k' := 11) (r' := r) d_F_changes_14 fl_F_86 rfl rfl rfl (Or.inl ⟨rfl, hr⟩) ?_
  refine fr_geti d_F_changes_17 fl_F_131 rfl rfl (Or.inl ⟨rfl, hr⟩) ?_
  refine fr_goto 24 d_F_changes_20 rfl ?_
  exact fr_iret d_F_changes_24 rfl (fr_nar_i _) (Nat.zero_le _) (Nat.zero_le _) ⟨rfl, rfl, rfl⟩
def f_F_changes_no (I : fr_I) (p1 : Int32) : Int32 :=
  (-1)
set_option maxRecDepth 10000 in
theorem ct_F_changes_no (X : fr_X) (n : Nat) (I : fr_I) (J : fr_J) (p1 : Int32) (hx : f_F_isRelay I p1 = 0) : fr_Ct X y_F_changes c_F_changes 2 (some .int) (fr_rm 1) [.ref (fr_ad X 0 0), .int p1] (fr_Z0 X n) (fr_Z0 X n) I J (fr_pi (fun x I' J' => (f_F_changes_no I p1) = x ∧ I = I' ∧ J = J')) := by
  refine fr_ct (by decide) rfl rfl (Nat.le_of_ble_eq_true rfl) rfl (fun E => ?_)
  refine fr_aload_n d_F_changes_0 rfl ?_
  refine fr_iload_n d_F_changes_1 rfl ?_
  refine fr_callVi fr_q0 d_F_changes_2 (ct_F_isRelay X n _ _ _) mv_F_44 rfl rfl rfl (Or.inr ⟨rfl, rfl⟩) rfl rfl ⟨Nat.le_of_ble_eq_true rfl, Nat.le_of_ble_eq_true rfl⟩ ⟨rfl, rfl⟩ ⟨Nat.zero_le _, Nat.zero_le _⟩ (Nat.le_of_ble_eq_true rfl) (fun x I' J' hp1 => ?_)
  obtain ⟨rfl, rfl, rfl⟩ := hp1
  rw [hx]
  refine fr_if_eq 23 d_F_changes_5 rfl (fun _ => ?_) (fun h => absurd h (by decide))
  refine fr_iconst d_F_changes_23 fr_im1 ?_
  exact fr_iret d_F_changes_24 rfl (fr_nar_i _) (Nat.zero_le _) (Nat.zero_le _) ⟨rfl, rfl, rfl⟩
def f_F_known (I : fr_I) (r : Nat) : Int32 :=
  if (I 7 r 0) = (-1) then
    (-1)
  else
    (I 11 r 5)
set_option maxRecDepth 10000 in
theorem ct_F_known (X : fr_X) (n : Nat) (r : Nat) (hr : r < n) (I : fr_I) (J : fr_J)  (hw : fr_wf n I) : fr_Ct X y_F_known c_F_known 2 (some .int) (fr_rm 1) [.ref (fr_ad X 0 0), .int (nI r)] (fr_Z0 X n) (fr_Z0 X n) I J (fr_pi (fun x I' J' => (f_F_known I r) = x ∧ I = I' ∧ J = J')) := by
  refine fr_ct (by decide) rfl rfl (Nat.le_of_ble_eq_true rfl) rfl (fun E => ?_)
  refine fr_aload_n d_F_known_0 rfl ?_
  refine fr_iload_n d_F_known_1 rfl ?_
  refine fr_callVi fr_q0 d_F_known_2 (ct_F_isRelay X n _ _ _) mv_F_44 rfl rfl rfl (Or.inr ⟨rfl, rfl⟩) rfl rfl ⟨Nat.le_of_ble_eq_true rfl, Nat.le_of_ble_eq_true rfl⟩ ⟨rfl, rfl⟩ ⟨Nat.zero_le _, Nat.zero_le _⟩ (Nat.le_of_ble_eq_true rfl) (fun x I' J' hp1 => ?_)
  obtain ⟨rfl, rfl, rfl⟩ := hp1
  rw [fr_isR_in hw hr]
  refine fr_if_eq 36 d_F_known_5 rfl (fun h => absurd h (by decide)) (fun _ => ?_)
  refine fr_aload_n d_F_known_8 rfl ?_
  refine fr_getr (k' := 1) (r' := 0) d_F_known_9 fl_F_11 rfl rfl rfl (Or.inr ⟨rfl, rfl⟩) ?_
  refine fr_iload_n d_F_known_12 rfl ?_
  refine fr_aald (k' := 7) (r' := r) (r) d_F_known_13 rfl rfl (if_pos hr) (Or.inr ⟨rfl, rfl⟩) rfl (fw_lt8 hw hr) (by decide) ?_
  refine fr_geti d_F_known_14 fl_F_134 rfl rfl (Or.inl ⟨rfl, hr⟩) ?_
  refine fr_iconst d_F_known_17 fr_im1 ?_
  refine fr_icmp_eq 36 d_F_known_18 rfl (fun h2 => ?_) (fun h2 => ?_)
  · skip
    refine fr_iconst d_F_known_36 fr_im1 ?_
    exact fr_iret d_F_known_37 rfl (fr_nar_i _) (Nat.zero_le _) (Nat.zero_le _) ⟨(by unfold f_F_known; rw [if_pos h2]), rfl, rfl⟩
  · skip
    refine fr_aload_n d_F_known_21 rfl ?_
    refine fr_getr (k' := 1) (r' := 0) d_F_known_22 fl_F_11 rfl rfl rfl (Or.inr ⟨rfl, rfl⟩) ?_
    refine fr_iload_n d_F_known_25 rfl ?_
    refine fr_aald (k' := 7) (r' := r) (r) d_F_known_26 rfl rfl (if_pos hr) (Or.inr ⟨rfl, rfl⟩) rfl (fw_lt8 hw hr) (by decide) ?_
    refine fr_getr (k' := 11) (r' := r) d_F_known_27 fl_F_86 rfl rfl rfl (Or.inl ⟨rfl, hr⟩) ?_
    refine fr_geti d_F_known_30 fl_F_137 rfl rfl (Or.inl ⟨rfl, hr⟩) ?_
    refine fr_goto 37 d_F_known_33 rfl ?_
    exact fr_iret d_F_known_37 rfl (fr_nar_i _) (Nat.zero_le _) (Nat.zero_le _) ⟨(by unfold f_F_known; rw [if_neg h2]), rfl, rfl⟩
def f_F_known_no (I : fr_I) (p1 : Int32) : Int32 :=
  (-1)
set_option maxRecDepth 10000 in
theorem ct_F_known_no (X : fr_X) (n : Nat) (I : fr_I) (J : fr_J) (p1 : Int32) (hx : f_F_isRelay I p1 = 0) : fr_Ct X y_F_known c_F_known 2 (some .int) (fr_rm 1) [.ref (fr_ad X 0 0), .int p1] (fr_Z0 X n) (fr_Z0 X n) I J (fr_pi (fun x I' J' => (f_F_known_no I p1) = x ∧ I = I' ∧ J = J')) := by
  refine fr_ct (by decide) rfl rfl (Nat.le_of_ble_eq_true rfl) rfl (fun E => ?_)
  refine fr_aload_n d_F_known_0 rfl ?_
  refine fr_iload_n d_F_known_1 rfl ?_
  refine fr_callVi fr_q0 d_F_known_2 (ct_F_isRelay X n _ _ _) mv_F_44 rfl rfl rfl (Or.inr ⟨rfl, rfl⟩) rfl rfl ⟨Nat.le_of_ble_eq_true rfl, Nat.le_of_ble_eq_true rfl⟩ ⟨rfl, rfl⟩ ⟨Nat.zero_le _, Nat.zero_le _⟩ (Nat.le_of_ble_eq_true rfl) (fun x I' J' hp1 => ?_)
  obtain ⟨rfl, rfl, rfl⟩ := hp1
  rw [hx]
  refine fr_if_eq 36 d_F_known_5 rfl (fun _ => ?_) (fun h => absurd h (by decide))
  refine fr_iconst d_F_known_36 fr_im1 ?_
  exact fr_iret d_F_known_37 rfl (fr_nar_i _) (Nat.zero_le _) (Nat.zero_le _) ⟨rfl, rfl, rfl⟩
def f_F_effective (I : fr_I) (r : Nat) : Int32 :=
  (I 8 r 5)
set_option maxRecDepth 10000 in
theorem ct_F_effective (X : fr_X) (n : Nat) (r : Nat) (hr : r < n) (I : fr_I) (J : fr_J)  (hw : fr_wf n I) : fr_Ct X y_F_effective c_F_effective 2 (some .int) (fr_rm 1) [.ref (fr_ad X 0 0), .int (nI r)] (fr_Z0 X n) (fr_Z0 X n) I J (fr_pi (fun x I' J' => (f_F_effective I r) = x ∧ I = I' ∧ J = J')) := by
  refine fr_ct (by decide) rfl rfl (Nat.le_of_ble_eq_true rfl) rfl (fun E => ?_)
  refine fr_aload_n d_F_effective_0 rfl ?_
  refine fr_iload_n d_F_effective_1 rfl ?_
  refine fr_callVi fr_q0 d_F_effective_2 (ct_F_isRelay X n _ _ _) mv_F_44 rfl rfl rfl (Or.inr ⟨rfl, rfl⟩) rfl rfl ⟨Nat.le_of_ble_eq_true rfl, Nat.le_of_ble_eq_true rfl⟩ ⟨rfl, rfl⟩ ⟨Nat.zero_le _, Nat.zero_le _⟩ (Nat.le_of_ble_eq_true rfl) (fun x I' J' hp1 => ?_)
  obtain ⟨rfl, rfl, rfl⟩ := hp1
  rw [fr_isR_in hw hr]
  refine fr_if_eq 23 d_F_effective_5 rfl (fun h => absurd h (by decide)) (fun _ => ?_)
  refine fr_aload_n d_F_effective_8 rfl ?_
  refine fr_getr (k' := 1) (r' := 0) d_F_effective_9 fl_F_11 rfl rfl rfl (Or.inr ⟨rfl, rfl⟩) ?_
  refine fr_iload_n d_F_effective_12 rfl ?_
  refine fr_aald (k' := 7) (r' := r) (r) d_F_effective_13 rfl rfl (if_pos hr) (Or.inr ⟨rfl, rfl⟩) rfl (fw_lt8 hw hr) (by decide) ?_
  refine fr_getr (k' := 8) (r' := r) d_F_effective_14 fl_F_51 rfl rfl rfl (Or.inl ⟨rfl, hr⟩) ?_
  refine fr_geti d_F_effective_17 fl_F_140 rfl rfl (Or.inl ⟨rfl, hr⟩) ?_
  refine fr_goto 24 d_F_effective_20 rfl ?_
  exact fr_iret d_F_effective_24 rfl (fr_nar_i _) (Nat.zero_le _) (Nat.zero_le _) ⟨rfl, rfl, rfl⟩
def f_F_effective_no (I : fr_I) (p1 : Int32) : Int32 :=
  (-1)
set_option maxRecDepth 10000 in
theorem ct_F_effective_no (X : fr_X) (n : Nat) (I : fr_I) (J : fr_J) (p1 : Int32) (hx : f_F_isRelay I p1 = 0) : fr_Ct X y_F_effective c_F_effective 2 (some .int) (fr_rm 1) [.ref (fr_ad X 0 0), .int p1] (fr_Z0 X n) (fr_Z0 X n) I J (fr_pi (fun x I' J' => (f_F_effective_no I p1) = x ∧ I = I' ∧ J = J')) := by
  refine fr_ct (by decide) rfl rfl (Nat.le_of_ble_eq_true rfl) rfl (fun E => ?_)
  refine fr_aload_n d_F_effective_0 rfl ?_
  refine fr_iload_n d_F_effective_1 rfl ?_
  refine fr_callVi fr_q0 d_F_effective_2 (ct_F_isRelay X n _ _ _) mv_F_44 rfl rfl rfl (Or.inr ⟨rfl, rfl⟩) rfl rfl ⟨Nat.le_of_ble_eq_true rfl, Nat.le_of_ble_eq_true rfl⟩ ⟨rfl, rfl⟩ ⟨Nat.zero_le _, Nat.zero_le _⟩ (Nat.le_of_ble_eq_true rfl) (fun x I' J' hp1 => ?_)
  obtain ⟨rfl, rfl, rfl⟩ := hp1
  rw [hx]
  refine fr_if_eq 23 d_F_effective_5 rfl (fun _ => ?_) (fun h => absurd h (by decide))
  refine fr_iconst d_F_effective_23 fr_im1 ?_
  exact fr_iret d_F_effective_24 rfl (fr_nar_i _) (Nat.zero_le _) (Nat.zero_le _) ⟨rfl, rfl, rfl⟩
def f_F_events (I : fr_I) : Int32 :=
  (I 4 0 2)
set_option maxRecDepth 10000 in
theorem ct_F_events (X : fr_X) (n : Nat) (I : fr_I) (J : fr_J) : fr_Ct X y_F_events c_F_events 1 (some .int) (fr_rm 0) [.ref (fr_ad X 0 0)] (fr_Z0 X n) (fr_Z0 X n) I J (fr_pi (fun x I' J' => (f_F_events I) = x ∧ I = I' ∧ J = J')) := by
  refine fr_ct (by decide) rfl rfl (Nat.le_of_ble_eq_true rfl) rfl (fun E => ?_)
  refine fr_aload_n d_F_events_0 rfl ?_
  refine fr_getr (k' := 4) (r' := 0) d_F_events_1 fl_F_26 rfl rfl rfl (Or.inr ⟨rfl, rfl⟩) ?_
  refine fr_geti d_F_events_4 fl_F_143 rfl rfl (Or.inr ⟨rfl, rfl⟩) ?_
  exact fr_iret d_F_events_7 rfl (fr_nar_i _) (Nat.zero_le _) (Nat.zero_le _) ⟨rfl, rfl, rfl⟩
end
section
theorem fr_has_in {I : fr_I} {q e : Nat} (hq : q < e) (he : I 4 0 2 = nI e) (he2 : e ≤ 200) : f_J_has I (nI q) = 1 := by
  unfold f_J_has
  rw [if_neg (nI_pos (by omega)), he, if_neg (nI_ge hq (by omega))]
/-- the relays below r, from i on, m of them: does one hold r back? -/
def fr_bl (I : fr_I) (r : Nat) : Nat → Nat → Int32
  | 0, _ => 0
  | m + 1, i => if (I 7 i 0) = (nI r) then (if (f_W_holdsBack I i (I 0 0 5)) = 0 then fr_bl I r m (i + 1) else 1) else fr_bl I r m (i + 1)
theorem fr_bl_n {I : fr_I} {r m i : Nat} (h : ¬ (I 7 i 0) = (nI r)) : fr_bl I r (m + 1) i = fr_bl I r m (i + 1) := if_neg h
theorem fr_bl_0 {I : fr_I} {r m i : Nat} (h : (I 7 i 0) = (nI r)) (h2 : (f_W_holdsBack I i (I 0 0 5)) = 0) : fr_bl I r (m + 1) i = fr_bl I r m (i + 1) := (if_pos h).trans (if_pos h2)
theorem fr_bl_1 {I : fr_I} {r m i : Nat} (h : (I 7 i 0) = (nI r)) (h2 : ¬ (f_W_holdsBack I i (I 0 0 5)) = 0) : fr_bl I r (m + 1) i = 1 := (if_pos h).trans (if_neg h2)
def f_F_event (I : fr_I) (q : Nat) : Int32 :=
  (I 5 0 q)
set_option maxRecDepth 10000 in
theorem ct_F_event (X : fr_X) (n : Nat) (q e : Nat) (I : fr_I) (J : fr_J)  (hq : q < e) (he : I 4 0 2 = nI e) (he2 : e ≤ 200) : fr_Ct X y_F_event c_F_event 2 (some .int) (fr_rm 1) [.ref (fr_ad X 0 0), .int (nI q)] (fr_Z0 X n) (fr_Z0 X n) I J (fr_pi (fun x I' J' => (f_F_event I q) = x ∧ I = I' ∧ J = J')) := by
  refine fr_ct (by decide) rfl rfl (Nat.le_of_ble_eq_true rfl) rfl (fun E => ?_)
  refine fr_aload_n d_F_event_0 rfl ?_
  refine fr_getr (k' := 4) (r' := 0) d_F_event_1 fl_F_26 rfl rfl rfl (Or.inr ⟨rfl, rfl⟩) ?_
  refine fr_iload_n d_F_event_4 rfl ?_
  refine fr_callVi fr_q1 d_F_event_5 (ct_J_has X n _ _ _) mv_F_146 rfl rfl rfl (Or.inr ⟨rfl, rfl⟩) rfl rfl ⟨Nat.le_of_ble_eq_true rfl, Nat.le_of_ble_eq_true rfl⟩ ⟨rfl, rfl⟩ ⟨Nat.zero_le _, Nat.zero_le _⟩ (Nat.le_of_ble_eq_true rfl) (fun x I' J' hp1 => ?_)
  obtain ⟨rfl, rfl, rfl⟩ := hp1
  rw [fr_has_in hq he he2]
  refine fr_if_eq 23 d_F_event_8 rfl (fun h => absurd h (by decide)) (fun _ => ?_)
  refine fr_aload_n d_F_event_11 rfl ?_
  refine fr_getr (k' := 4) (r' := 0) d_F_event_12 fl_F_26 rfl rfl rfl (Or.inr ⟨rfl, rfl⟩) ?_
  refine fr_getr (k' := 5) (r' := 0) d_F_event_15 fl_F_149 rfl rfl rfl (Or.inr ⟨rfl, rfl⟩) ?_
  refine fr_iload_n d_F_event_18 rfl ?_
  refine fr_iald (q) d_F_event_19 rfl rfl (Or.inr ⟨rfl, rfl⟩) rfl (Nat.lt_of_lt_of_le hq he2) (by decide) ?_
  refine fr_goto 24 d_F_event_20 rfl ?_
  exact fr_iret d_F_event_24 rfl (fr_nar_i _) (Nat.zero_le _) (Nat.zero_le _) ⟨rfl, rfl, rfl⟩
def f_F_event_no (I : fr_I) (p1 : Int32) : Int32 :=
  (-1)
set_option maxRecDepth 10000 in
theorem ct_F_event_no (X : fr_X) (n : Nat) (I : fr_I) (J : fr_J) (p1 : Int32) (hx : f_J_has I p1 = 0) : fr_Ct X y_F_event c_F_event 2 (some .int) (fr_rm 1) [.ref (fr_ad X 0 0), .int p1] (fr_Z0 X n) (fr_Z0 X n) I J (fr_pi (fun x I' J' => (f_F_event_no I p1) = x ∧ I = I' ∧ J = J')) := by
  refine fr_ct (by decide) rfl rfl (Nat.le_of_ble_eq_true rfl) rfl (fun E => ?_)
  refine fr_aload_n d_F_event_0 rfl ?_
  refine fr_getr (k' := 4) (r' := 0) d_F_event_1 fl_F_26 rfl rfl rfl (Or.inr ⟨rfl, rfl⟩) ?_
  refine fr_iload_n d_F_event_4 rfl ?_
  refine fr_callVi fr_q1 d_F_event_5 (ct_J_has X n _ _ _) mv_F_146 rfl rfl rfl (Or.inr ⟨rfl, rfl⟩) rfl rfl ⟨Nat.le_of_ble_eq_true rfl, Nat.le_of_ble_eq_true rfl⟩ ⟨rfl, rfl⟩ ⟨Nat.zero_le _, Nat.zero_le _⟩ (Nat.le_of_ble_eq_true rfl) (fun x I' J' hp1 => ?_)
  obtain ⟨rfl, rfl, rfl⟩ := hp1
  rw [hx]
  refine fr_if_eq 23 d_F_event_8 rfl (fun _ => ?_) (fun h => absurd h (by decide))
  refine fr_iconst d_F_event_23 fr_im1 ?_
  exact fr_iret d_F_event_24 rfl (fr_nar_i _) (Nat.zero_le _) (Nat.zero_le _) ⟨rfl, rfl, rfl⟩
def f_F_when (I : fr_I) (q : Nat) : Int32 :=
  (I 6 0 q)
set_option maxRecDepth 10000 in
theorem ct_F_when (X : fr_X) (n : Nat) (q e : Nat) (I : fr_I) (J : fr_J)  (hq : q < e) (he : I 4 0 2 = nI e) (he2 : e ≤ 200) : fr_Ct X y_F_when c_F_when 2 (some .int) (fr_rm 1) [.ref (fr_ad X 0 0), .int (nI q)] (fr_Z0 X n) (fr_Z0 X n) I J (fr_pi (fun x I' J' => (f_F_when I q) = x ∧ I = I' ∧ J = J')) := by
  refine fr_ct (by decide) rfl rfl (Nat.le_of_ble_eq_true rfl) rfl (fun E => ?_)
  refine fr_aload_n d_F_when_0 rfl ?_
  refine fr_getr (k' := 4) (r' := 0) d_F_when_1 fl_F_26 rfl rfl rfl (Or.inr ⟨rfl, rfl⟩) ?_
  refine fr_iload_n d_F_when_4 rfl ?_
  refine fr_callVi fr_q1 d_F_when_5 (ct_J_has X n _ _ _) mv_F_146 rfl rfl rfl (Or.inr ⟨rfl, rfl⟩) rfl rfl ⟨Nat.le_of_ble_eq_true rfl, Nat.le_of_ble_eq_true rfl⟩ ⟨rfl, rfl⟩ ⟨Nat.zero_le _, Nat.zero_le _⟩ (Nat.le_of_ble_eq_true rfl) (fun x I' J' hp1 => ?_)
  obtain ⟨rfl, rfl, rfl⟩ := hp1
  rw [fr_has_in hq he he2]
  refine fr_if_eq 23 d_F_when_8 rfl (fun h => absurd h (by decide)) (fun _ => ?_)
  refine fr_aload_n d_F_when_11 rfl ?_
  refine fr_getr (k' := 4) (r' := 0) d_F_when_12 fl_F_26 rfl rfl rfl (Or.inr ⟨rfl, rfl⟩) ?_
  refine fr_getr (k' := 6) (r' := 0) d_F_when_15 fl_F_152 rfl rfl rfl (Or.inr ⟨rfl, rfl⟩) ?_
  refine fr_iload_n d_F_when_18 rfl ?_
  refine fr_iald (q) d_F_when_19 rfl rfl (Or.inr ⟨rfl, rfl⟩) rfl (Nat.lt_of_lt_of_le hq he2) (by decide) ?_
  refine fr_goto 24 d_F_when_20 rfl ?_
  exact fr_iret d_F_when_24 rfl (fr_nar_i _) (Nat.zero_le _) (Nat.zero_le _) ⟨rfl, rfl, rfl⟩
def f_F_when_no (I : fr_I) (p1 : Int32) : Int32 :=
  (-1)
set_option maxRecDepth 10000 in
theorem ct_F_when_no (X : fr_X) (n : Nat) (I : fr_I) (J : fr_J) (p1 : Int32) (hx : f_J_has I p1 = 0) : fr_Ct X y_F_when c_F_when 2 (some .int) (fr_rm 1) [.ref (fr_ad X 0 0), .int p1] (fr_Z0 X n) (fr_Z0 X n) I J (fr_pi (fun x I' J' => (f_F_when_no I p1) = x ∧ I = I' ∧ J = J')) := by
  refine fr_ct (by decide) rfl rfl (Nat.le_of_ble_eq_true rfl) rfl (fun E => ?_)
  refine fr_aload_n d_F_when_0 rfl ?_
  refine fr_getr (k' := 4) (r' := 0) d_F_when_1 fl_F_26 rfl rfl rfl (Or.inr ⟨rfl, rfl⟩) ?_
  refine fr_iload_n d_F_when_4 rfl ?_
  refine fr_callVi fr_q1 d_F_when_5 (ct_J_has X n _ _ _) mv_F_146 rfl rfl rfl (Or.inr ⟨rfl, rfl⟩) rfl rfl ⟨Nat.le_of_ble_eq_true rfl, Nat.le_of_ble_eq_true rfl⟩ ⟨rfl, rfl⟩ ⟨Nat.zero_le _, Nat.zero_le _⟩ (Nat.le_of_ble_eq_true rfl) (fun x I' J' hp1 => ?_)
  obtain ⟨rfl, rfl, rfl⟩ := hp1
  rw [hx]
  refine fr_if_eq 23 d_F_when_8 rfl (fun _ => ?_) (fun h => absurd h (by decide))
  refine fr_iconst d_F_when_23 fr_im1 ?_
  exact fr_iret d_F_when_24 rfl (fr_nar_i _) (Nat.zero_le _) (Nat.zero_le _) ⟨rfl, rfl, rfl⟩
def f_F_moveBreaker (I : fr_I) (r : Nat) : fr_I :=
  if (f_B_mustOpen I r (I 0 0 5)) = 0 then
    if (f_B_mustClose I r (I 0 0 5)) = 0 then
      if (f_B_mustReclaim I r (I 0 0 5)) = 0 then
        I
      else
        (f_J_add ((fr_ui I 10 r 5 0)) 4 (nI r) ((fr_ui I 10 r 5 0) 0 0 5))
    else
      (f_J_add ((f_B_closeAgain I r (I 0 0 5))) 3 (nI r) ((f_B_closeAgain I r (I 0 0 5)) 0 0 5))
  else
    if (I 10 r 4) = 0 then
      (f_J_add ((fr_ui (f_J_add ((f_B_open I r)) 2 (nI r) ((f_B_open I r) 0 0 5)) 10 r 2 1)) 5 (nI r) ((fr_ui (f_J_add ((f_B_open I r)) 2 (nI r) ((f_B_open I r) 0 0 5)) 10 r 2 1) 0 0 5))
    else
      if (if (I 7 r 5) ≤ (I 10 r 5) then (0 : Int32) else 1) = 0 then
        (f_J_add ((fr_ui (f_J_add ((f_B_open I r)) 2 (nI r) ((f_B_open I r) 0 0 5)) 10 r 2 1)) 5 (nI r) ((fr_ui (f_J_add ((f_B_open I r)) 2 (nI r) ((f_B_open I r) 0 0 5)) 10 r 2 1) 0 0 5))
      else
        (f_B_awaitClosing ((f_J_add ((f_B_open I r)) 2 (nI r) ((f_B_open I r) 0 0 5))) r ((f_J_add ((f_B_open I r)) 2 (nI r) ((f_B_open I r) 0 0 5)) 0 0 5))
set_option maxRecDepth 10000 in
theorem ct_F_moveBreaker (X : fr_X) (n : Nat) (r : Nat) (hr : r < n) (I : fr_I) (J : fr_J)  (hw : fr_wf n I) : fr_Ct X y_F_moveBreaker c_F_moveBreaker 4 none (fr_rm 2) [.ref (fr_ad X 0 0), .int (nI r)] (fr_Z0 X n) (fr_Z0 X n) I J (fr_pv (fun I' J' => (f_F_moveBreaker I r) = I' ∧ J = J')) := by
  refine fr_ct (by decide) rfl rfl (Nat.le_of_ble_eq_true rfl) rfl (fun E => ?_)
  refine fr_aload_n d_F_moveBreaker_0 rfl ?_
  refine fr_getr (k' := 1) (r' := 0) d_F_moveBreaker_1 fl_F_11 rfl rfl rfl (Or.inr ⟨rfl, rfl⟩) ?_
  refine fr_iload_n d_F_moveBreaker_4 rfl ?_
  refine fr_aald (k' := 7) (r' := r) (r) d_F_moveBreaker_5 rfl rfl (if_pos hr) (Or.inr ⟨rfl, rfl⟩) rfl (fw_lt8 hw hr) (by decide) ?_
  refine fr_getr (k' := 10) (r' := r) d_F_moveBreaker_6 fl_F_77 rfl rfl rfl (Or.inl ⟨rfl, hr⟩) ?_
  refine fr_astore_n (L' := [(2, .ref _), (0, .ref _), (1, .int _)]) d_F_moveBreaker_9 (by decide) rfl ?_
  refine fr_aload_n d_F_moveBreaker_10 rfl ?_
  refine fr_aload_n d_F_moveBreaker_11 rfl ?_
  refine fr_geti d_F_moveBreaker_12 fl_F_34 rfl rfl (Or.inr ⟨rfl, rfl⟩) ?_
  refine fr_callVi fr_q4 d_F_moveBreaker_15 (ct_B_mustOpen X n r hr _ _ _) mv_F_173 rfl rfl rfl (Or.inl ⟨rfl, hr⟩) rfl rfl ⟨Nat.le_of_ble_eq_true rfl, Nat.le_of_ble_eq_true rfl⟩ ⟨rfl, rfl⟩ ⟨Nat.zero_le _, Nat.zero_le _⟩ (Nat.le_of_ble_eq_true rfl) (fun x I' J' hp1 => ?_)
  obtain ⟨rfl, rfl, rfl⟩ := hp1
  refine fr_if_eq 103 d_F_moveBreaker_18 rfl (fun h2 => ?_) (fun h2 => ?_)
  · skip
    refine fr_aload_n d_F_moveBreaker_103 rfl ?_
    refine fr_aload_n d_F_moveBreaker_104 rfl ?_
    refine fr_geti d_F_moveBreaker_105 fl_F_34 rfl rfl (Or.inr ⟨rfl, rfl⟩) ?_
    refine fr_callVi fr_q4 d_F_moveBreaker_108 (ct_B_mustClose X n r hr _ _ _) mv_F_191 rfl rfl rfl (Or.inl ⟨rfl, hr⟩) rfl rfl ⟨Nat.le_of_ble_eq_true rfl, Nat.le_of_ble_eq_true rfl⟩ ⟨rfl, rfl⟩ ⟨Nat.zero_le _, Nat.zero_le _⟩ (Nat.le_of_ble_eq_true rfl) (fun x I' J' hp3 => ?_)
    obtain ⟨rfl, rfl, rfl⟩ := hp3
    refine fr_if_eq 138 d_F_moveBreaker_111 rfl (fun h4 => ?_) (fun h4 => ?_)
    · skip
      refine fr_aload_n d_F_moveBreaker_138 rfl ?_
      refine fr_aload_n d_F_moveBreaker_139 rfl ?_
      refine fr_geti d_F_moveBreaker_140 fl_F_34 rfl rfl (Or.inr ⟨rfl, rfl⟩) ?_
      refine fr_callVi fr_q4 d_F_moveBreaker_143 (ct_B_mustReclaim X n r hr _ _ _) mv_F_197 rfl rfl rfl (Or.inl ⟨rfl, hr⟩) rfl rfl ⟨Nat.le_of_ble_eq_true rfl, Nat.le_of_ble_eq_true rfl⟩ ⟨rfl, rfl⟩ ⟨Nat.zero_le _, Nat.zero_le _⟩ (Nat.le_of_ble_eq_true rfl) (fun x I' J' hp5 => ?_)
      obtain ⟨rfl, rfl, rfl⟩ := hp5
      refine fr_if_eq 167 d_F_moveBreaker_146 rfl (fun h6 => ?_) (fun h6 => ?_)
      · skip
        exact fr_vret d_F_moveBreaker_167 rfl (Nat.zero_le _) (Nat.zero_le _) ⟨(by unfold f_F_moveBreaker; rw [if_pos h2, if_pos h4, if_pos h6]), rfl⟩
      · skip
        refine fr_aload_n d_F_moveBreaker_149 rfl ?_
        refine fr_iconst d_F_moveBreaker_150 fr_i0 ?_
        refine fr_puti d_F_moveBreaker_151 fl_F_128 rfl rfl (Or.inl ⟨rfl, hr⟩) ?_
        refine fr_aload_n d_F_moveBreaker_154 rfl ?_
        refine fr_getr (k' := 4) (r' := 0) d_F_moveBreaker_155 fl_F_26 rfl rfl rfl (Or.inr ⟨rfl, rfl⟩) ?_
        refine fr_iconst d_F_moveBreaker_158 fr_i4 ?_
        refine fr_iload_n d_F_moveBreaker_159 rfl ?_
        refine fr_aload_n d_F_moveBreaker_160 rfl ?_
        refine fr_geti d_F_moveBreaker_161 fl_F_34 rfl rfl (Or.inr ⟨rfl, rfl⟩) ?_
        refine fr_callVv fr_q1 d_F_moveBreaker_164 (ct_J_add X n _ _ _ _ _ (fw_ui (k := 10) (j := 5) rfl hw)) mv_F_182 rfl rfl rfl (Or.inr ⟨rfl, rfl⟩) rfl rfl ⟨Nat.le_of_ble_eq_true rfl, Nat.le_of_ble_eq_true rfl⟩ ⟨rfl, rfl⟩ ⟨Nat.zero_le _, Nat.zero_le _⟩ (Nat.le_of_ble_eq_true rfl) (fun I' J' hp7 => ?_)
        obtain ⟨rfl, rfl⟩ := hp7
        exact fr_vret d_F_moveBreaker_167 rfl (Nat.zero_le _) (Nat.zero_le _) ⟨(by unfold f_F_moveBreaker; rw [if_pos h2, if_pos h4, if_neg h6]), rfl⟩
    · skip
      refine fr_aload_n d_F_moveBreaker_114 rfl ?_
      refine fr_aload_n d_F_moveBreaker_115 rfl ?_
      refine fr_geti d_F_moveBreaker_116 fl_F_34 rfl rfl (Or.inr ⟨rfl, rfl⟩) ?_
      refine fr_callVv fr_q4 d_F_moveBreaker_119 (ct_B_closeAgain X n r hr _ _ _) mv_F_194 rfl rfl rfl (Or.inl ⟨rfl, hr⟩) rfl rfl ⟨Nat.le_of_ble_eq_true rfl, Nat.le_of_ble_eq_true rfl⟩ ⟨rfl, rfl⟩ ⟨Nat.zero_le _, Nat.zero_le _⟩ (Nat.le_of_ble_eq_true rfl) (fun I' J' hp8 => ?_)
      obtain ⟨rfl, rfl⟩ := hp8
      refine fr_aload_n d_F_moveBreaker_122 rfl ?_
      refine fr_getr (k' := 4) (r' := 0) d_F_moveBreaker_123 fl_F_26 rfl rfl rfl (Or.inr ⟨rfl, rfl⟩) ?_
      refine fr_iconst d_F_moveBreaker_126 fr_i3 ?_
      refine fr_iload_n d_F_moveBreaker_127 rfl ?_
      refine fr_aload_n d_F_moveBreaker_128 rfl ?_
      refine fr_geti d_F_moveBreaker_129 fl_F_34 rfl rfl (Or.inr ⟨rfl, rfl⟩) ?_
      refine fr_callVv fr_q1 d_F_moveBreaker_132 (ct_J_add X n _ _ _ _ _ (fw_B_closeAgain hw)) mv_F_182 rfl rfl rfl (Or.inr ⟨rfl, rfl⟩) rfl rfl ⟨Nat.le_of_ble_eq_true rfl, Nat.le_of_ble_eq_true rfl⟩ ⟨rfl, rfl⟩ ⟨Nat.zero_le _, Nat.zero_le _⟩ (Nat.le_of_ble_eq_true rfl) (fun I' J' hp9 => ?_)
      obtain ⟨rfl, rfl⟩ := hp9
      refine fr_goto 167 d_F_moveBreaker_135 rfl ?_
      exact fr_vret d_F_moveBreaker_167 rfl (Nat.zero_le _) (Nat.zero_le _) ⟨(by unfold f_F_moveBreaker; rw [if_pos h2, if_neg h4]), rfl⟩
  · skip
    refine fr_aload_n d_F_moveBreaker_21 rfl ?_
    refine fr_geti d_F_moveBreaker_22 fl_F_176 rfl rfl (Or.inl ⟨rfl, hr⟩) ?_
    refine fr_if_eq 48 d_F_moveBreaker_25 rfl (fun h10 => ?_) (fun h10 => ?_)
    · skip
      refine fr_iconst d_F_moveBreaker_48 fr_i0 ?_
      refine fr_istore_n (L' := [(3, .int _), (2, .ref _), (0, .ref _), (1, .int _)]) d_F_moveBreaker_49 (by decide) rfl ?_
      refine fr_aload_n d_F_moveBreaker_50 rfl ?_
      refine fr_callVv fr_q4 d_F_moveBreaker_51 (ct_B_open X n r hr _ _) mv_F_179 rfl rfl rfl (Or.inl ⟨rfl, hr⟩) rfl rfl ⟨Nat.le_of_ble_eq_true rfl, Nat.le_of_ble_eq_true rfl⟩ ⟨rfl, rfl⟩ ⟨Nat.zero_le _, Nat.zero_le _⟩ (Nat.le_of_ble_eq_true rfl) (fun I' J' hp11 => ?_)
      obtain ⟨rfl, rfl⟩ := hp11
      refine fr_aload_n d_F_moveBreaker_54 rfl ?_
      refine fr_getr (k' := 4) (r' := 0) d_F_moveBreaker_55 fl_F_26 rfl rfl rfl (Or.inr ⟨rfl, rfl⟩) ?_
      refine fr_iconst d_F_moveBreaker_58 fr_i2 ?_
      refine fr_iload_n d_F_moveBreaker_59 rfl ?_
      refine fr_aload_n d_F_moveBreaker_60 rfl ?_
      refine fr_geti d_F_moveBreaker_61 fl_F_34 rfl rfl (Or.inr ⟨rfl, rfl⟩) ?_
      refine fr_callVv fr_q1 d_F_moveBreaker_64 (ct_J_add X n _ _ _ _ _ (fw_B_open hw)) mv_F_182 rfl rfl rfl (Or.inr ⟨rfl, rfl⟩) rfl rfl ⟨Nat.le_of_ble_eq_true rfl, Nat.le_of_ble_eq_true rfl⟩ ⟨rfl, rfl⟩ ⟨Nat.zero_le _, Nat.zero_le _⟩ (Nat.le_of_ble_eq_true rfl) (fun I' J' hp12 => ?_)
      obtain ⟨rfl, rfl⟩ := hp12
      refine fr_iload_n d_F_moveBreaker_67 rfl ?_
      refine fr_if_eq 82 d_F_moveBreaker_68 rfl (fun _ => ?_) (fun h => absurd h (by decide))
      refine fr_aload_n d_F_moveBreaker_82 rfl ?_
      refine fr_iconst d_F_moveBreaker_83 fr_i1 ?_
      refine fr_putz d_F_moveBreaker_84 fl_F_188 rfl rfl (Or.inr rfl) (Or.inl ⟨rfl, hr⟩) ?_
      refine fr_aload_n d_F_moveBreaker_87 rfl ?_
      refine fr_getr (k' := 4) (r' := 0) d_F_moveBreaker_88 fl_F_26 rfl rfl rfl (Or.inr ⟨rfl, rfl⟩) ?_
      refine fr_iconst d_F_moveBreaker_91 fr_i5 ?_
      refine fr_iload_n d_F_moveBreaker_92 rfl ?_
      refine fr_aload_n d_F_moveBreaker_93 rfl ?_
      refine fr_geti d_F_moveBreaker_94 fl_F_34 rfl rfl (Or.inr ⟨rfl, rfl⟩) ?_
      refine fr_callVv fr_q1 d_F_moveBreaker_97 (ct_J_add X n _ _ _ _ _ (fw_ui (k := 10) (j := 2) rfl (fw_J_add (fw_B_open hw)))) mv_F_182 rfl rfl rfl (Or.inr ⟨rfl, rfl⟩) rfl rfl ⟨Nat.le_of_ble_eq_true rfl, Nat.le_of_ble_eq_true rfl⟩ ⟨rfl, rfl⟩ ⟨Nat.zero_le _, Nat.zero_le _⟩ (Nat.le_of_ble_eq_true rfl) (fun I' J' hp13 => ?_)
      obtain ⟨rfl, rfl⟩ := hp13
      refine fr_goto 167 d_F_moveBreaker_100 rfl ?_
      exact fr_vret d_F_moveBreaker_167 rfl (Nat.zero_le _) (Nat.zero_le _) ⟨(by unfold f_F_moveBreaker; rw [if_neg h2, if_pos h10]), rfl⟩
    · skip
      refine fr_aload_n d_F_moveBreaker_28 rfl ?_
      refine fr_geti d_F_moveBreaker_29 fl_F_128 rfl rfl (Or.inl ⟨rfl, hr⟩) ?_
      refine fr_aload_n d_F_moveBreaker_32 rfl ?_
      refine fr_getr (k' := 1) (r' := 0) d_F_moveBreaker_33 fl_F_11 rfl rfl rfl (Or.inr ⟨rfl, rfl⟩) ?_
      refine fr_iload_n d_F_moveBreaker_36 rfl ?_
      refine fr_aald (k' := 7) (r' := r) (r) d_F_moveBreaker_37 rfl rfl (if_pos hr) (Or.inr ⟨rfl, rfl⟩) rfl (fw_lt8 hw hr) (by decide) ?_
      refine fr_geti d_F_moveBreaker_38 fl_F_65 rfl rfl (Or.inl ⟨rfl, hr⟩) ?_
      refine fr_ticmp_ge (t := 48) (j := 49) d_F_moveBreaker_41 rfl (fun k => fr_iconst d_F_moveBreaker_44 fr_i1 (fr_goto 49 d_F_moveBreaker_45 rfl k)) (fun k => fr_iconst d_F_moveBreaker_48 fr_i0 k) ?_
      refine fr_istore_n (L' := [(3, .int _), (2, .ref _), (0, .ref _), (1, .int _)]) d_F_moveBreaker_49 (by decide) rfl ?_
      refine fr_aload_n d_F_moveBreaker_50 rfl ?_
      refine fr_callVv fr_q4 d_F_moveBreaker_51 (ct_B_open X n r hr _ _) mv_F_179 rfl rfl rfl (Or.inl ⟨rfl, hr⟩) rfl rfl ⟨Nat.le_of_ble_eq_true rfl, Nat.le_of_ble_eq_true rfl⟩ ⟨rfl, rfl⟩ ⟨Nat.zero_le _, Nat.zero_le _⟩ (Nat.le_of_ble_eq_true rfl) (fun I' J' hp14 => ?_)
      obtain ⟨rfl, rfl⟩ := hp14
      refine fr_aload_n d_F_moveBreaker_54 rfl ?_
      refine fr_getr (k' := 4) (r' := 0) d_F_moveBreaker_55 fl_F_26 rfl rfl rfl (Or.inr ⟨rfl, rfl⟩) ?_
      refine fr_iconst d_F_moveBreaker_58 fr_i2 ?_
      refine fr_iload_n d_F_moveBreaker_59 rfl ?_
      refine fr_aload_n d_F_moveBreaker_60 rfl ?_
      refine fr_geti d_F_moveBreaker_61 fl_F_34 rfl rfl (Or.inr ⟨rfl, rfl⟩) ?_
      refine fr_callVv fr_q1 d_F_moveBreaker_64 (ct_J_add X n _ _ _ _ _ (fw_B_open hw)) mv_F_182 rfl rfl rfl (Or.inr ⟨rfl, rfl⟩) rfl rfl ⟨Nat.le_of_ble_eq_true rfl, Nat.le_of_ble_eq_true rfl⟩ ⟨rfl, rfl⟩ ⟨Nat.zero_le _, Nat.zero_le _⟩ (Nat.le_of_ble_eq_true rfl) (fun I' J' hp15 => ?_)
      obtain ⟨rfl, rfl⟩ := hp15
      refine fr_iload_n d_F_moveBreaker_67 rfl ?_
      refine fr_if_eq 82 d_F_moveBreaker_68 rfl (fun h16 => ?_) (fun h16 => ?_)
      · skip
        refine fr_aload_n d_F_moveBreaker_82 rfl ?_
        refine fr_iconst d_F_moveBreaker_83 fr_i1 ?_
        refine fr_putz d_F_moveBreaker_84 fl_F_188 rfl rfl (Or.inr rfl) (Or.inl ⟨rfl, hr⟩) ?_
        refine fr_aload_n d_F_moveBreaker_87 rfl ?_
        refine fr_getr (k' := 4) (r' := 0) d_F_moveBreaker_88 fl_F_26 rfl rfl rfl (Or.inr ⟨rfl, rfl⟩) ?_
        refine fr_iconst d_F_moveBreaker_91 fr_i5 ?_
        refine fr_iload_n d_F_moveBreaker_92 rfl ?_
        refine fr_aload_n d_F_moveBreaker_93 rfl ?_
        refine fr_geti d_F_moveBreaker_94 fl_F_34 rfl rfl (Or.inr ⟨rfl, rfl⟩) ?_
        refine fr_callVv fr_q1 d_F_moveBreaker_97 (ct_J_add X n _ _ _ _ _ (fw_ui (k := 10) (j := 2) rfl (fw_J_add (fw_B_open hw)))) mv_F_182 rfl rfl rfl (Or.inr ⟨rfl, rfl⟩) rfl rfl ⟨Nat.le_of_ble_eq_true rfl, Nat.le_of_ble_eq_true rfl⟩ ⟨rfl, rfl⟩ ⟨Nat.zero_le _, Nat.zero_le _⟩ (Nat.le_of_ble_eq_true rfl) (fun I' J' hp17 => ?_)
        obtain ⟨rfl, rfl⟩ := hp17
        refine fr_goto 167 d_F_moveBreaker_100 rfl ?_
        exact fr_vret d_F_moveBreaker_167 rfl (Nat.zero_le _) (Nat.zero_le _) ⟨(by unfold f_F_moveBreaker; rw [if_neg h2, if_neg h10, if_pos h16]), rfl⟩
      · skip
        refine fr_aload_n d_F_moveBreaker_71 rfl ?_
        refine fr_aload_n d_F_moveBreaker_72 rfl ?_
        refine fr_geti d_F_moveBreaker_73 fl_F_34 rfl rfl (Or.inr ⟨rfl, rfl⟩) ?_
        refine fr_callVv fr_q4 d_F_moveBreaker_76 (ct_B_awaitClosing X n r hr _ _ _) mv_F_185 rfl rfl rfl (Or.inl ⟨rfl, hr⟩) rfl rfl ⟨Nat.le_of_ble_eq_true rfl, Nat.le_of_ble_eq_true rfl⟩ ⟨rfl, rfl⟩ ⟨Nat.zero_le _, Nat.zero_le _⟩ (Nat.le_of_ble_eq_true rfl) (fun I' J' hp18 => ?_)
        obtain ⟨rfl, rfl⟩ := hp18
        refine fr_goto 100 d_F_moveBreaker_79 rfl ?_
        refine fr_goto 167 d_F_moveBreaker_100 rfl ?_
        exact fr_vret d_F_moveBreaker_167 rfl (Nat.zero_le _) (Nat.zero_le _) ⟨(by unfold f_F_moveBreaker; rw [if_neg h2, if_neg h10, if_neg h16]), rfl⟩
theorem fw_F_moveBreaker {n : Nat} {I : fr_I} {r : Nat} (hw : fr_wf n I) : fr_wf n (f_F_moveBreaker I r) := by
  unfold f_F_moveBreaker
  refine fw_ite (fun h => ?_) (fun h => ?_)
  · skip
    refine fw_ite (fun h => ?_) (fun h => ?_)
    · skip
      refine fw_ite (fun h => ?_) (fun h => ?_)
      · skip
        exact hw
      · skip
        exact (fw_J_add (fw_ui (k := 10) (j := 5) rfl hw))
    · skip
      exact (fw_J_add (fw_B_closeAgain hw))
  · skip
    refine fw_ite (fun h => ?_) (fun h => ?_)
    · skip
      exact (fw_J_add (fw_ui (k := 10) (j := 2) rfl (fw_J_add (fw_B_open hw))))
    · skip
      refine fw_ite (fun h => ?_) (fun h => ?_)
      · skip
        exact (fw_J_add (fw_ui (k := 10) (j := 2) rfl (fw_J_add (fw_B_open hw))))
      · skip
        exact (fw_B_awaitClosing (fw_J_add (fw_B_open hw)))
def f_F_failIfDue (I : fr_I) (r : Nat) : fr_I :=
  if (I 8 r 6) = 0 then
    I
  else
    if (f_B_isOverdue I r (I 0 0 5) (I 7 r 6)) = 0 then
      I
    else
      if ((f_J_add ((fr_ui I 10 r 3 1)) 6 (nI r) ((fr_ui I 10 r 3 1) 0 0 5)) 7 r 0) = (-1) then
        (f_J_add ((fr_ui I 10 r 3 1)) 6 (nI r) ((fr_ui I 10 r 3 1) 0 0 5))
      else
        if (f_B_takesOrder ((f_J_add ((fr_ui I 10 r 3 1)) 6 (nI r) ((fr_ui I 10 r 3 1) 0 0 5))) (((f_J_add ((fr_ui I 10 r 3 1)) 6 (nI r) ((fr_ui I 10 r 3 1) 0 0 5)) 7 r 0).toNatClampNeg)) = 0 then
          (f_J_add ((fr_ui I 10 r 3 1)) 6 (nI r) ((fr_ui I 10 r 3 1) 0 0 5))
        else
          (f_J_add ((f_B_giveOrder ((f_J_add ((fr_ui I 10 r 3 1)) 6 (nI r) ((fr_ui I 10 r 3 1) 0 0 5))) (((f_J_add ((fr_ui I 10 r 3 1)) 6 (nI r) ((fr_ui I 10 r 3 1) 0 0 5)) 7 r 0).toNatClampNeg) ((f_J_add ((fr_ui I 10 r 3 1)) 6 (nI r) ((fr_ui I 10 r 3 1) 0 0 5)) 0 0 5) 0)) 7 ((f_J_add ((fr_ui I 10 r 3 1)) 6 (nI r) ((fr_ui I 10 r 3 1) 0 0 5)) 7 r 0) ((f_B_giveOrder ((f_J_add ((fr_ui I 10 r 3 1)) 6 (nI r) ((fr_ui I 10 r 3 1) 0 0 5))) (((f_J_add ((fr_ui I 10 r 3 1)) 6 (nI r) ((fr_ui I 10 r 3 1) 0 0 5)) 7 r 0).toNatClampNeg) ((f_J_add ((fr_ui I 10 r 3 1)) 6 (nI r) ((fr_ui I 10 r 3 1) 0 0 5)) 0 0 5) 0) 0 0 5))
set_option maxRecDepth 10000 in
theorem ct_F_failIfDue (X : fr_X) (n : Nat) (r : Nat) (hr : r < n) (I : fr_I) (J : fr_J)  (hw : fr_wf n I) : fr_Ct X y_F_failIfDue c_F_failIfDue 4 none (fr_rm 1) [.ref (fr_ad X 0 0), .int (nI r)] (fr_Z0 X n) (fr_Z0 X n) I J (fr_pv (fun I' J' => (f_F_failIfDue I r) = I' ∧ J = J')) := by
  refine fr_ct (by decide) rfl rfl (Nat.le_of_ble_eq_true rfl) rfl (fun E => ?_)
  refine fr_aload_n d_F_failIfDue_0 rfl ?_
  refine fr_getr (k' := 1) (r' := 0) d_F_failIfDue_1 fl_F_11 rfl rfl rfl (Or.inr ⟨rfl, rfl⟩) ?_
  refine fr_iload_n d_F_failIfDue_4 rfl ?_
  refine fr_aald (k' := 7) (r' := r) (r) d_F_failIfDue_5 rfl rfl (if_pos hr) (Or.inr ⟨rfl, rfl⟩) rfl (fw_lt8 hw hr) (by decide) ?_
  refine fr_astore_n (L' := [(2, .ref _), (0, .ref _), (1, .int _)]) d_F_failIfDue_6 (by decide) rfl ?_
  refine fr_aload_n d_F_failIfDue_7 rfl ?_
  refine fr_getr (k' := 8) (r' := r) d_F_failIfDue_8 fl_F_51 rfl rfl rfl (Or.inl ⟨rfl, hr⟩) ?_
  refine fr_geti d_F_failIfDue_11 fl_F_116 rfl rfl (Or.inl ⟨rfl, hr⟩) ?_
  refine fr_if_eq 35 d_F_failIfDue_14 rfl (fun h1 => ?_) (fun h1 => ?_)
  · skip
    exact fr_vret d_F_failIfDue_35 rfl (Nat.zero_le _) (Nat.zero_le _) ⟨(by unfold f_F_failIfDue; rw [if_pos h1]), rfl⟩
  · skip
    refine fr_aload_n d_F_failIfDue_17 rfl ?_
    refine fr_getr (k' := 10) (r' := r) d_F_failIfDue_18 fl_F_77 rfl rfl rfl (Or.inl ⟨rfl, hr⟩) ?_
    refine fr_aload_n d_F_failIfDue_21 rfl ?_
    refine fr_geti d_F_failIfDue_22 fl_F_34 rfl rfl (Or.inr ⟨rfl, rfl⟩) ?_
    refine fr_aload_n d_F_failIfDue_25 rfl ?_
    refine fr_geti d_F_failIfDue_26 fl_F_68 rfl rfl (Or.inl ⟨rfl, hr⟩) ?_
    refine fr_callVi fr_q4 d_F_failIfDue_29 (ct_B_isOverdue X n r hr _ _ _ _) mv_F_218 rfl rfl rfl (Or.inl ⟨rfl, hr⟩) rfl rfl ⟨Nat.le_of_ble_eq_true rfl, Nat.le_of_ble_eq_true rfl⟩ ⟨rfl, rfl⟩ ⟨Nat.zero_le _, Nat.zero_le _⟩ (Nat.le_of_ble_eq_true rfl) (fun x I' J' hp2 => ?_)
    obtain ⟨rfl, rfl, rfl⟩ := hp2
    refine fr_if_ne 36 d_F_failIfDue_32 rfl (fun h3 => ?_) (fun h3 => ?_)
    · skip
      refine fr_aload_n d_F_failIfDue_36 rfl ?_
      refine fr_getr (k' := 10) (r' := r) d_F_failIfDue_37 fl_F_77 rfl rfl rfl (Or.inl ⟨rfl, hr⟩) ?_
      refine fr_iconst d_F_failIfDue_40 fr_i1 ?_
      refine fr_putz d_F_failIfDue_41 fl_F_222 rfl rfl (Or.inr rfl) (Or.inl ⟨rfl, hr⟩) ?_
      refine fr_aload_n d_F_failIfDue_44 rfl ?_
      refine fr_getr (k' := 4) (r' := 0) d_F_failIfDue_45 fl_F_26 rfl rfl rfl (Or.inr ⟨rfl, rfl⟩) ?_
      refine fr_bipush d_F_failIfDue_48 fr_b6 ?_
      refine fr_iload_n d_F_failIfDue_50 rfl ?_
      refine fr_aload_n d_F_failIfDue_51 rfl ?_
      refine fr_geti d_F_failIfDue_52 fl_F_34 rfl rfl (Or.inr ⟨rfl, rfl⟩) ?_
      refine fr_callVv fr_q1 d_F_failIfDue_55 (ct_J_add X n _ _ _ _ _ (fw_ui (k := 10) (j := 3) rfl hw)) mv_F_182 rfl rfl rfl (Or.inr ⟨rfl, rfl⟩) rfl rfl ⟨Nat.le_of_ble_eq_true rfl, Nat.le_of_ble_eq_true rfl⟩ ⟨rfl, rfl⟩ ⟨Nat.zero_le _, Nat.zero_le _⟩ (Nat.le_of_ble_eq_true rfl) (fun I' J' hp4 => ?_)
      obtain ⟨rfl, rfl⟩ := hp4
      refine fr_aload_n d_F_failIfDue_58 rfl ?_
      refine fr_geti d_F_failIfDue_59 fl_F_134 rfl rfl (Or.inl ⟨rfl, hr⟩) ?_
      refine fr_istore_n (L' := [(3, .int _), (2, .ref _), (0, .ref _), (1, .int _)]) d_F_failIfDue_62 (by decide) rfl ?_
      refine fr_iload_n d_F_failIfDue_63 rfl ?_
      refine fr_iconst d_F_failIfDue_64 fr_im1 ?_
      refine fr_icmp_eq 114 d_F_failIfDue_65 rfl (fun h5 => ?_) (fun h5 => ?_)
      · skip
        exact fr_vret d_F_failIfDue_114 rfl (Nat.zero_le _) (Nat.zero_le _) ⟨(by unfold f_F_failIfDue; rw [if_neg h1, if_neg h3, if_pos h5]), rfl⟩
      · skip
        refine fr_aload_n d_F_failIfDue_68 rfl ?_
        refine fr_getr (k' := 1) (r' := 0) d_F_failIfDue_69 fl_F_11 rfl rfl rfl (Or.inr ⟨rfl, rfl⟩) ?_
        refine fr_iload_n d_F_failIfDue_72 rfl ?_
        refine fr_aald (k' := 7) (r' := ((f_J_add ((fr_ui I 10 r 3 1)) 6 (nI r) ((fr_ui I 10 r 3 1) 0 0 5)) 7 r 0).toNatClampNeg) (((f_J_add ((fr_ui I 10 r 3 1)) 6 (nI r) ((fr_ui I 10 r 3 1) 0 0 5)) 7 r 0).toNatClampNeg) d_F_failIfDue_73 rfl rfl (if_pos (Nat.lt_trans (fw_abv_lt (fw_J_add (fw_ui (k := 10) (j := 3) rfl hw)) hr h5) hr)) (Or.inr ⟨rfl, rfl⟩) (fw_abv_eq (fw_J_add (fw_ui (k := 10) (j := 3) rfl hw)) hr h5) (fw_lt8 hw (Nat.lt_trans (fw_abv_lt (fw_J_add (fw_ui (k := 10) (j := 3) rfl hw)) hr h5) hr)) (by decide) ?_
        refine fr_getr (k' := 10) (r' := ((f_J_add ((fr_ui I 10 r 3 1)) 6 (nI r) ((fr_ui I 10 r 3 1) 0 0 5)) 7 r 0).toNatClampNeg) d_F_failIfDue_74 fl_F_77 rfl rfl rfl (Or.inl ⟨rfl, (Nat.lt_trans (fw_abv_lt (fw_J_add (fw_ui (k := 10) (j := 3) rfl hw)) hr h5) hr)⟩) ?_
        refine fr_callVi fr_q4 d_F_failIfDue_77 (ct_B_takesOrder X n (((f_J_add ((fr_ui I 10 r 3 1)) 6 (nI r) ((fr_ui I 10 r 3 1) 0 0 5)) 7 r 0).toNatClampNeg) (Nat.lt_trans (fw_abv_lt (fw_J_add (fw_ui (k := 10) (j := 3) rfl hw)) hr h5) hr) _ _) mv_F_211 rfl rfl rfl (Or.inl ⟨rfl, (Nat.lt_trans (fw_abv_lt (fw_J_add (fw_ui (k := 10) (j := 3) rfl hw)) hr h5) hr)⟩) rfl rfl ⟨Nat.le_of_ble_eq_true rfl, Nat.le_of_ble_eq_true rfl⟩ ⟨rfl, rfl⟩ ⟨Nat.zero_le _, Nat.zero_le _⟩ (Nat.le_of_ble_eq_true rfl) (fun x I' J' hp6 => ?_)
        obtain ⟨rfl, rfl, rfl⟩ := hp6
        refine fr_if_eq 114 d_F_failIfDue_80 rfl (fun h7 => ?_) (fun h7 => ?_)
        · skip
          exact fr_vret d_F_failIfDue_114 rfl (Nat.zero_le _) (Nat.zero_le _) ⟨(by unfold f_F_failIfDue; rw [if_neg h1, if_neg h3, if_neg h5, if_pos h7]), rfl⟩
        · skip
          refine fr_aload_n d_F_failIfDue_83 rfl ?_
          refine fr_getr (k' := 1) (r' := 0) d_F_failIfDue_84 fl_F_11 rfl rfl rfl (Or.inr ⟨rfl, rfl⟩) ?_
          refine fr_iload_n d_F_failIfDue_87 rfl ?_
          refine fr_aald (k' := 7) (r' := ((f_J_add ((fr_ui I 10 r 3 1)) 6 (nI r) ((fr_ui I 10 r 3 1) 0 0 5)) 7 r 0).toNatClampNeg) (((f_J_add ((fr_ui I 10 r 3 1)) 6 (nI r) ((fr_ui I 10 r 3 1) 0 0 5)) 7 r 0).toNatClampNeg) d_F_failIfDue_88 rfl rfl (if_pos (Nat.lt_trans (fw_abv_lt (fw_J_add (fw_ui (k := 10) (j := 3) rfl hw)) hr h5) hr)) (Or.inr ⟨rfl, rfl⟩) (fw_abv_eq (fw_J_add (fw_ui (k := 10) (j := 3) rfl hw)) hr h5) (fw_lt8 hw (Nat.lt_trans (fw_abv_lt (fw_J_add (fw_ui (k := 10) (j := 3) rfl hw)) hr h5) hr)) (by decide) ?_
          refine fr_getr (k' := 10) (r' := ((f_J_add ((fr_ui I 10 r 3 1)) 6 (nI r) ((fr_ui I 10 r 3 1) 0 0 5)) 7 r 0).toNatClampNeg) d_F_failIfDue_89 fl_F_77 rfl rfl rfl (Or.inl ⟨rfl, (Nat.lt_trans (fw_abv_lt (fw_J_add (fw_ui (k := 10) (j := 3) rfl hw)) hr h5) hr)⟩) ?_
          refine fr_aload_n d_F_failIfDue_92 rfl ?_
          refine fr_geti d_F_failIfDue_93 fl_F_34 rfl rfl (Or.inr ⟨rfl, rfl⟩) ?_
          refine fr_iconst d_F_failIfDue_96 fr_i0 ?_
          refine fr_callVv fr_q4 d_F_failIfDue_97 (ct_B_giveOrder X n (((f_J_add ((fr_ui I 10 r 3 1)) 6 (nI r) ((fr_ui I 10 r 3 1) 0 0 5)) 7 r 0).toNatClampNeg) (Nat.lt_trans (fw_abv_lt (fw_J_add (fw_ui (k := 10) (j := 3) rfl hw)) hr h5) hr) _ _ _ _ (Or.inl rfl)) mv_F_214 rfl rfl rfl (Or.inl ⟨rfl, (Nat.lt_trans (fw_abv_lt (fw_J_add (fw_ui (k := 10) (j := 3) rfl hw)) hr h5) hr)⟩) rfl rfl ⟨Nat.le_of_ble_eq_true rfl, Nat.le_of_ble_eq_true rfl⟩ ⟨rfl, rfl⟩ ⟨Nat.zero_le _, Nat.zero_le _⟩ (Nat.le_of_ble_eq_true rfl) (fun I' J' hp8 => ?_)
          obtain ⟨rfl, rfl⟩ := hp8
          refine fr_aload_n d_F_failIfDue_100 rfl ?_
          refine fr_getr (k' := 4) (r' := 0) d_F_failIfDue_101 fl_F_26 rfl rfl rfl (Or.inr ⟨rfl, rfl⟩) ?_
          refine fr_bipush d_F_failIfDue_104 fr_b7 ?_
          refine fr_iload_n d_F_failIfDue_106 rfl ?_
          refine fr_aload_n d_F_failIfDue_107 rfl ?_
          refine fr_geti d_F_failIfDue_108 fl_F_34 rfl rfl (Or.inr ⟨rfl, rfl⟩) ?_
          refine fr_callVv fr_q1 d_F_failIfDue_111 (ct_J_add X n _ _ _ _ _ (fw_B_giveOrder (fw_J_add (fw_ui (k := 10) (j := 3) rfl hw)))) mv_F_182 rfl rfl rfl (Or.inr ⟨rfl, rfl⟩) rfl rfl ⟨Nat.le_of_ble_eq_true rfl, Nat.le_of_ble_eq_true rfl⟩ ⟨rfl, rfl⟩ ⟨Nat.zero_le _, Nat.zero_le _⟩ (Nat.le_of_ble_eq_true rfl) (fun I' J' hp9 => ?_)
          obtain ⟨rfl, rfl⟩ := hp9
          exact fr_vret d_F_failIfDue_114 rfl (Nat.zero_le _) (Nat.zero_le _) ⟨(by unfold f_F_failIfDue; rw [if_neg h1, if_neg h3, if_neg h5, if_neg h7]), rfl⟩
    · skip
      exact fr_vret d_F_failIfDue_35 rfl (Nat.zero_le _) (Nat.zero_le _) ⟨(by unfold f_F_failIfDue; rw [if_neg h1, if_pos h3]), rfl⟩
theorem fw_F_failIfDue {n : Nat} {I : fr_I} {r : Nat} (hw : fr_wf n I) : fr_wf n (f_F_failIfDue I r) := by
  unfold f_F_failIfDue
  refine fw_ite (fun h => ?_) (fun h => ?_)
  · skip
    exact hw
  · skip
    refine fw_ite (fun h => ?_) (fun h => ?_)
    · skip
      exact hw
    · skip
      refine fw_ite (fun h => ?_) (fun h => ?_)
      · skip
        exact (fw_J_add (fw_ui (k := 10) (j := 3) rfl hw))
      · skip
        refine fw_ite (fun h => ?_) (fun h => ?_)
        · skip
          exact (fw_J_add (fw_ui (k := 10) (j := 3) rfl hw))
        · skip
          exact (fw_J_add (fw_B_giveOrder (fw_J_add (fw_ui (k := 10) (j := 3) rfl hw))))
def f_F_isBlocked (I : fr_I) (n : Nat) (r : Nat) : Int32 :=
  if (I 7 r 4) = 0 then
    0
  else
    (fr_bl I r (n - (r + 1)) (r + 1))
set_option maxRecDepth 10000 in
theorem ct_F_isBlocked (X : fr_X) (n : Nat) (r : Nat) (hr : r < n) (I : fr_I) (J : fr_J)  (hw : fr_wf n I) : fr_Ct X y_F_isBlocked c_F_isBlocked 3 (some .boolean) (fr_rm 1) [.ref (fr_ad X 0 0), .int (nI r)] (fr_Z0 X n) (fr_Z0 X n) I J (fr_pi (fun x I' J' => (f_F_isBlocked I n r) = x ∧ I = I' ∧ J = J')) := by
  refine fr_ct (by decide) rfl rfl (Nat.le_of_ble_eq_true rfl) rfl (fun E => ?_)
  refine fr_aload_n d_F_isBlocked_0 rfl ?_
  refine fr_getr (k' := 1) (r' := 0) d_F_isBlocked_1 fl_F_11 rfl rfl rfl (Or.inr ⟨rfl, rfl⟩) ?_
  refine fr_iload_n d_F_isBlocked_4 rfl ?_
  refine fr_aald (k' := 7) (r' := r) (r) d_F_isBlocked_5 rfl rfl (if_pos hr) (Or.inr ⟨rfl, rfl⟩) rfl (fw_lt8 hw hr) (by decide) ?_
  refine fr_geti d_F_isBlocked_6 fl_F_61 rfl rfl (Or.inl ⟨rfl, hr⟩) ?_
  refine fr_if_ne 14 d_F_isBlocked_9 rfl (fun h1 => ?_) (fun h1 => ?_)
  · skip
    refine fr_iload_n d_F_isBlocked_14 rfl ?_
    refine fr_iconst d_F_isBlocked_15 fr_i1 ?_
    refine fr_iadd d_F_isBlocked_16 ?_
    refine fr_istore_n (L' := [(2, .int _), (0, .ref _), (1, .int _)]) d_F_isBlocked_17 (by decide) rfl ?_
    refine fr_pick (L' := [(2, .int _), (0, .ref _), (1, .int _)]) [0, 1, 2] rfl ?_
    refine fr_ind (fun K (i : Nat) => [(2, .int (nI i)), (0, .ref (fr_ad X 0 0)), (1, .int (nI r))]) (fun K i => i + K = n ∧ fr_bl I r K i = fr_bl I r (n - (r + 1)) (r + 1)) (n - (r + 1)) (r + 1) (by rw [nI_1]) ⟨by omega, rfl⟩ (fun i ha => ?_) (fun K i hK ha ih => ?_)
    · skip
      refine fr_iload_n d_F_isBlocked_18 rfl ?_
      refine fr_aload_n d_F_isBlocked_19 rfl ?_
      refine fr_geti d_F_isBlocked_20 fl_F_30 rfl rfl (Or.inr ⟨rfl, rfl⟩) ?_
      refine fr_icmp_ge 66 d_F_isBlocked_23 rfl (fun _ => ?_) (fun h => absurd (by rw [fw_cnt hw]; exact nI_le (by omega) (by have := fw_n8 hw; omega)) h)
      refine fr_iconst d_F_isBlocked_66 fr_i0 ?_
      exact fr_iret d_F_isBlocked_67 rfl (fr_nar_b (Or.inl rfl)) (Nat.zero_le _) (Nat.zero_le _) ⟨by unfold f_F_isBlocked; rw [if_neg h1]; exact ha.2.symm, rfl, rfl⟩
    · skip
      have hi : i < n := by omega
      refine fr_iload_n d_F_isBlocked_18 rfl ?_
      refine fr_aload_n d_F_isBlocked_19 rfl ?_
      refine fr_geti d_F_isBlocked_20 fl_F_30 rfl rfl (Or.inr ⟨rfl, rfl⟩) ?_
      refine fr_icmp_ge 66 d_F_isBlocked_23 rfl (fun h => absurd h (by rw [fw_cnt hw]; exact nI_ge hi (by have := fw_n8 hw; omega))) (fun _ => ?_)
      refine fr_aload_n d_F_isBlocked_26 rfl ?_
      refine fr_getr (k' := 1) (r' := 0) d_F_isBlocked_27 fl_F_11 rfl rfl rfl (Or.inr ⟨rfl, rfl⟩) ?_
      refine fr_iload_n d_F_isBlocked_30 rfl ?_
      refine fr_aald (k' := 7) (r' := i) (i) d_F_isBlocked_31 rfl rfl (if_pos hi) (Or.inr ⟨rfl, rfl⟩) rfl (fw_lt8 hw hi) (by decide) ?_
      refine fr_geti d_F_isBlocked_32 fl_F_134 rfl rfl (Or.inl ⟨rfl, hi⟩) ?_
      refine fr_iload_n d_F_isBlocked_35 rfl ?_
      refine fr_icmp_ne 60 d_F_isBlocked_36 rfl (fun h2 => ?_) (fun h2 => ?_)
      · skip
        refine fr_iinc (v := (nI (i + 1))) (L' := [(2, .int _), (0, .ref _), (1, .int _)]) d_F_isBlocked_60 rfl (fr_inc _) (by decide) rfl ?_
        refine fr_goto 18 d_F_isBlocked_63 rfl ?_
        refine fr_pick (L' := [(2, .int _), (0, .ref _), (1, .int _)]) [0, 1, 2] rfl ?_
        exact ih (i + 1) ⟨by omega, (fr_bl_n h2).symm.trans ha.2⟩
      · skip
        refine fr_aload_n d_F_isBlocked_39 rfl ?_
        refine fr_getr (k' := 1) (r' := 0) d_F_isBlocked_40 fl_F_11 rfl rfl rfl (Or.inr ⟨rfl, rfl⟩) ?_
        refine fr_iload_n d_F_isBlocked_43 rfl ?_
        refine fr_aald (k' := 7) (r' := i) (i) d_F_isBlocked_44 rfl rfl (if_pos hi) (Or.inr ⟨rfl, rfl⟩) rfl (fw_lt8 hw hi) (by decide) ?_
        refine fr_getr (k' := 11) (r' := i) d_F_isBlocked_45 fl_F_86 rfl rfl rfl (Or.inl ⟨rfl, hi⟩) ?_
        refine fr_aload_n d_F_isBlocked_48 rfl ?_
        refine fr_geti d_F_isBlocked_49 fl_F_34 rfl rfl (Or.inr ⟨rfl, rfl⟩) ?_
        refine fr_callVi fr_q5 d_F_isBlocked_52 (ct_W_holdsBack X n i hi _ _ _) mv_F_225 rfl rfl rfl (Or.inl ⟨rfl, hi⟩) rfl rfl ⟨Nat.le_of_ble_eq_true rfl, Nat.le_of_ble_eq_true rfl⟩ ⟨rfl, rfl⟩ ⟨Nat.zero_le _, Nat.zero_le _⟩ (Nat.le_of_ble_eq_true rfl) (fun x I' J' hp3 => ?_)
        obtain ⟨rfl, rfl, rfl⟩ := hp3
        refine fr_if_eq 60 d_F_isBlocked_55 rfl (fun h4 => ?_) (fun h4 => ?_)
        · skip
          refine fr_iinc (v := (nI (i + 1))) (L' := [(2, .int _), (0, .ref _), (1, .int _)]) d_F_isBlocked_60 rfl (fr_inc _) (by decide) rfl ?_
          refine fr_goto 18 d_F_isBlocked_63 rfl ?_
          refine fr_pick (L' := [(2, .int _), (0, .ref _), (1, .int _)]) [0, 1, 2] rfl ?_
          exact ih (i + 1) ⟨by omega, (fr_bl_0 h2 h4).symm.trans ha.2⟩
        · skip
          refine fr_iconst d_F_isBlocked_58 fr_i1 ?_
          exact fr_iret d_F_isBlocked_59 rfl (fr_nar_b (Or.inr rfl)) (Nat.zero_le _) (Nat.zero_le _) ⟨by unfold f_F_isBlocked; rw [if_neg h1]; exact ha.2.symm.trans (fr_bl_1 h2 h4), rfl, rfl⟩
  · skip
    refine fr_iconst d_F_isBlocked_12 fr_i0 ?_
    exact fr_iret d_F_isBlocked_13 rfl (fr_nar_b (Or.inl rfl)) (Nat.zero_le _) (Nat.zero_le _) ⟨(by unfold f_F_isBlocked; rw [if_pos h1]), rfl, rfl⟩
end
section
def f_F_tripIfDue (I : fr_I) (J : fr_J) (n : Nat) (r : Nat) : fr_I :=
  if (f_M_isOverLimit I J r) = 0 then
    I
  else
    if (f_B_takesOrder I r) = 0 then
      I
    else
      if (f_F_isBlocked I n r) = 0 then
        (f_J_add ((f_B_giveOrder I r (I 0 0 5) 1)) 1 (nI r) ((f_B_giveOrder I r (I 0 0 5) 1) 0 0 5))
      else
        I
set_option maxRecDepth 10000 in
theorem ct_F_tripIfDue (X : fr_X) (n : Nat) (r : Nat) (hr : r < n) (I : fr_I) (J : fr_J)  (hw : fr_wf n I) : fr_Ct X y_F_tripIfDue c_F_tripIfDue 3 none (fr_rm 2) [.ref (fr_ad X 0 0), .int (nI r)] (fr_Z0 X n) (fr_Z0 X n) I J (fr_pv (fun I' J' => (f_F_tripIfDue I J n r) = I' ∧ J = J')) := by
  refine fr_ct (by decide) rfl rfl (Nat.le_of_ble_eq_true rfl) rfl (fun E => ?_)
  refine fr_aload_n d_F_tripIfDue_0 rfl ?_
  refine fr_getr (k' := 1) (r' := 0) d_F_tripIfDue_1 fl_F_11 rfl rfl rfl (Or.inr ⟨rfl, rfl⟩) ?_
  refine fr_iload_n d_F_tripIfDue_4 rfl ?_
  refine fr_aald (k' := 7) (r' := r) (r) d_F_tripIfDue_5 rfl rfl (if_pos hr) (Or.inr ⟨rfl, rfl⟩) rfl (fw_lt8 hw hr) (by decide) ?_
  refine fr_getr (k' := 10) (r' := r) d_F_tripIfDue_6 fl_F_77 rfl rfl rfl (Or.inl ⟨rfl, hr⟩) ?_
  refine fr_astore_n (L' := [(2, .ref _), (0, .ref _), (1, .int _)]) d_F_tripIfDue_9 (by decide) rfl ?_
  refine fr_aload_n d_F_tripIfDue_10 rfl ?_
  refine fr_getr (k' := 1) (r' := 0) d_F_tripIfDue_11 fl_F_11 rfl rfl rfl (Or.inr ⟨rfl, rfl⟩) ?_
  refine fr_iload_n d_F_tripIfDue_14 rfl ?_
  refine fr_aald (k' := 7) (r' := r) (r) d_F_tripIfDue_15 rfl rfl (if_pos hr) (Or.inr ⟨rfl, rfl⟩) rfl (fw_lt8 hw hr) (by decide) ?_
  refine fr_getr (k' := 8) (r' := r) d_F_tripIfDue_16 fl_F_51 rfl rfl rfl (Or.inl ⟨rfl, hr⟩) ?_
  refine fr_callVi fr_q3 d_F_tripIfDue_19 (ct_M_isOverLimit X n r hr _ _) mv_F_207 rfl rfl rfl (Or.inl ⟨rfl, hr⟩) rfl rfl ⟨Nat.le_of_ble_eq_true rfl, Nat.le_of_ble_eq_true rfl⟩ ⟨rfl, rfl⟩ ⟨Nat.zero_le _, Nat.zero_le _⟩ (Nat.le_of_ble_eq_true rfl) (fun x I' J' hp1 => ?_)
  obtain ⟨rfl, rfl, rfl⟩ := hp1
  refine fr_if_eq 62 d_F_tripIfDue_22 rfl (fun h2 => ?_) (fun h2 => ?_)
  · skip
    exact fr_vret d_F_tripIfDue_62 rfl (Nat.zero_le _) (Nat.zero_le _) ⟨(by unfold f_F_tripIfDue; rw [if_pos h2]), rfl⟩
  · skip
    refine fr_aload_n d_F_tripIfDue_25 rfl ?_
    refine fr_callVi fr_q4 d_F_tripIfDue_26 (ct_B_takesOrder X n r hr _ _) mv_F_211 rfl rfl rfl (Or.inl ⟨rfl, hr⟩) rfl rfl ⟨Nat.le_of_ble_eq_true rfl, Nat.le_of_ble_eq_true rfl⟩ ⟨rfl, rfl⟩ ⟨Nat.zero_le _, Nat.zero_le _⟩ (Nat.le_of_ble_eq_true rfl) (fun x I' J' hp3 => ?_)
    obtain ⟨rfl, rfl, rfl⟩ := hp3
    refine fr_if_eq 62 d_F_tripIfDue_29 rfl (fun h4 => ?_) (fun h4 => ?_)
    · skip
      exact fr_vret d_F_tripIfDue_62 rfl (Nat.zero_le _) (Nat.zero_le _) ⟨(by unfold f_F_tripIfDue; rw [if_neg h2, if_pos h4]), rfl⟩
    · skip
      refine fr_aload_n d_F_tripIfDue_32 rfl ?_
      refine fr_iload_n d_F_tripIfDue_33 rfl ?_
      refine fr_callVi fr_q0 d_F_tripIfDue_34 (ct_F_isBlocked X n r hr _ _ hw) mv_F_119 rfl rfl rfl (Or.inr ⟨rfl, rfl⟩) rfl rfl ⟨Nat.le_of_ble_eq_true rfl, Nat.le_of_ble_eq_true rfl⟩ ⟨rfl, rfl⟩ ⟨Nat.zero_le _, Nat.zero_le _⟩ (Nat.le_of_ble_eq_true rfl) (fun x I' J' hp5 => ?_)
      obtain ⟨rfl, rfl, rfl⟩ := hp5
      refine fr_if_ne 62 d_F_tripIfDue_37 rfl (fun h6 => ?_) (fun h6 => ?_)
      · skip
        exact fr_vret d_F_tripIfDue_62 rfl (Nat.zero_le _) (Nat.zero_le _) ⟨(by unfold f_F_tripIfDue; rw [if_neg h2, if_neg h4, if_neg h6]), rfl⟩
      · skip
        refine fr_aload_n d_F_tripIfDue_40 rfl ?_
        refine fr_aload_n d_F_tripIfDue_41 rfl ?_
        refine fr_geti d_F_tripIfDue_42 fl_F_34 rfl rfl (Or.inr ⟨rfl, rfl⟩) ?_
        refine fr_iconst d_F_tripIfDue_45 fr_i1 ?_
        refine fr_callVv fr_q4 d_F_tripIfDue_46 (ct_B_giveOrder X n r hr _ _ _ _ (Or.inr rfl)) mv_F_214 rfl rfl rfl (Or.inl ⟨rfl, hr⟩) rfl rfl ⟨Nat.le_of_ble_eq_true rfl, Nat.le_of_ble_eq_true rfl⟩ ⟨rfl, rfl⟩ ⟨Nat.zero_le _, Nat.zero_le _⟩ (Nat.le_of_ble_eq_true rfl) (fun I' J' hp7 => ?_)
        obtain ⟨rfl, rfl⟩ := hp7
        refine fr_aload_n d_F_tripIfDue_49 rfl ?_
        refine fr_getr (k' := 4) (r' := 0) d_F_tripIfDue_50 fl_F_26 rfl rfl rfl (Or.inr ⟨rfl, rfl⟩) ?_
        refine fr_iconst d_F_tripIfDue_53 fr_i1 ?_
        refine fr_iload_n d_F_tripIfDue_54 rfl ?_
        refine fr_aload_n d_F_tripIfDue_55 rfl ?_
        refine fr_geti d_F_tripIfDue_56 fl_F_34 rfl rfl (Or.inr ⟨rfl, rfl⟩) ?_
        refine fr_callVv fr_q1 d_F_tripIfDue_59 (ct_J_add X n _ _ _ _ _ (fw_B_giveOrder hw)) mv_F_182 rfl rfl rfl (Or.inr ⟨rfl, rfl⟩) rfl rfl ⟨Nat.le_of_ble_eq_true rfl, Nat.le_of_ble_eq_true rfl⟩ ⟨rfl, rfl⟩ ⟨Nat.zero_le _, Nat.zero_le _⟩ (Nat.le_of_ble_eq_true rfl) (fun I' J' hp8 => ?_)
        obtain ⟨rfl, rfl⟩ := hp8
        exact fr_vret d_F_tripIfDue_62 rfl (Nat.zero_le _) (Nat.zero_le _) ⟨(by unfold f_F_tripIfDue; rw [if_neg h2, if_neg h4, if_pos h6]), rfl⟩
theorem fw_F_tripIfDue {n : Nat} {I : fr_I} {J : fr_J} {r : Nat} (hw : fr_wf n I) : fr_wf n (f_F_tripIfDue I J n r) := by
  unfold f_F_tripIfDue
  refine fw_ite (fun h => ?_) (fun h => ?_)
  · skip
    exact hw
  · skip
    refine fw_ite (fun h => ?_) (fun h => ?_)
    · skip
      exact hw
    · skip
      refine fw_ite (fun h => ?_) (fun h => ?_)
      · skip
        exact (fw_J_add (fw_B_giveOrder hw))
      · skip
        exact hw
def f_F_state (I : fr_I) (n : Nat) (r : Nat) : Int32 :=
  if (I 8 r 6) = 0 then
    if (f_F_isBlocked I n r) = 0 then
      (f_B_bits I r)
    else
      ((f_B_bits I r) + Int32.ofInt 64)
  else
    if (f_F_isBlocked I n r) = 0 then
      ((f_B_bits I r) + Int32.ofInt 2)
    else
      (((f_B_bits I r) + Int32.ofInt 2) + Int32.ofInt 64)
set_option maxRecDepth 10000 in
theorem ct_F_state (X : fr_X) (n : Nat) (r : Nat) (hr : r < n) (I : fr_I) (J : fr_J)  (hw : fr_wf n I) : fr_Ct X y_F_state c_F_state 3 (some .int) (fr_rm 2) [.ref (fr_ad X 0 0), .int (nI r)] (fr_Z0 X n) (fr_Z0 X n) I J (fr_pi (fun x I' J' => (f_F_state I n r) = x ∧ I = I' ∧ J = J')) := by
  refine fr_ct (by decide) rfl rfl (Nat.le_of_ble_eq_true rfl) rfl (fun E => ?_)
  refine fr_aload_n d_F_state_0 rfl ?_
  refine fr_iload_n d_F_state_1 rfl ?_
  refine fr_callVi fr_q0 d_F_state_2 (ct_F_isRelay X n _ _ _) mv_F_44 rfl rfl rfl (Or.inr ⟨rfl, rfl⟩) rfl rfl ⟨Nat.le_of_ble_eq_true rfl, Nat.le_of_ble_eq_true rfl⟩ ⟨rfl, rfl⟩ ⟨Nat.zero_le _, Nat.zero_le _⟩ (Nat.le_of_ble_eq_true rfl) (fun x I' J' hp1 => ?_)
  obtain ⟨rfl, rfl, rfl⟩ := hp1
  rw [fr_isR_in hw hr]
  refine fr_if_ne 10 d_F_state_5 rfl (fun _ => ?_) (fun h => absurd h (by decide))
  refine fr_aload_n d_F_state_10 rfl ?_
  refine fr_getr (k' := 1) (r' := 0) d_F_state_11 fl_F_11 rfl rfl rfl (Or.inr ⟨rfl, rfl⟩) ?_
  refine fr_iload_n d_F_state_14 rfl ?_
  refine fr_aald (k' := 7) (r' := r) (r) d_F_state_15 rfl rfl (if_pos hr) (Or.inr ⟨rfl, rfl⟩) rfl (fw_lt8 hw hr) (by decide) ?_
  refine fr_getr (k' := 10) (r' := r) d_F_state_16 fl_F_77 rfl rfl rfl (Or.inl ⟨rfl, hr⟩) ?_
  refine fr_callVi fr_q4 d_F_state_19 (ct_B_bits X n r hr _ _) mv_F_113 rfl rfl rfl (Or.inl ⟨rfl, hr⟩) rfl rfl ⟨Nat.le_of_ble_eq_true rfl, Nat.le_of_ble_eq_true rfl⟩ ⟨rfl, rfl⟩ ⟨Nat.zero_le _, Nat.zero_le _⟩ (Nat.le_of_ble_eq_true rfl) (fun x I' J' hp2 => ?_)
  obtain ⟨rfl, rfl, rfl⟩ := hp2
  refine fr_istore_n (L' := [(2, .int _), (0, .ref _), (1, .int _)]) d_F_state_22 (by decide) rfl ?_
  refine fr_aload_n d_F_state_23 rfl ?_
  refine fr_getr (k' := 1) (r' := 0) d_F_state_24 fl_F_11 rfl rfl rfl (Or.inr ⟨rfl, rfl⟩) ?_
  refine fr_iload_n d_F_state_27 rfl ?_
  refine fr_aald (k' := 7) (r' := r) (r) d_F_state_28 rfl rfl (if_pos hr) (Or.inr ⟨rfl, rfl⟩) rfl (fw_lt8 hw hr) (by decide) ?_
  refine fr_getr (k' := 8) (r' := r) d_F_state_29 fl_F_51 rfl rfl rfl (Or.inl ⟨rfl, hr⟩) ?_
  refine fr_geti d_F_state_32 fl_F_116 rfl rfl (Or.inl ⟨rfl, hr⟩) ?_
  refine fr_if_eq 41 d_F_state_35 rfl (fun h3 => ?_) (fun h3 => ?_)
  · skip
    refine fr_aload_n d_F_state_41 rfl ?_
    refine fr_iload_n d_F_state_42 rfl ?_
    refine fr_callVi fr_q0 d_F_state_43 (ct_F_isBlocked X n r hr _ _ hw) mv_F_119 rfl rfl rfl (Or.inr ⟨rfl, rfl⟩) rfl rfl ⟨Nat.le_of_ble_eq_true rfl, Nat.le_of_ble_eq_true rfl⟩ ⟨rfl, rfl⟩ ⟨Nat.zero_le _, Nat.zero_le _⟩ (Nat.le_of_ble_eq_true rfl) (fun x I' J' hp4 => ?_)
    obtain ⟨rfl, rfl, rfl⟩ := hp4
    refine fr_if_eq 52 d_F_state_46 rfl (fun h5 => ?_) (fun h5 => ?_)
    · skip
      refine fr_iload_n d_F_state_52 rfl ?_
      exact fr_iret d_F_state_53 rfl (fr_nar_i _) (Nat.zero_le _) (Nat.zero_le _) ⟨(by unfold f_F_state; rw [if_pos h3, if_pos h5]), rfl, rfl⟩
    · skip
      refine fr_iinc (v := ((f_B_bits I r) + Int32.ofInt 64)) (L' := [(2, .int _), (0, .ref _), (1, .int _)]) d_F_state_49 rfl rfl (by decide) rfl ?_
      refine fr_iload_n d_F_state_52 rfl ?_
      exact fr_iret d_F_state_53 rfl (fr_nar_i _) (Nat.zero_le _) (Nat.zero_le _) ⟨(by unfold f_F_state; rw [if_pos h3, if_neg h5]), rfl, rfl⟩
  · skip
    refine fr_iinc (v := ((f_B_bits I r) + Int32.ofInt 2)) (L' := [(2, .int _), (0, .ref _), (1, .int _)]) d_F_state_38 rfl rfl (by decide) rfl ?_
    refine fr_aload_n d_F_state_41 rfl ?_
    refine fr_iload_n d_F_state_42 rfl ?_
    refine fr_callVi fr_q0 d_F_state_43 (ct_F_isBlocked X n r hr _ _ hw) mv_F_119 rfl rfl rfl (Or.inr ⟨rfl, rfl⟩) rfl rfl ⟨Nat.le_of_ble_eq_true rfl, Nat.le_of_ble_eq_true rfl⟩ ⟨rfl, rfl⟩ ⟨Nat.zero_le _, Nat.zero_le _⟩ (Nat.le_of_ble_eq_true rfl) (fun x I' J' hp6 => ?_)
    obtain ⟨rfl, rfl, rfl⟩ := hp6
    refine fr_if_eq 52 d_F_state_46 rfl (fun h7 => ?_) (fun h7 => ?_)
    · skip
      refine fr_iload_n d_F_state_52 rfl ?_
      exact fr_iret d_F_state_53 rfl (fr_nar_i _) (Nat.zero_le _) (Nat.zero_le _) ⟨(by unfold f_F_state; rw [if_neg h3, if_pos h7]), rfl, rfl⟩
    · skip
      refine fr_iinc (v := (((f_B_bits I r) + Int32.ofInt 2) + Int32.ofInt 64)) (L' := [(2, .int _), (0, .ref _), (1, .int _)]) d_F_state_49 rfl rfl (by decide) rfl ?_
      refine fr_iload_n d_F_state_52 rfl ?_
      exact fr_iret d_F_state_53 rfl (fr_nar_i _) (Nat.zero_le _) (Nat.zero_le _) ⟨(by unfold f_F_state; rw [if_neg h3, if_neg h7]), rfl, rfl⟩
def f_F_state_no (I : fr_I) (p1 : Int32) : Int32 :=
  (-1)
set_option maxRecDepth 10000 in
theorem ct_F_state_no (X : fr_X) (n : Nat) (I : fr_I) (J : fr_J) (p1 : Int32) (hx : f_F_isRelay I p1 = 0) : fr_Ct X y_F_state c_F_state 3 (some .int) (fr_rm 2) [.ref (fr_ad X 0 0), .int p1] (fr_Z0 X n) (fr_Z0 X n) I J (fr_pi (fun x I' J' => (f_F_state_no I p1) = x ∧ I = I' ∧ J = J')) := by
  refine fr_ct (by decide) rfl rfl (Nat.le_of_ble_eq_true rfl) rfl (fun E => ?_)
  refine fr_aload_n d_F_state_0 rfl ?_
  refine fr_iload_n d_F_state_1 rfl ?_
  refine fr_callVi fr_q0 d_F_state_2 (ct_F_isRelay X n _ _ _) mv_F_44 rfl rfl rfl (Or.inr ⟨rfl, rfl⟩) rfl rfl ⟨Nat.le_of_ble_eq_true rfl, Nat.le_of_ble_eq_true rfl⟩ ⟨rfl, rfl⟩ ⟨Nat.zero_le _, Nat.zero_le _⟩ (Nat.le_of_ble_eq_true rfl) (fun x I' J' hp1 => ?_)
  obtain ⟨rfl, rfl, rfl⟩ := hp1
  rw [hx]
  refine fr_if_ne 10 d_F_state_5 rfl (fun h => absurd h (by decide)) (fun _ => ?_)
  refine fr_iconst d_F_state_8 fr_im1 ?_
  exact fr_iret d_F_state_9 rfl (fr_nar_i _) (Nat.zero_le _) (Nat.zero_le _) ⟨rfl, rfl, rfl⟩
def fb_F_findFlows  (I : fr_I) (i : Nat) : fr_I :=
  if (I 10 i 0) = 0 then
    (fr_ui (fr_ui I 3 0 i 0) 2 0 i 0)
  else
    if (I 7 i 0) = (-1) then
      (fr_ui (fr_ui I 3 0 i 1) 2 0 i (((fr_ui I 3 0 i 1) 7 i 7) + ((fr_ui I 3 0 i 1) 7 i 8)))
    else
      if (I 3 0 ((I 7 i 0).toNatClampNeg)) = 0 then
        (fr_ui (fr_ui I 3 0 i 0) 2 0 i 0)
      else
        (fr_ui (fr_ui I 3 0 i 1) 2 0 i (((fr_ui I 3 0 i 1) 7 i 7) + ((fr_ui I 3 0 i 1) 7 i 8)))
theorem fb_F_findFlows_eq  (I : fr_I) (i : Nat) : fb_F_findFlows  I i =
  if (I 10 i 0) = 0 then
    (fr_ui (fr_ui I 3 0 i 0) 2 0 i 0)
  else
    if (I 7 i 0) = (-1) then
      (fr_ui (fr_ui I 3 0 i 1) 2 0 i (((fr_ui I 3 0 i 1) 7 i 7) + ((fr_ui I 3 0 i 1) 7 i 8)))
    else
      if (I 3 0 ((I 7 i 0).toNatClampNeg)) = 0 then
        (fr_ui (fr_ui I 3 0 i 0) 2 0 i 0)
      else
        (fr_ui (fr_ui I 3 0 i 1) 2 0 i (((fr_ui I 3 0 i 1) 7 i 7) + ((fr_ui I 3 0 i 1) 7 i 8))) := rfl
theorem fw_fb_F_findFlows {n : Nat} {I : fr_I} {i : Nat} (hw : fr_wf n I) : fr_wf n (fb_F_findFlows  I i) := by
  unfold fb_F_findFlows
  refine fw_ite (fun h => ?_) (fun h => ?_)
  · skip
    exact (fw_ui (k := 2) rfl (fw_ui (k := 3) rfl hw))
  · skip
    refine fw_ite (fun h => ?_) (fun h => ?_)
    · skip
      exact (fw_ui (k := 2) rfl (fw_ui (k := 3) rfl hw))
    · skip
      refine fw_ite (fun h => ?_) (fun h => ?_)
      · skip
        exact (fw_ui (k := 2) rfl (fw_ui (k := 3) rfl hw))
      · skip
        exact (fw_ui (k := 2) rfl (fw_ui (k := 3) rfl hw))
def f_F_findFlows (I : fr_I) (n : Nat) : fr_I :=
  (fr_f2 (n - 1) (fr_it (fb_F_findFlows ) I n))
set_option maxRecDepth 10000 in
theorem ct_F_findFlows (X : fr_X) (n : Nat) (I : fr_I) (J : fr_J)  (hw : fr_wf n I) : fr_Ct X y_F_findFlows c_F_findFlows 3 none (fr_rm 0) [.ref (fr_ad X 0 0)] (fr_Z0 X n) (fr_Z0 X n) I J (fr_pv (fun I' J' => (f_F_findFlows I n) = I' ∧ J = J')) := by
  refine fr_ct (by decide) rfl rfl (Nat.le_of_ble_eq_true rfl) rfl (fun E => ?_)
  refine fr_iconst d_F_findFlows_0 fr_i0 ?_
  refine fr_istore_n (L' := [(1, .int _), (0, .ref _)]) d_F_findFlows_1 (by decide) rfl ?_
  refine fr_pick (L' := [(1, .int _), (0, .ref _)]) [0, 1] rfl ?_
  refine fr_loop (fr_it (fb_F_findFlows ) I) (fun _ => J) (fun i => [(1, .int (nI i)), (0, .ref (fr_ad X 0 0))]) n rfl fr_it_0 rfl ?_ (fun i hi ih => ?_)
  · skip
    have hwe1 : fr_wf n ((fr_it (fb_F_findFlows ) I n)) := (fw_it n (fun I i hi hw => fw_fb_F_findFlows  hw) hw n (Nat.le_refl _))
    refine fr_iload_n d_F_findFlows_2 rfl ?_
    refine fr_aload_n d_F_findFlows_3 rfl ?_
    refine fr_geti d_F_findFlows_4 fl_F_30 rfl rfl (Or.inr ⟨rfl, rfl⟩) ?_
    refine fr_icmp_ge 92 d_F_findFlows_7 rfl (fun _ => ?_) (fun h => absurd (by rw [fw_cnt hwe1]; exact nI_le (Nat.le_refl _) (by have := fw_n8 hw; omega)) h)
    refine fr_aload_n d_F_findFlows_92 rfl ?_
    refine fr_geti d_F_findFlows_93 fl_F_30 rfl rfl (Or.inr ⟨rfl, rfl⟩) ?_
    refine fr_iconst d_F_findFlows_96 fr_i1 ?_
    refine fr_isub d_F_findFlows_97 ?_
    refine fr_istore_n (L' := [(1, .int _), (0, .ref _)]) d_F_findFlows_98 (by decide) rfl ?_
    rw [fw_cnt hwe1]
    rcases Nat.eq_zero_or_pos n with h0 | h0
    · subst h0
      refine fr_iload_n d_F_findFlows_99 rfl ?_
      refine fr_if_le 132 d_F_findFlows_100 rfl (fun _ => ?_) (fun h => absurd (by decide) h)
      exact fr_vret d_F_findFlows_132 rfl (Nat.zero_le _) (Nat.zero_le _) ⟨rfl, rfl⟩
    · obtain ⟨m, rfl⟩ : ∃ m, n = m + 1 := ⟨n - 1, by omega⟩
      rw [nI_pred]
      refine fr_pick (L' := [(1, .int _), (0, .ref _)]) [0, 1] rfl ?_
      refine fr_ind2 (fun K (_ : fr_I) => [(1, .int (nI K)), (0, .ref (fr_ad X 0 0))]) (fun a => (a, J)) (fun K a => fr_wf (m + 1) a ∧ fr_f2 K a = f_F_findFlows I (m + 1)) m _ rfl rfl rfl ⟨hwe1, rfl⟩ (fun a ha => ?_) (fun K a hK ha ih => ?_)
      · skip
        refine fr_iload_n d_F_findFlows_99 rfl ?_
        refine fr_if_le 132 d_F_findFlows_100 rfl (fun _ => ?_) (fun h => absurd (by decide) h)
        exact fr_vret d_F_findFlows_132 rfl (Nat.zero_le _) (Nat.zero_le _) ⟨ha.2.symm, rfl⟩
      · skip
        have hk : K + 1 < m + 1 := by omega
        refine fr_iload_n d_F_findFlows_99 rfl ?_
        refine fr_if_le 132 d_F_findFlows_100 rfl (fun h => absurd h (nI_nle (by omega) (by have := fw_n8 hw; omega))) (fun _ => ?_)
        refine fr_aload_n d_F_findFlows_103 rfl ?_
        refine fr_getr (k' := 2) (r' := 0) d_F_findFlows_104 fl_F_15 rfl rfl rfl (Or.inr ⟨rfl, rfl⟩) ?_
        refine fr_aload_n d_F_findFlows_107 rfl ?_
        refine fr_getr (k' := 1) (r' := 0) d_F_findFlows_108 fl_F_11 rfl rfl rfl (Or.inr ⟨rfl, rfl⟩) ?_
        refine fr_iload_n d_F_findFlows_111 rfl ?_
        refine fr_aald (k' := 7) (r' := K + 1) (K + 1) d_F_findFlows_112 rfl rfl (if_pos hk) (Or.inr ⟨rfl, rfl⟩) rfl (fw_lt8 hw hk) (by decide) ?_
        refine fr_geti d_F_findFlows_113 fl_F_134 rfl rfl (Or.inl ⟨rfl, hk⟩) ?_
        refine fr_dup2 d_F_findFlows_116 rfl rfl ?_
        refine fr_iald ((a 7 (K + 1) 0).toNatClampNeg) d_F_findFlows_117 rfl rfl (Or.inr ⟨rfl, rfl⟩) (fw_abv_eq ha.1 hk (fw_abv_n ha.1 hk (by omega))) (Nat.lt_trans (fw_abv_lt ha.1 hk (fw_abv_n ha.1 hk (by omega))) (fw_lt8 hw hk)) (by decide) ?_
        refine fr_aload_n d_F_findFlows_118 rfl ?_
        refine fr_getr (k' := 2) (r' := 0) d_F_findFlows_119 fl_F_15 rfl rfl rfl (Or.inr ⟨rfl, rfl⟩) ?_
        refine fr_iload_n d_F_findFlows_122 rfl ?_
        refine fr_iald (K + 1) d_F_findFlows_123 rfl rfl (Or.inr ⟨rfl, rfl⟩) rfl (fw_lt8 hw hk) (by decide) ?_
        refine fr_iadd d_F_findFlows_124 ?_
        refine fr_iast ((a 7 (K + 1) 0).toNatClampNeg) d_F_findFlows_125 rfl rfl (Or.inr ⟨rfl, rfl⟩) (fw_abv_eq ha.1 hk (fw_abv_n ha.1 hk (by omega))) (Nat.lt_trans (fw_abv_lt ha.1 hk (fw_abv_n ha.1 hk (by omega))) (fw_lt8 hw hk)) (by decide) ?_
        refine fr_iinc (v := (nI K)) (L' := [(1, .int _), (0, .ref _)]) d_F_findFlows_126 rfl (fr_dec _) (by decide) rfl ?_
        refine fr_goto 99 d_F_findFlows_129 rfl ?_
        refine fr_pick (L' := [(1, .int _), (0, .ref _)]) [0, 1] rfl ?_
        exact ih (fr_f2s a (K + 1)) ⟨fw_f2s ha.1, ha.2⟩
  · skip
    have hwi1 : fr_wf n ((fr_it (fb_F_findFlows ) I i)) := (fw_it n (fun I i hi hw => fw_fb_F_findFlows  hw) hw i (Nat.le_of_lt hi))
    refine fr_iload_n d_F_findFlows_2 rfl ?_
    refine fr_aload_n d_F_findFlows_3 rfl ?_
    refine fr_geti d_F_findFlows_4 fl_F_30 rfl rfl (Or.inr ⟨rfl, rfl⟩) ?_
    refine fr_icmp_ge 92 d_F_findFlows_7 rfl (fun h => absurd h (by rw [fw_cnt hwi1]; exact nI_ge hi (by have := fw_n8 hw; omega))) (fun _ => ?_)
    refine fr_aload_n d_F_findFlows_10 rfl ?_
    refine fr_getr (k' := 1) (r' := 0) d_F_findFlows_11 fl_F_11 rfl rfl rfl (Or.inr ⟨rfl, rfl⟩) ?_
    refine fr_iload_n d_F_findFlows_14 rfl ?_
    refine fr_aald (k' := 7) (r' := i) (i) d_F_findFlows_15 rfl rfl (if_pos hi) (Or.inr ⟨rfl, rfl⟩) rfl (fw_lt8 hw hi) (by decide) ?_
    refine fr_astore_n (L' := [(2, .ref _), (1, .int _), (0, .ref _)]) d_F_findFlows_16 (by decide) rfl ?_
    refine fr_aload_n d_F_findFlows_17 rfl ?_
    refine fr_getr (k' := 3) (r' := 0) d_F_findFlows_18 fl_F_19 rfl rfl rfl (Or.inr ⟨rfl, rfl⟩) ?_
    refine fr_iload_n d_F_findFlows_21 rfl ?_
    refine fr_aload_n d_F_findFlows_22 rfl ?_
    refine fr_getr (k' := 10) (r' := i) d_F_findFlows_23 fl_F_77 rfl rfl rfl (Or.inl ⟨rfl, hi⟩) ?_
    refine fr_geti d_F_findFlows_26 fl_F_95 rfl rfl (Or.inl ⟨rfl, hi⟩) ?_
    refine fr_if_eq 56 d_F_findFlows_29 rfl (fun h1 => ?_) (fun h1 => ?_)
    · skip
      refine fr_iconst d_F_findFlows_56 fr_i0 ?_
      refine fr_zast (i) d_F_findFlows_57 rfl rfl (Or.inl rfl) (Or.inr ⟨rfl, rfl⟩) rfl (fw_lt8 hw hi) (by decide) ?_
      refine fr_aload_n d_F_findFlows_58 rfl ?_
      refine fr_getr (k' := 2) (r' := 0) d_F_findFlows_59 fl_F_15 rfl rfl rfl (Or.inr ⟨rfl, rfl⟩) ?_
      refine fr_iload_n d_F_findFlows_62 rfl ?_
      refine fr_aload_n d_F_findFlows_63 rfl ?_
      refine fr_getr (k' := 3) (r' := 0) d_F_findFlows_64 fl_F_19 rfl rfl rfl (Or.inr ⟨rfl, rfl⟩) ?_
      refine fr_iload_n d_F_findFlows_67 rfl ?_
      refine fr_zald (i) d_F_findFlows_68 rfl rfl (Or.inr ⟨rfl, rfl⟩) rfl (fw_lt8 hw hi) (by decide) ?_
      rw [fr_ui_s]
      refine fr_if_eq 84 d_F_findFlows_69 rfl (fun _ => ?_) (fun h => absurd h (by decide))
      refine fr_iconst d_F_findFlows_84 fr_i0 ?_
      refine fr_iast (i) d_F_findFlows_85 rfl rfl (Or.inr ⟨rfl, rfl⟩) rfl (fw_lt8 hw hi) (by decide) ?_
      refine fr_iinc (v := (nI (i + 1))) (L' := [(1, .int _), (2, .ref _), (0, .ref _)]) d_F_findFlows_86 rfl (fr_inc _) (by decide) rfl ?_
      refine fr_goto 2 d_F_findFlows_89 rfl ?_
      refine fr_pick (L' := [(1, .int _), (0, .ref _)]) [0, 2] rfl ?_
      refine fr_eqI (I' := fr_it (fb_F_findFlows ) I (i + 1)) (Eq.symm (by rw [fr_it_s, fb_F_findFlows_eq, if_pos h1])) rfl ?_
      exact ih
    · skip
      refine fr_aload_n d_F_findFlows_32 rfl ?_
      refine fr_geti d_F_findFlows_33 fl_F_134 rfl rfl (Or.inl ⟨rfl, hi⟩) ?_
      refine fr_iconst d_F_findFlows_36 fr_im1 ?_
      refine fr_icmp_eq 52 d_F_findFlows_37 rfl (fun h2 => ?_) (fun h2 => ?_)
      · skip
        refine fr_iconst d_F_findFlows_52 fr_i1 ?_
        refine fr_goto 57 d_F_findFlows_53 rfl ?_
        refine fr_zast (i) d_F_findFlows_57 rfl rfl (Or.inr rfl) (Or.inr ⟨rfl, rfl⟩) rfl (fw_lt8 hw hi) (by decide) ?_
        refine fr_aload_n d_F_findFlows_58 rfl ?_
        refine fr_getr (k' := 2) (r' := 0) d_F_findFlows_59 fl_F_15 rfl rfl rfl (Or.inr ⟨rfl, rfl⟩) ?_
        refine fr_iload_n d_F_findFlows_62 rfl ?_
        refine fr_aload_n d_F_findFlows_63 rfl ?_
        refine fr_getr (k' := 3) (r' := 0) d_F_findFlows_64 fl_F_19 rfl rfl rfl (Or.inr ⟨rfl, rfl⟩) ?_
        refine fr_iload_n d_F_findFlows_67 rfl ?_
        refine fr_zald (i) d_F_findFlows_68 rfl rfl (Or.inr ⟨rfl, rfl⟩) rfl (fw_lt8 hw hi) (by decide) ?_
        rw [fr_ui_s]
        refine fr_if_eq 84 d_F_findFlows_69 rfl (fun h => absurd h (by decide)) (fun _ => ?_)
        refine fr_aload_n d_F_findFlows_72 rfl ?_
        refine fr_geti d_F_findFlows_73 fl_F_71 rfl rfl (Or.inl ⟨rfl, hi⟩) ?_
        refine fr_aload_n d_F_findFlows_76 rfl ?_
        refine fr_geti d_F_findFlows_77 fl_F_74 rfl rfl (Or.inl ⟨rfl, hi⟩) ?_
        refine fr_iadd d_F_findFlows_80 ?_
        refine fr_goto 85 d_F_findFlows_81 rfl ?_
        refine fr_iast (i) d_F_findFlows_85 rfl rfl (Or.inr ⟨rfl, rfl⟩) rfl (fw_lt8 hw hi) (by decide) ?_
        refine fr_iinc (v := (nI (i + 1))) (L' := [(1, .int _), (2, .ref _), (0, .ref _)]) d_F_findFlows_86 rfl (fr_inc _) (by decide) rfl ?_
        refine fr_goto 2 d_F_findFlows_89 rfl ?_
        refine fr_pick (L' := [(1, .int _), (0, .ref _)]) [0, 2] rfl ?_
        refine fr_eqI (I' := fr_it (fb_F_findFlows ) I (i + 1)) (Eq.symm (by rw [fr_it_s, fb_F_findFlows_eq, if_neg h1, if_pos h2])) rfl ?_
        exact ih
      · skip
        refine fr_aload_n d_F_findFlows_40 rfl ?_
        refine fr_getr (k' := 3) (r' := 0) d_F_findFlows_41 fl_F_19 rfl rfl rfl (Or.inr ⟨rfl, rfl⟩) ?_
        refine fr_aload_n d_F_findFlows_44 rfl ?_
        refine fr_geti d_F_findFlows_45 fl_F_134 rfl rfl (Or.inl ⟨rfl, hi⟩) ?_
        refine fr_zald (((fr_it (fb_F_findFlows ) I i) 7 i 0).toNatClampNeg) d_F_findFlows_48 rfl rfl (Or.inr ⟨rfl, rfl⟩) (fw_abv_eq hwi1 hi h2) (Nat.lt_trans (fw_abv_lt hwi1 hi h2) (fw_lt8 hw hi)) (by decide) ?_
        refine fr_if_eq 56 d_F_findFlows_49 rfl (fun h3 => ?_) (fun h3 => ?_)
        · skip
          refine fr_iconst d_F_findFlows_56 fr_i0 ?_
          refine fr_zast (i) d_F_findFlows_57 rfl rfl (Or.inl rfl) (Or.inr ⟨rfl, rfl⟩) rfl (fw_lt8 hw hi) (by decide) ?_
          refine fr_aload_n d_F_findFlows_58 rfl ?_
          refine fr_getr (k' := 2) (r' := 0) d_F_findFlows_59 fl_F_15 rfl rfl rfl (Or.inr ⟨rfl, rfl⟩) ?_
          refine fr_iload_n d_F_findFlows_62 rfl ?_
          refine fr_aload_n d_F_findFlows_63 rfl ?_
          refine fr_getr (k' := 3) (r' := 0) d_F_findFlows_64 fl_F_19 rfl rfl rfl (Or.inr ⟨rfl, rfl⟩) ?_
          refine fr_iload_n d_F_findFlows_67 rfl ?_
          refine fr_zald (i) d_F_findFlows_68 rfl rfl (Or.inr ⟨rfl, rfl⟩) rfl (fw_lt8 hw hi) (by decide) ?_
          rw [fr_ui_s]
          refine fr_if_eq 84 d_F_findFlows_69 rfl (fun _ => ?_) (fun h => absurd h (by decide))
          refine fr_iconst d_F_findFlows_84 fr_i0 ?_
          refine fr_iast (i) d_F_findFlows_85 rfl rfl (Or.inr ⟨rfl, rfl⟩) rfl (fw_lt8 hw hi) (by decide) ?_
          refine fr_iinc (v := (nI (i + 1))) (L' := [(1, .int _), (2, .ref _), (0, .ref _)]) d_F_findFlows_86 rfl (fr_inc _) (by decide) rfl ?_
          refine fr_goto 2 d_F_findFlows_89 rfl ?_
          refine fr_pick (L' := [(1, .int _), (0, .ref _)]) [0, 2] rfl ?_
          refine fr_eqI (I' := fr_it (fb_F_findFlows ) I (i + 1)) (Eq.symm (by rw [fr_it_s, fb_F_findFlows_eq, if_neg h1, if_neg h2, if_pos h3])) rfl ?_
          exact ih
        · skip
          refine fr_iconst d_F_findFlows_52 fr_i1 ?_
          refine fr_goto 57 d_F_findFlows_53 rfl ?_
          refine fr_zast (i) d_F_findFlows_57 rfl rfl (Or.inr rfl) (Or.inr ⟨rfl, rfl⟩) rfl (fw_lt8 hw hi) (by decide) ?_
          refine fr_aload_n d_F_findFlows_58 rfl ?_
          refine fr_getr (k' := 2) (r' := 0) d_F_findFlows_59 fl_F_15 rfl rfl rfl (Or.inr ⟨rfl, rfl⟩) ?_
          refine fr_iload_n d_F_findFlows_62 rfl ?_
          refine fr_aload_n d_F_findFlows_63 rfl ?_
          refine fr_getr (k' := 3) (r' := 0) d_F_findFlows_64 fl_F_19 rfl rfl rfl (Or.inr ⟨rfl, rfl⟩) ?_
          refine fr_iload_n d_F_findFlows_67 rfl ?_
          refine fr_zald (i) d_F_findFlows_68 rfl rfl (Or.inr ⟨rfl, rfl⟩) rfl (fw_lt8 hw hi) (by decide) ?_
          rw [fr_ui_s]
          refine fr_if_eq 84 d_F_findFlows_69 rfl (fun h => absurd h (by decide)) (fun _ => ?_)
          refine fr_aload_n d_F_findFlows_72 rfl ?_
          refine fr_geti d_F_findFlows_73 fl_F_71 rfl rfl (Or.inl ⟨rfl, hi⟩) ?_
          refine fr_aload_n d_F_findFlows_76 rfl ?_
          refine fr_geti d_F_findFlows_77 fl_F_74 rfl rfl (Or.inl ⟨rfl, hi⟩) ?_
          refine fr_iadd d_F_findFlows_80 ?_
          refine fr_goto 85 d_F_findFlows_81 rfl ?_
          refine fr_iast (i) d_F_findFlows_85 rfl rfl (Or.inr ⟨rfl, rfl⟩) rfl (fw_lt8 hw hi) (by decide) ?_
          refine fr_iinc (v := (nI (i + 1))) (L' := [(1, .int _), (2, .ref _), (0, .ref _)]) d_F_findFlows_86 rfl (fr_inc _) (by decide) rfl ?_
          refine fr_goto 2 d_F_findFlows_89 rfl ?_
          refine fr_pick (L' := [(1, .int _), (0, .ref _)]) [0, 2] rfl ?_
          refine fr_eqI (I' := fr_it (fb_F_findFlows ) I (i + 1)) (Eq.symm (by rw [fr_it_s, fb_F_findFlows_eq, if_neg h1, if_neg h2, if_neg h3])) rfl ?_
          exact ih
theorem fw_F_findFlows {n : Nat} {I : fr_I} (hw : fr_wf n I) : fr_wf n (f_F_findFlows I n) := by
  unfold f_F_findFlows
  exact (fw_f2 (fw_it n (fun I i hi hw => fw_fb_F_findFlows hw) hw n (Nat.le_refl _)))
def f_F_current (I : fr_I) (n : Nat) (r : Nat) : Int32 × fr_I :=
  (((f_F_findFlows I n) 2 0 r), (f_F_findFlows I n))
set_option maxRecDepth 10000 in
theorem ct_F_current (X : fr_X) (n : Nat) (r : Nat) (hr : r < n) (I : fr_I) (J : fr_J)  (hw : fr_wf n I) : fr_Ct X y_F_current c_F_current 2 (some .int) (fr_rm 1) [.ref (fr_ad X 0 0), .int (nI r)] (fr_Z0 X n) (fr_Z0 X n) I J (fr_pi (fun x I' J' => (f_F_current I n r).1 = x ∧ (f_F_current I n r).2 = I' ∧ J = J')) := by
  refine fr_ct (by decide) rfl rfl (Nat.le_of_ble_eq_true rfl) rfl (fun E => ?_)
  refine fr_aload_n d_F_current_0 rfl ?_
  refine fr_iload_n d_F_current_1 rfl ?_
  refine fr_callVi fr_q0 d_F_current_2 (ct_F_isRelay X n _ _ _) mv_F_44 rfl rfl rfl (Or.inr ⟨rfl, rfl⟩) rfl rfl ⟨Nat.le_of_ble_eq_true rfl, Nat.le_of_ble_eq_true rfl⟩ ⟨rfl, rfl⟩ ⟨Nat.zero_le _, Nat.zero_le _⟩ (Nat.le_of_ble_eq_true rfl) (fun x I' J' hp1 => ?_)
  obtain ⟨rfl, rfl, rfl⟩ := hp1
  rw [fr_isR_in hw hr]
  refine fr_if_ne 10 d_F_current_5 rfl (fun _ => ?_) (fun h => absurd h (by decide))
  refine fr_aload_n d_F_current_10 rfl ?_
  refine fr_callVv fr_q0 d_F_current_11 (ct_F_findFlows X n _ _ hw) mv_F_110 rfl rfl rfl (Or.inr ⟨rfl, rfl⟩) rfl rfl ⟨Nat.le_of_ble_eq_true rfl, Nat.le_of_ble_eq_true rfl⟩ ⟨rfl, rfl⟩ ⟨Nat.zero_le _, Nat.zero_le _⟩ (Nat.le_of_ble_eq_true rfl) (fun I' J' hp2 => ?_)
  obtain ⟨rfl, rfl⟩ := hp2
  refine fr_aload_n d_F_current_14 rfl ?_
  refine fr_getr (k' := 2) (r' := 0) d_F_current_15 fl_F_15 rfl rfl rfl (Or.inr ⟨rfl, rfl⟩) ?_
  refine fr_iload_n d_F_current_18 rfl ?_
  refine fr_iald (r) d_F_current_19 rfl rfl (Or.inr ⟨rfl, rfl⟩) rfl (fw_lt8 hw hr) (by decide) ?_
  exact fr_iret d_F_current_20 rfl (fr_nar_i _) (Nat.zero_le _) (Nat.zero_le _) (fr_tIx (rfl))
theorem fw_F_current {n : Nat} {I : fr_I} {r : Nat} (hw : fr_wf n I) : fr_wf n (f_F_current I n r).2 := by
  unfold f_F_current
  exact (fw_F_findFlows hw)
def f_F_current_no (I : fr_I) (p1 : Int32) : Int32 :=
  (-1)
set_option maxRecDepth 10000 in
theorem ct_F_current_no (X : fr_X) (n : Nat) (I : fr_I) (J : fr_J) (p1 : Int32) (hx : f_F_isRelay I p1 = 0) : fr_Ct X y_F_current c_F_current 2 (some .int) (fr_rm 1) [.ref (fr_ad X 0 0), .int p1] (fr_Z0 X n) (fr_Z0 X n) I J (fr_pi (fun x I' J' => (f_F_current_no I p1) = x ∧ I = I' ∧ J = J')) := by
  refine fr_ct (by decide) rfl rfl (Nat.le_of_ble_eq_true rfl) rfl (fun E => ?_)
  refine fr_aload_n d_F_current_0 rfl ?_
  refine fr_iload_n d_F_current_1 rfl ?_
  refine fr_callVi fr_q0 d_F_current_2 (ct_F_isRelay X n _ _ _) mv_F_44 rfl rfl rfl (Or.inr ⟨rfl, rfl⟩) rfl rfl ⟨Nat.le_of_ble_eq_true rfl, Nat.le_of_ble_eq_true rfl⟩ ⟨rfl, rfl⟩ ⟨Nat.zero_le _, Nat.zero_le _⟩ (Nat.le_of_ble_eq_true rfl) (fun x I' J' hp1 => ?_)
  obtain ⟨rfl, rfl, rfl⟩ := hp1
  rw [hx]
  refine fr_if_ne 10 d_F_current_5 rfl (fun h => absurd h (by decide)) (fun _ => ?_)
  refine fr_iconst d_F_current_8 fr_im1 ?_
  exact fr_iret d_F_current_9 rfl (fr_nar_i _) (Nat.zero_le _) (Nat.zero_le _) ⟨rfl, rfl, rfl⟩
end
section
def fb_F_measureAll  (s : fr_I × fr_J) (i : Nat) : fr_I × fr_J :=
  ((f_W_report ((f_M_measure (s.1) (s.2) i (s.1 2 0 i)).1) i ((f_M_measure (s.1) (s.2) i (s.1 2 0 i)).1 0 0 5) ((f_M_measure (s.1) (s.2) i (s.1 2 0 i)).1 8 i 6) (if ((f_M_measure (s.1) (s.2) i (s.1 2 0 i)).1 8 i 6) = (s.1 8 i 6) then (0 : Int32) else 1)), (f_M_measure (s.1) (s.2) i (s.1 2 0 i)).2)
theorem fb_F_measureAll_eq  (s : fr_I × fr_J) (i : Nat) : fb_F_measureAll  s i =
  ((f_W_report ((f_M_measure (s.1) (s.2) i (s.1 2 0 i)).1) i ((f_M_measure (s.1) (s.2) i (s.1 2 0 i)).1 0 0 5) ((f_M_measure (s.1) (s.2) i (s.1 2 0 i)).1 8 i 6) (if ((f_M_measure (s.1) (s.2) i (s.1 2 0 i)).1 8 i 6) = (s.1 8 i 6) then (0 : Int32) else 1)), (f_M_measure (s.1) (s.2) i (s.1 2 0 i)).2) := rfl
theorem fw_fb_F_measureAll {n : Nat} {s : fr_I × fr_J} {i : Nat} (hi : i < n) (hw : fr_wf n s.1) : fr_wf n (fb_F_measureAll  s i).1 := by
  unfold fb_F_measureAll
  exact (fw_W_report (fw_M_measure hi hw))
def f_F_measureAll (I : fr_I) (J : fr_J) (n : Nat) : fr_I × fr_J :=
  ((fr_jt (fb_F_measureAll ) ((f_F_findFlows I n), J) n).1, (fr_jt (fb_F_measureAll ) ((f_F_findFlows I n), J) n).2)
set_option maxRecDepth 10000 in
theorem ct_F_measureAll (X : fr_X) (n : Nat) (I : fr_I) (J : fr_J)  (hw : fr_wf n I) : fr_Ct X y_F_measureAll c_F_measureAll 4 none (fr_rm 3) [.ref (fr_ad X 0 0)] (fr_Z0 X n) (fr_Z0 X n) I J (fr_pv (fun I' J' => (f_F_measureAll I J n).1 = I' ∧ (f_F_measureAll I J n).2 = J')) := by
  refine fr_ct (by decide) rfl rfl (Nat.le_of_ble_eq_true rfl) rfl (fun E => ?_)
  refine fr_aload_n d_F_measureAll_0 rfl ?_
  refine fr_callVv fr_q0 d_F_measureAll_1 (ct_F_findFlows X n _ _ hw) mv_F_110 rfl rfl rfl (Or.inr ⟨rfl, rfl⟩) rfl rfl ⟨Nat.le_of_ble_eq_true rfl, Nat.le_of_ble_eq_true rfl⟩ ⟨rfl, rfl⟩ ⟨Nat.zero_le _, Nat.zero_le _⟩ (Nat.le_of_ble_eq_true rfl) (fun I' J' hp1 => ?_)
  obtain ⟨rfl, rfl⟩ := hp1
  refine fr_iconst d_F_measureAll_4 fr_i0 ?_
  refine fr_istore_n (L' := [(1, .int _), (0, .ref _)]) d_F_measureAll_5 (by decide) rfl ?_
  refine fr_pick (L' := [(1, .int _), (0, .ref _)]) [0, 1] rfl ?_
  refine fr_loop (fun i => (fr_jt (fb_F_measureAll ) ((f_F_findFlows I n), J) i).1) (fun i => (fr_jt (fb_F_measureAll ) ((f_F_findFlows I n), J) i).2) (fun i => [(1, .int (nI i)), (0, .ref (fr_ad X 0 0))]) n rfl fr_jt_1 fr_jt_2 ?_ (fun i hi ih => ?_)
  · skip
    have hwe1 : fr_wf n ((fr_jt (fb_F_measureAll ) ((f_F_findFlows I n), J) n).1) := (fw_jt n (fun s i hi hw => fw_fb_F_measureAll hi hw) (fw_F_findFlows hw) n (Nat.le_refl _))
    refine fr_iload_n d_F_measureAll_6 rfl ?_
    refine fr_aload_n d_F_measureAll_7 rfl ?_
    refine fr_geti d_F_measureAll_8 fl_F_30 rfl rfl (Or.inr ⟨rfl, rfl⟩) ?_
    refine fr_icmp_ge 78 d_F_measureAll_11 rfl (fun _ => ?_) (fun h => absurd (by rw [fw_cnt hwe1]; exact nI_le (Nat.le_refl _) (by have := fw_n8 hw; omega)) h)
    exact fr_vret d_F_measureAll_78 rfl (Nat.zero_le _) (Nat.zero_le _) (fr_tIJ (rfl))
  · skip
    have hwi1 : fr_wf n ((fr_jt (fb_F_measureAll ) ((f_F_findFlows I n), J) i).1) := (fw_jt n (fun s i hi hw => fw_fb_F_measureAll hi hw) (fw_F_findFlows hw) i (Nat.le_of_lt hi))
    refine fr_iload_n d_F_measureAll_6 rfl ?_
    refine fr_aload_n d_F_measureAll_7 rfl ?_
    refine fr_geti d_F_measureAll_8 fl_F_30 rfl rfl (Or.inr ⟨rfl, rfl⟩) ?_
    refine fr_icmp_ge 78 d_F_measureAll_11 rfl (fun h => absurd h (by rw [fw_cnt hwi1]; exact nI_ge hi (by have := fw_n8 hw; omega))) (fun _ => ?_)
    refine fr_aload_n d_F_measureAll_14 rfl ?_
    refine fr_getr (k' := 1) (r' := 0) d_F_measureAll_15 fl_F_11 rfl rfl rfl (Or.inr ⟨rfl, rfl⟩) ?_
    refine fr_iload_n d_F_measureAll_18 rfl ?_
    refine fr_aald (k' := 7) (r' := i) (i) d_F_measureAll_19 rfl rfl (if_pos hi) (Or.inr ⟨rfl, rfl⟩) rfl (fw_lt8 hw hi) (by decide) ?_
    refine fr_getr (k' := 8) (r' := i) d_F_measureAll_20 fl_F_51 rfl rfl rfl (Or.inl ⟨rfl, hi⟩) ?_
    refine fr_astore_n (L' := [(2, .ref _), (1, .int _), (0, .ref _)]) d_F_measureAll_23 (by decide) rfl ?_
    refine fr_aload_n d_F_measureAll_24 rfl ?_
    refine fr_geti d_F_measureAll_25 fl_F_116 rfl rfl (Or.inl ⟨rfl, hi⟩) ?_
    refine fr_istore_n (L' := [(3, .int _), (2, .ref _), (1, .int _), (0, .ref _)]) d_F_measureAll_28 (by decide) rfl ?_
    refine fr_aload_n d_F_measureAll_29 rfl ?_
    refine fr_aload_n d_F_measureAll_30 rfl ?_
    refine fr_getr (k' := 2) (r' := 0) d_F_measureAll_31 fl_F_15 rfl rfl rfl (Or.inr ⟨rfl, rfl⟩) ?_
    refine fr_iload_n d_F_measureAll_34 rfl ?_
    refine fr_iald (i) d_F_measureAll_35 rfl rfl (Or.inr ⟨rfl, rfl⟩) rfl (fw_lt8 hw hi) (by decide) ?_
    refine fr_callVv fr_q3 d_F_measureAll_36 (ct_M_measure X n i hi _ _ _ hwi1) mv_F_200 rfl rfl rfl (Or.inl ⟨rfl, hi⟩) rfl rfl ⟨Nat.le_of_ble_eq_true rfl, Nat.le_of_ble_eq_true rfl⟩ ⟨rfl, rfl⟩ ⟨Nat.zero_le _, Nat.zero_le _⟩ (Nat.le_of_ble_eq_true rfl) (fun I' J' hp2 => ?_)
    obtain ⟨rfl, rfl⟩ := hp2
    refine fr_aload_n d_F_measureAll_39 rfl ?_
    refine fr_getr (k' := 1) (r' := 0) d_F_measureAll_40 fl_F_11 rfl rfl rfl (Or.inr ⟨rfl, rfl⟩) ?_
    refine fr_iload_n d_F_measureAll_43 rfl ?_
    refine fr_aald (k' := 7) (r' := i) (i) d_F_measureAll_44 rfl rfl (if_pos hi) (Or.inr ⟨rfl, rfl⟩) rfl (fw_lt8 hw hi) (by decide) ?_
    refine fr_getr (k' := 11) (r' := i) d_F_measureAll_45 fl_F_86 rfl rfl rfl (Or.inl ⟨rfl, hi⟩) ?_
    refine fr_aload_n d_F_measureAll_48 rfl ?_
    refine fr_geti d_F_measureAll_49 fl_F_34 rfl rfl (Or.inr ⟨rfl, rfl⟩) ?_
    refine fr_aload_n d_F_measureAll_52 rfl ?_
    refine fr_geti d_F_measureAll_53 fl_F_116 rfl rfl (Or.inl ⟨rfl, hi⟩) ?_
    refine fr_aload_n d_F_measureAll_56 rfl ?_
    refine fr_geti d_F_measureAll_57 fl_F_116 rfl rfl (Or.inl ⟨rfl, hi⟩) ?_
    refine fr_iload_n d_F_measureAll_60 rfl ?_
    refine fr_ticmp_eq (t := 68) (j := 69) d_F_measureAll_61 rfl (fun k => fr_iconst d_F_measureAll_64 fr_i1 (fr_goto 69 d_F_measureAll_65 rfl k)) (fun k => fr_iconst d_F_measureAll_68 fr_i0 k) ?_
    refine fr_callVv fr_q5 d_F_measureAll_69 (ct_W_report X n i hi _ _ _ _ _) mv_F_203 rfl rfl rfl (Or.inl ⟨rfl, hi⟩) rfl rfl ⟨Nat.le_of_ble_eq_true rfl, Nat.le_of_ble_eq_true rfl⟩ ⟨rfl, rfl⟩ ⟨Nat.zero_le _, Nat.zero_le _⟩ (Nat.le_of_ble_eq_true rfl) (fun I' J' hp3 => ?_)
    obtain ⟨rfl, rfl⟩ := hp3
    refine fr_iinc (v := (nI (i + 1))) (L' := [(1, .int _), (3, .int _), (2, .ref _), (0, .ref _)]) d_F_measureAll_72 rfl (fr_inc _) (by decide) rfl ?_
    refine fr_goto 6 d_F_measureAll_75 rfl ?_
    refine fr_pick (L' := [(1, .int _), (0, .ref _)]) [0, 3] rfl ?_
    have he : fr_jt (fb_F_measureAll ) ((f_F_findFlows I n), J) (i + 1) = ((f_W_report ((f_M_measure ((fr_jt (fb_F_measureAll ) ((f_F_findFlows I n), J) i).1) ((fr_jt (fb_F_measureAll ) ((f_F_findFlows I n), J) i).2) i ((fr_jt (fb_F_measureAll ) ((f_F_findFlows I n), J) i).1 2 0 i)).1) i ((f_M_measure ((fr_jt (fb_F_measureAll ) ((f_F_findFlows I n), J) i).1) ((fr_jt (fb_F_measureAll ) ((f_F_findFlows I n), J) i).2) i ((fr_jt (fb_F_measureAll ) ((f_F_findFlows I n), J) i).1 2 0 i)).1 0 0 5) ((f_M_measure ((fr_jt (fb_F_measureAll ) ((f_F_findFlows I n), J) i).1) ((fr_jt (fb_F_measureAll ) ((f_F_findFlows I n), J) i).2) i ((fr_jt (fb_F_measureAll ) ((f_F_findFlows I n), J) i).1 2 0 i)).1 8 i 6) (if ((f_M_measure ((fr_jt (fb_F_measureAll ) ((f_F_findFlows I n), J) i).1) ((fr_jt (fb_F_measureAll ) ((f_F_findFlows I n), J) i).2) i ((fr_jt (fb_F_measureAll ) ((f_F_findFlows I n), J) i).1 2 0 i)).1 8 i 6) = ((fr_jt (fb_F_measureAll ) ((f_F_findFlows I n), J) i).1 8 i 6) then (0 : Int32) else 1)), (f_M_measure ((fr_jt (fb_F_measureAll ) ((f_F_findFlows I n), J) i).1) ((fr_jt (fb_F_measureAll ) ((f_F_findFlows I n), J) i).2) i ((fr_jt (fb_F_measureAll ) ((f_F_findFlows I n), J) i).1 2 0 i)).2) := by rw [fr_jt_s, fb_F_measureAll_eq]
    refine fr_eqI (fr_pr1 (J' := J) (I' := I) he) (fr_pr2 (J' := J) (I' := I) he) ?_
    exact ih
theorem fw_F_measureAll {n : Nat} {I : fr_I} {J : fr_J} (hw : fr_wf n I) : fr_wf n (f_F_measureAll I J n).1 := by
  unfold f_F_measureAll
  exact (fw_jt n (fun s i hi hw => fw_fb_F_measureAll hi hw) (fw_F_findFlows hw) n (Nat.le_refl _))
def fb_F_tick1  (I : fr_I) (i : Nat) : fr_I :=
  (f_W_deliver I i (I 0 0 5))
theorem fb_F_tick1_eq  (I : fr_I) (i : Nat) : fb_F_tick1  I i =
  (f_W_deliver I i (I 0 0 5)) := rfl
theorem fw_fb_F_tick1 {n : Nat} {I : fr_I} {i : Nat} (hw : fr_wf n I) : fr_wf n (fb_F_tick1  I i) := by
  unfold fb_F_tick1
  exact (fw_W_deliver hw)
def fb_F_tick2  (I : fr_I) (i : Nat) : fr_I :=
  (f_F_moveBreaker I i)
theorem fb_F_tick2_eq  (I : fr_I) (i : Nat) : fb_F_tick2  I i =
  (f_F_moveBreaker I i) := rfl
theorem fw_fb_F_tick2 {n : Nat} {I : fr_I} {i : Nat} (hw : fr_wf n I) : fr_wf n (fb_F_tick2  I i) := by
  unfold fb_F_tick2
  exact (fw_F_moveBreaker hw)
def fb_F_tick3 (n : Nat) (J : fr_J) (I : fr_I) (i : Nat) : fr_I :=
  (f_F_tripIfDue I J n i)
theorem fb_F_tick3_eq (n : Nat) (J : fr_J) (I : fr_I) (i : Nat) : fb_F_tick3 n J I i =
  (f_F_tripIfDue I J n i) := rfl
theorem fw_fb_F_tick3 {n : Nat} {J : fr_J} {I : fr_I} {i : Nat} (hw : fr_wf n I) : fr_wf n (fb_F_tick3 n J I i) := by
  unfold fb_F_tick3
  exact (fw_F_tripIfDue hw)
def fb_F_tick4  (I : fr_I) (i : Nat) : fr_I :=
  (f_F_failIfDue I i)
theorem fb_F_tick4_eq  (I : fr_I) (i : Nat) : fb_F_tick4  I i =
  (f_F_failIfDue I i) := rfl
theorem fw_fb_F_tick4 {n : Nat} {I : fr_I} {i : Nat} (hw : fr_wf n I) : fr_wf n (fb_F_tick4  I i) := by
  unfold fb_F_tick4
  exact (fw_F_failIfDue hw)
def f_F_tick (I : fr_I) (J : fr_J) (n : Nat) : fr_I × fr_J :=
  ((f_J_store ((fr_it (fb_F_tick4 ) ((fr_it (fb_F_tick3 n ((f_F_measureAll ((fr_it (fb_F_tick2 ) ((fr_it (fb_F_tick1 ) ((fr_ui I 0 0 5 ((I 0 0 5) + 1))) n)) n)) J n).2)) ((f_F_measureAll ((fr_it (fb_F_tick2 ) ((fr_it (fb_F_tick1 ) ((fr_ui I 0 0 5 ((I 0 0 5) + 1))) n)) n)) J n).1) n)) n))), (f_F_measureAll ((fr_it (fb_F_tick2 ) ((fr_it (fb_F_tick1 ) ((fr_ui I 0 0 5 ((I 0 0 5) + 1))) n)) n)) J n).2)
set_option maxRecDepth 10000 in
theorem ct_F_tick (X : fr_X) (n : Nat) (I : fr_I) (J : fr_J)  (hw : fr_wf n I) : fr_Ct X y_F_tick c_F_tick 2 none (fr_rm 4) [.ref (fr_ad X 0 0)] (fr_Z0 X n) (fr_Z0 X n) I J (fr_pv (fun I' J' => (f_F_tick I J n).1 = I' ∧ (f_F_tick I J n).2 = J')) := by
  refine fr_ct (by decide) rfl rfl (Nat.le_of_ble_eq_true rfl) rfl (fun E => ?_)
  refine fr_aload_n d_F_tick_0 rfl ?_
  refine fr_dup d_F_tick_1 rfl ?_
  refine fr_geti d_F_tick_2 fl_F_34 rfl rfl (Or.inr ⟨rfl, rfl⟩) ?_
  refine fr_iconst d_F_tick_5 fr_i1 ?_
  refine fr_iadd d_F_tick_6 ?_
  refine fr_puti d_F_tick_7 fl_F_34 rfl rfl (Or.inr ⟨rfl, rfl⟩) ?_
  refine fr_iconst d_F_tick_10 fr_i0 ?_
  refine fr_istore_n (L' := [(1, .int _), (0, .ref _)]) d_F_tick_11 (by decide) rfl ?_
  refine fr_pick (L' := [(1, .int _), (0, .ref _)]) [0, 1] rfl ?_
  refine fr_loop (fr_it (fb_F_tick1 ) ((fr_ui I 0 0 5 ((I 0 0 5) + 1)))) (fun _ => J) (fun i => [(1, .int (nI i)), (0, .ref (fr_ad X 0 0))]) n rfl fr_it_0 rfl ?_ (fun i hi ih => ?_)
  · skip
    have hwe1 : fr_wf n ((fr_it (fb_F_tick1 ) ((fr_ui I 0 0 5 ((I 0 0 5) + 1))) n)) := (fw_it n (fun I i hi hw => fw_fb_F_tick1  hw) (fw_ui (k := 0) (j := 5) rfl hw) n (Nat.le_refl _))
    refine fr_iload_n d_F_tick_12 rfl ?_
    refine fr_aload_n d_F_tick_13 rfl ?_
    refine fr_geti d_F_tick_14 fl_F_30 rfl rfl (Or.inr ⟨rfl, rfl⟩) ?_
    refine fr_icmp_ge 42 d_F_tick_17 rfl (fun _ => ?_) (fun h => absurd (by rw [fw_cnt hwe1]; exact nI_le (Nat.le_refl _) (by have := fw_n8 hw; omega)) h)
    refine fr_iconst d_F_tick_42 fr_i0 ?_
    refine fr_istore_n (L' := [(1, .int _), (0, .ref _)]) d_F_tick_43 (by decide) rfl ?_
    refine fr_pick (L' := [(1, .int _), (0, .ref _)]) [0, 1] rfl ?_
    refine fr_loop (fr_it (fb_F_tick2 ) ((fr_it (fb_F_tick1 ) ((fr_ui I 0 0 5 ((I 0 0 5) + 1))) n))) (fun _ => J) (fun i => [(1, .int (nI i)), (0, .ref (fr_ad X 0 0))]) n rfl fr_it_0 rfl ?_ (fun i hi ih => ?_)
    · skip
      have hwe2 : fr_wf n ((fr_it (fb_F_tick2 ) ((fr_it (fb_F_tick1 ) ((fr_ui I 0 0 5 ((I 0 0 5) + 1))) n)) n)) := (fw_it n (fun I i hi hw => fw_fb_F_tick2  hw) hwe1 n (Nat.le_refl _))
      refine fr_iload_n d_F_tick_44 rfl ?_
      refine fr_aload_n d_F_tick_45 rfl ?_
      refine fr_geti d_F_tick_46 fl_F_30 rfl rfl (Or.inr ⟨rfl, rfl⟩) ?_
      refine fr_icmp_ge 63 d_F_tick_49 rfl (fun _ => ?_) (fun h => absurd (by rw [fw_cnt hwe2]; exact nI_le (Nat.le_refl _) (by have := fw_n8 hw; omega)) h)
      refine fr_aload_n d_F_tick_63 rfl ?_
      refine fr_callVv fr_q0 d_F_tick_64 (ct_F_measureAll X n _ _ hwe2) mv_F_161 rfl rfl rfl (Or.inr ⟨rfl, rfl⟩) rfl rfl ⟨Nat.le_of_ble_eq_true rfl, Nat.le_of_ble_eq_true rfl⟩ ⟨rfl, rfl⟩ ⟨Nat.zero_le _, Nat.zero_le _⟩ (Nat.le_of_ble_eq_true rfl) (fun I' J' hp1 => ?_)
      obtain ⟨rfl, rfl⟩ := hp1
      refine fr_iconst d_F_tick_67 fr_i0 ?_
      refine fr_istore_n (L' := [(1, .int _), (0, .ref _)]) d_F_tick_68 (by decide) rfl ?_
      refine fr_pick (L' := [(1, .int _), (0, .ref _)]) [0, 1] rfl ?_
      refine fr_loop (fr_it (fb_F_tick3 n ((f_F_measureAll ((fr_it (fb_F_tick2 ) ((fr_it (fb_F_tick1 ) ((fr_ui I 0 0 5 ((I 0 0 5) + 1))) n)) n)) J n).2)) ((f_F_measureAll ((fr_it (fb_F_tick2 ) ((fr_it (fb_F_tick1 ) ((fr_ui I 0 0 5 ((I 0 0 5) + 1))) n)) n)) J n).1)) (fun _ => (f_F_measureAll ((fr_it (fb_F_tick2 ) ((fr_it (fb_F_tick1 ) ((fr_ui I 0 0 5 ((I 0 0 5) + 1))) n)) n)) J n).2) (fun i => [(1, .int (nI i)), (0, .ref (fr_ad X 0 0))]) n rfl fr_it_0 rfl ?_ (fun i hi ih => ?_)
      · skip
        have hwe3 : fr_wf n ((fr_it (fb_F_tick3 n ((f_F_measureAll ((fr_it (fb_F_tick2 ) ((fr_it (fb_F_tick1 ) ((fr_ui I 0 0 5 ((I 0 0 5) + 1))) n)) n)) J n).2)) ((f_F_measureAll ((fr_it (fb_F_tick2 ) ((fr_it (fb_F_tick1 ) ((fr_ui I 0 0 5 ((I 0 0 5) + 1))) n)) n)) J n).1) n)) := (fw_it n (fun I i hi hw => fw_fb_F_tick3  hw) (fw_F_measureAll hwe2) n (Nat.le_refl _))
        refine fr_iload_n d_F_tick_69 rfl ?_
        refine fr_aload_n d_F_tick_70 rfl ?_
        refine fr_geti d_F_tick_71 fl_F_30 rfl rfl (Or.inr ⟨rfl, rfl⟩) ?_
        refine fr_icmp_ge 88 d_F_tick_74 rfl (fun _ => ?_) (fun h => absurd (by rw [fw_cnt hwe3]; exact nI_le (Nat.le_refl _) (by have := fw_n8 hw; omega)) h)
        refine fr_iconst d_F_tick_88 fr_i0 ?_
        refine fr_istore_n (L' := [(1, .int _), (0, .ref _)]) d_F_tick_89 (by decide) rfl ?_
        refine fr_pick (L' := [(1, .int _), (0, .ref _)]) [0, 1] rfl ?_
        refine fr_loop (fr_it (fb_F_tick4 ) ((fr_it (fb_F_tick3 n ((f_F_measureAll ((fr_it (fb_F_tick2 ) ((fr_it (fb_F_tick1 ) ((fr_ui I 0 0 5 ((I 0 0 5) + 1))) n)) n)) J n).2)) ((f_F_measureAll ((fr_it (fb_F_tick2 ) ((fr_it (fb_F_tick1 ) ((fr_ui I 0 0 5 ((I 0 0 5) + 1))) n)) n)) J n).1) n))) (fun _ => (f_F_measureAll ((fr_it (fb_F_tick2 ) ((fr_it (fb_F_tick1 ) ((fr_ui I 0 0 5 ((I 0 0 5) + 1))) n)) n)) J n).2) (fun i => [(1, .int (nI i)), (0, .ref (fr_ad X 0 0))]) n rfl fr_it_0 rfl ?_ (fun i hi ih => ?_)
        · skip
          have hwe4 : fr_wf n ((fr_it (fb_F_tick4 ) ((fr_it (fb_F_tick3 n ((f_F_measureAll ((fr_it (fb_F_tick2 ) ((fr_it (fb_F_tick1 ) ((fr_ui I 0 0 5 ((I 0 0 5) + 1))) n)) n)) J n).2)) ((f_F_measureAll ((fr_it (fb_F_tick2 ) ((fr_it (fb_F_tick1 ) ((fr_ui I 0 0 5 ((I 0 0 5) + 1))) n)) n)) J n).1) n)) n)) := (fw_it n (fun I i hi hw => fw_fb_F_tick4  hw) hwe3 n (Nat.le_refl _))
          refine fr_iload_n d_F_tick_90 rfl ?_
          refine fr_aload_n d_F_tick_91 rfl ?_
          refine fr_geti d_F_tick_92 fl_F_30 rfl rfl (Or.inr ⟨rfl, rfl⟩) ?_
          refine fr_icmp_ge 109 d_F_tick_95 rfl (fun _ => ?_) (fun h => absurd (by rw [fw_cnt hwe4]; exact nI_le (Nat.le_refl _) (by have := fw_n8 hw; omega)) h)
          refine fr_aload_n d_F_tick_109 rfl ?_
          refine fr_getr (k' := 4) (r' := 0) d_F_tick_110 fl_F_26 rfl rfl rfl (Or.inr ⟨rfl, rfl⟩) ?_
          refine fr_callVv fr_q1 d_F_tick_113 (ct_J_store X n _ _) mv_F_170 rfl rfl rfl (Or.inr ⟨rfl, rfl⟩) rfl rfl ⟨Nat.le_of_ble_eq_true rfl, Nat.le_of_ble_eq_true rfl⟩ ⟨rfl, rfl⟩ ⟨Nat.zero_le _, Nat.zero_le _⟩ (Nat.le_of_ble_eq_true rfl) (fun I' J' hp2 => ?_)
          obtain ⟨rfl, rfl⟩ := hp2
          exact fr_vret d_F_tick_116 rfl (Nat.zero_le _) (Nat.zero_le _) (fr_tIJ (rfl))
        · skip
          have hwi4 : fr_wf n ((fr_it (fb_F_tick4 ) ((fr_it (fb_F_tick3 n ((f_F_measureAll ((fr_it (fb_F_tick2 ) ((fr_it (fb_F_tick1 ) ((fr_ui I 0 0 5 ((I 0 0 5) + 1))) n)) n)) J n).2)) ((f_F_measureAll ((fr_it (fb_F_tick2 ) ((fr_it (fb_F_tick1 ) ((fr_ui I 0 0 5 ((I 0 0 5) + 1))) n)) n)) J n).1) n)) i)) := (fw_it n (fun I i hi hw => fw_fb_F_tick4  hw) hwe3 i (Nat.le_of_lt hi))
          refine fr_iload_n d_F_tick_90 rfl ?_
          refine fr_aload_n d_F_tick_91 rfl ?_
          refine fr_geti d_F_tick_92 fl_F_30 rfl rfl (Or.inr ⟨rfl, rfl⟩) ?_
          refine fr_icmp_ge 109 d_F_tick_95 rfl (fun h => absurd h (by rw [fw_cnt hwi4]; exact nI_ge hi (by have := fw_n8 hw; omega))) (fun _ => ?_)
          refine fr_aload_n d_F_tick_98 rfl ?_
          refine fr_iload_n d_F_tick_99 rfl ?_
          refine fr_callVv fr_q0 d_F_tick_100 (ct_F_failIfDue X n i hi _ _ hwi4) mv_F_167 rfl rfl rfl (Or.inr ⟨rfl, rfl⟩) rfl rfl ⟨Nat.le_of_ble_eq_true rfl, Nat.le_of_ble_eq_true rfl⟩ ⟨rfl, rfl⟩ ⟨Nat.zero_le _, Nat.zero_le _⟩ (Nat.le_of_ble_eq_true rfl) (fun I' J' hp3 => ?_)
          obtain ⟨rfl, rfl⟩ := hp3
          refine fr_iinc (v := (nI (i + 1))) (L' := [(1, .int _), (0, .ref _)]) d_F_tick_103 rfl (fr_inc _) (by decide) rfl ?_
          refine fr_goto 90 d_F_tick_106 rfl ?_
          refine fr_pick (L' := [(1, .int _), (0, .ref _)]) [0, 1] rfl ?_
          refine fr_eqI (I' := fr_it (fb_F_tick4 ) ((fr_it (fb_F_tick3 n ((f_F_measureAll ((fr_it (fb_F_tick2 ) ((fr_it (fb_F_tick1 ) ((fr_ui I 0 0 5 ((I 0 0 5) + 1))) n)) n)) J n).2)) ((f_F_measureAll ((fr_it (fb_F_tick2 ) ((fr_it (fb_F_tick1 ) ((fr_ui I 0 0 5 ((I 0 0 5) + 1))) n)) n)) J n).1) n)) (i + 1)) (Eq.symm (by rw [fr_it_s, fb_F_tick4_eq])) rfl ?_
          exact ih
      · skip
        have hwi3 : fr_wf n ((fr_it (fb_F_tick3 n ((f_F_measureAll ((fr_it (fb_F_tick2 ) ((fr_it (fb_F_tick1 ) ((fr_ui I 0 0 5 ((I 0 0 5) + 1))) n)) n)) J n).2)) ((f_F_measureAll ((fr_it (fb_F_tick2 ) ((fr_it (fb_F_tick1 ) ((fr_ui I 0 0 5 ((I 0 0 5) + 1))) n)) n)) J n).1) i)) := (fw_it n (fun I i hi hw => fw_fb_F_tick3  hw) (fw_F_measureAll hwe2) i (Nat.le_of_lt hi))
        refine fr_iload_n d_F_tick_69 rfl ?_
        refine fr_aload_n d_F_tick_70 rfl ?_
        refine fr_geti d_F_tick_71 fl_F_30 rfl rfl (Or.inr ⟨rfl, rfl⟩) ?_
        refine fr_icmp_ge 88 d_F_tick_74 rfl (fun h => absurd h (by rw [fw_cnt hwi3]; exact nI_ge hi (by have := fw_n8 hw; omega))) (fun _ => ?_)
        refine fr_aload_n d_F_tick_77 rfl ?_
        refine fr_iload_n d_F_tick_78 rfl ?_
        refine fr_callVv fr_q0 d_F_tick_79 (ct_F_tripIfDue X n i hi _ _ hwi3) mv_F_164 rfl rfl rfl (Or.inr ⟨rfl, rfl⟩) rfl rfl ⟨Nat.le_of_ble_eq_true rfl, Nat.le_of_ble_eq_true rfl⟩ ⟨rfl, rfl⟩ ⟨Nat.zero_le _, Nat.zero_le _⟩ (Nat.le_of_ble_eq_true rfl) (fun I' J' hp4 => ?_)
        obtain ⟨rfl, rfl⟩ := hp4
        refine fr_iinc (v := (nI (i + 1))) (L' := [(1, .int _), (0, .ref _)]) d_F_tick_82 rfl (fr_inc _) (by decide) rfl ?_
        refine fr_goto 69 d_F_tick_85 rfl ?_
        refine fr_pick (L' := [(1, .int _), (0, .ref _)]) [0, 1] rfl ?_
        refine fr_eqI (I' := fr_it (fb_F_tick3 n ((f_F_measureAll ((fr_it (fb_F_tick2 ) ((fr_it (fb_F_tick1 ) ((fr_ui I 0 0 5 ((I 0 0 5) + 1))) n)) n)) J n).2)) ((f_F_measureAll ((fr_it (fb_F_tick2 ) ((fr_it (fb_F_tick1 ) ((fr_ui I 0 0 5 ((I 0 0 5) + 1))) n)) n)) J n).1) (i + 1)) (Eq.symm (by rw [fr_it_s, fb_F_tick3_eq])) rfl ?_
        exact ih
    · skip
      have hwi2 : fr_wf n ((fr_it (fb_F_tick2 ) ((fr_it (fb_F_tick1 ) ((fr_ui I 0 0 5 ((I 0 0 5) + 1))) n)) i)) := (fw_it n (fun I i hi hw => fw_fb_F_tick2  hw) hwe1 i (Nat.le_of_lt hi))
      refine fr_iload_n d_F_tick_44 rfl ?_
      refine fr_aload_n d_F_tick_45 rfl ?_
      refine fr_geti d_F_tick_46 fl_F_30 rfl rfl (Or.inr ⟨rfl, rfl⟩) ?_
      refine fr_icmp_ge 63 d_F_tick_49 rfl (fun h => absurd h (by rw [fw_cnt hwi2]; exact nI_ge hi (by have := fw_n8 hw; omega))) (fun _ => ?_)
      refine fr_aload_n d_F_tick_52 rfl ?_
      refine fr_iload_n d_F_tick_53 rfl ?_
      refine fr_callVv fr_q0 d_F_tick_54 (ct_F_moveBreaker X n i hi _ _ hwi2) mv_F_158 rfl rfl rfl (Or.inr ⟨rfl, rfl⟩) rfl rfl ⟨Nat.le_of_ble_eq_true rfl, Nat.le_of_ble_eq_true rfl⟩ ⟨rfl, rfl⟩ ⟨Nat.zero_le _, Nat.zero_le _⟩ (Nat.le_of_ble_eq_true rfl) (fun I' J' hp5 => ?_)
      obtain ⟨rfl, rfl⟩ := hp5
      refine fr_iinc (v := (nI (i + 1))) (L' := [(1, .int _), (0, .ref _)]) d_F_tick_57 rfl (fr_inc _) (by decide) rfl ?_
      refine fr_goto 44 d_F_tick_60 rfl ?_
      refine fr_pick (L' := [(1, .int _), (0, .ref _)]) [0, 1] rfl ?_
      refine fr_eqI (I' := fr_it (fb_F_tick2 ) ((fr_it (fb_F_tick1 ) ((fr_ui I 0 0 5 ((I 0 0 5) + 1))) n)) (i + 1)) (Eq.symm (by rw [fr_it_s, fb_F_tick2_eq])) rfl ?_
      exact ih
  · skip
    have hwi1 : fr_wf n ((fr_it (fb_F_tick1 ) ((fr_ui I 0 0 5 ((I 0 0 5) + 1))) i)) := (fw_it n (fun I i hi hw => fw_fb_F_tick1  hw) (fw_ui (k := 0) (j := 5) rfl hw) i (Nat.le_of_lt hi))
    refine fr_iload_n d_F_tick_12 rfl ?_
    refine fr_aload_n d_F_tick_13 rfl ?_
    refine fr_geti d_F_tick_14 fl_F_30 rfl rfl (Or.inr ⟨rfl, rfl⟩) ?_
    refine fr_icmp_ge 42 d_F_tick_17 rfl (fun h => absurd h (by rw [fw_cnt hwi1]; exact nI_ge hi (by have := fw_n8 hw; omega))) (fun _ => ?_)
    refine fr_aload_n d_F_tick_20 rfl ?_
    refine fr_getr (k' := 1) (r' := 0) d_F_tick_21 fl_F_11 rfl rfl rfl (Or.inr ⟨rfl, rfl⟩) ?_
    refine fr_iload_n d_F_tick_24 rfl ?_
    refine fr_aald (k' := 7) (r' := i) (i) d_F_tick_25 rfl rfl (if_pos hi) (Or.inr ⟨rfl, rfl⟩) rfl (fw_lt8 hw hi) (by decide) ?_
    refine fr_getr (k' := 11) (r' := i) d_F_tick_26 fl_F_86 rfl rfl rfl (Or.inl ⟨rfl, hi⟩) ?_
    refine fr_aload_n d_F_tick_29 rfl ?_
    refine fr_geti d_F_tick_30 fl_F_34 rfl rfl (Or.inr ⟨rfl, rfl⟩) ?_
    refine fr_callVv fr_q5 d_F_tick_33 (ct_W_deliver X n i hi _ _ _) mv_F_155 rfl rfl rfl (Or.inl ⟨rfl, hi⟩) rfl rfl ⟨Nat.le_of_ble_eq_true rfl, Nat.le_of_ble_eq_true rfl⟩ ⟨rfl, rfl⟩ ⟨Nat.zero_le _, Nat.zero_le _⟩ (Nat.le_of_ble_eq_true rfl) (fun I' J' hp6 => ?_)
    obtain ⟨rfl, rfl⟩ := hp6
    refine fr_iinc (v := (nI (i + 1))) (L' := [(1, .int _), (0, .ref _)]) d_F_tick_36 rfl (fr_inc _) (by decide) rfl ?_
    refine fr_goto 12 d_F_tick_39 rfl ?_
    refine fr_pick (L' := [(1, .int _), (0, .ref _)]) [0, 1] rfl ?_
    refine fr_eqI (I' := fr_it (fb_F_tick1 ) ((fr_ui I 0 0 5 ((I 0 0 5) + 1))) (i + 1)) (Eq.symm (by rw [fr_it_s, fb_F_tick1_eq])) rfl ?_
    exact ih
theorem fw_F_tick {n : Nat} {I : fr_I} {J : fr_J} (hw : fr_wf n I) : fr_wf n (f_F_tick I J n).1 := by
  unfold f_F_tick
  exact (fw_J_store (fw_it n (fun I i hi hw => fw_fb_F_tick4  hw) (fw_it n (fun I i hi hw => fw_fb_F_tick3  hw) (fw_F_measureAll (fw_it n (fun I i hi hw => fw_fb_F_tick2  hw) (fw_it n (fun I i hi hw => fw_fb_F_tick1  hw) (fw_ui (k := 0) (j := 5) rfl hw) n (Nat.le_refl _)) n (Nat.le_refl _))) n (Nat.le_refl _)) n (Nat.le_refl _)))
theorem fr_win {I : fr_I} {k a b : Nat} (h1 : a ≤ k) (h2 : k ≤ b) (hb : b < 2 ^ 31) : f_F_isWithin I (nI k) (nI a) (nI b) = 1 := by
  unfold f_F_isWithin
  rw [if_neg (nI_nlt h1 (by omega)), if_neg (nI_nlt h2 (by omega))]
def fb_F_run (n : Nat) (s : fr_I × fr_J) (i : Nat) : fr_I × fr_J :=
  ((f_F_tick (s.1) (s.2) n).1, (f_F_tick (s.1) (s.2) n).2)
theorem fb_F_run_eq (n : Nat) (s : fr_I × fr_J) (i : Nat) : fb_F_run n s i =
  ((f_F_tick (s.1) (s.2) n).1, (f_F_tick (s.1) (s.2) n).2) := rfl
theorem fw_fb_F_run {n : Nat} {s : fr_I × fr_J} {i : Nat} (hw : fr_wf n s.1) : fr_wf n (fb_F_run n s i).1 := by
  unfold fb_F_run
  exact (fw_F_tick hw)
def f_F_run (I : fr_I) (J : fr_J) (n : Nat) (k : Nat) : Int32 × fr_I × fr_J :=
  (((fr_jt (fb_F_run n) (I, J) k).1 0 0 5), (fr_jt (fb_F_run n) (I, J) k).1, (fr_jt (fb_F_run n) (I, J) k).2)
set_option maxRecDepth 10000 in
theorem ct_F_run (X : fr_X) (n : Nat) (k : Nat) (I : fr_I) (J : fr_J)  (hw : fr_wf n I) (hk1 : 1 ≤ k) (hk2 : k ≤ 20) : fr_Ct X y_F_run c_F_run 3 (some .int) (fr_rm 5) [.ref (fr_ad X 0 0), .int (nI k)] (fr_Z0 X n) (fr_Z0 X n) I J (fr_pi (fun x I' J' => (f_F_run I J n k).1 = x ∧ (f_F_run I J n k).2.1 = I' ∧ (f_F_run I J n k).2.2 = J')) := by
  refine fr_ct (by decide) rfl rfl (Nat.le_of_ble_eq_true rfl) rfl (fun E => ?_)
  refine fr_iload_n d_F_run_0 rfl ?_
  refine fr_iconst d_F_run_1 fr_i1 ?_
  refine fr_bipush d_F_run_2 fr_b20 ?_
  refine fr_callSi d_F_run_4 (ct_F_isWithin X n _ _ _ _ _) ms_F_47 rfl rfl ⟨Nat.le_of_ble_eq_true rfl, Nat.le_of_ble_eq_true rfl⟩ ⟨rfl, rfl⟩ ⟨Nat.zero_le _, Nat.zero_le _⟩ (Nat.le_of_ble_eq_true rfl) (fun x I' J' hp1 => ?_)
  obtain ⟨rfl, rfl, rfl⟩ := hp1
  rw [show f_F_isWithin I (nI k) 1 20 = 1 from fr_win (a := 1) (b := 20) hk1 hk2 (by decide)]
  refine fr_if_ne 12 d_F_run_7 rfl (fun _ => ?_) (fun h => absurd h (by decide))
  refine fr_iconst d_F_run_12 fr_i0 ?_
  refine fr_istore_n (L' := [(2, .int _), (0, .ref _), (1, .int _)]) d_F_run_13 (by decide) rfl ?_
  refine fr_pick (L' := [(2, .int _), (0, .ref _), (1, .int _)]) [0, 1, 2] rfl ?_
  refine fr_loop (fun i => (fr_jt (fb_F_run n) (I, J) i).1) (fun i => (fr_jt (fb_F_run n) (I, J) i).2) (fun i => [(2, .int (nI i)), (0, .ref (fr_ad X 0 0)), (1, .int (nI k))]) k rfl fr_jt_1 fr_jt_2 ?_ (fun i hi ih => ?_)
  · skip
    have hwe1 : fr_wf n ((fr_jt (fb_F_run n) (I, J) k).1) := (fw_jt k (fun s i hi hw => fw_fb_F_run  hw) hw k (Nat.le_refl _))
    refine fr_iload_n d_F_run_14 rfl ?_
    refine fr_iload_n d_F_run_15 rfl ?_
    refine fr_icmp_ge 29 d_F_run_16 rfl (fun _ => ?_) (fun h => absurd (nI_le (Nat.le_refl _) (by omega)) h)
    refine fr_aload_n d_F_run_29 rfl ?_
    refine fr_geti d_F_run_30 fl_F_34 rfl rfl (Or.inr ⟨rfl, rfl⟩) ?_
    exact fr_iret d_F_run_33 rfl (fr_nar_i _) (Nat.zero_le _) (Nat.zero_le _) (fr_tIJx (rfl))
  · skip
    have hwi1 : fr_wf n ((fr_jt (fb_F_run n) (I, J) i).1) := (fw_jt k (fun s i hi hw => fw_fb_F_run  hw) hw i (Nat.le_of_lt hi))
    refine fr_iload_n d_F_run_14 rfl ?_
    refine fr_iload_n d_F_run_15 rfl ?_
    refine fr_icmp_ge 29 d_F_run_16 rfl (fun h => absurd h (nI_ge hi (by omega))) (fun _ => ?_)
    refine fr_aload_n d_F_run_19 rfl ?_
    refine fr_callVv fr_q0 d_F_run_20 (ct_F_tick X n _ _ hwi1) mv_F_101 rfl rfl rfl (Or.inr ⟨rfl, rfl⟩) rfl rfl ⟨Nat.le_of_ble_eq_true rfl, Nat.le_of_ble_eq_true rfl⟩ ⟨rfl, rfl⟩ ⟨Nat.zero_le _, Nat.zero_le _⟩ (Nat.le_of_ble_eq_true rfl) (fun I' J' hp2 => ?_)
    obtain ⟨rfl, rfl⟩ := hp2
    refine fr_iinc (v := (nI (i + 1))) (L' := [(2, .int _), (0, .ref _), (1, .int _)]) d_F_run_23 rfl (fr_inc _) (by decide) rfl ?_
    refine fr_goto 14 d_F_run_26 rfl ?_
    refine fr_pick (L' := [(2, .int _), (0, .ref _), (1, .int _)]) [0, 1, 2] rfl ?_
    have he : fr_jt (fb_F_run n) (I, J) (i + 1) = ((f_F_tick ((fr_jt (fb_F_run n) (I, J) i).1) ((fr_jt (fb_F_run n) (I, J) i).2) n).1, (f_F_tick ((fr_jt (fb_F_run n) (I, J) i).1) ((fr_jt (fb_F_run n) (I, J) i).2) n).2) := by rw [fr_jt_s, fb_F_run_eq]
    refine fr_eqI (fr_pr1 (J' := J) (I' := I) he) (fr_pr2 (J' := J) (I' := I) he) ?_
    exact ih
theorem fw_F_run {n : Nat} {I : fr_I} {J : fr_J} {k : Nat} (hw : fr_wf n I) : fr_wf n (f_F_run I J n k).2.1 := by
  unfold f_F_run
  exact (fw_jt k (fun s i hi hw => fw_fb_F_run  hw) hw k (Nat.le_refl _))
def f_F_run_no (I : fr_I) (p1 : Int32) : Int32 :=
  (-1)
set_option maxRecDepth 10000 in
theorem ct_F_run_no (X : fr_X) (n : Nat) (I : fr_I) (J : fr_J) (p1 : Int32) (hx : f_F_isWithin I p1 1 20 = 0) : fr_Ct X y_F_run c_F_run 3 (some .int) (fr_rm 5) [.ref (fr_ad X 0 0), .int p1] (fr_Z0 X n) (fr_Z0 X n) I J (fr_pi (fun x I' J' => (f_F_run_no I p1) = x ∧ I = I' ∧ J = J')) := by
  refine fr_ct (by decide) rfl rfl (Nat.le_of_ble_eq_true rfl) rfl (fun E => ?_)
  refine fr_iload_n d_F_run_0 rfl ?_
  refine fr_iconst d_F_run_1 fr_i1 ?_
  refine fr_bipush d_F_run_2 fr_b20 ?_
  refine fr_callSi d_F_run_4 (ct_F_isWithin X n _ _ _ _ _) ms_F_47 rfl rfl ⟨Nat.le_of_ble_eq_true rfl, Nat.le_of_ble_eq_true rfl⟩ ⟨rfl, rfl⟩ ⟨Nat.zero_le _, Nat.zero_le _⟩ (Nat.le_of_ble_eq_true rfl) (fun x I' J' hp1 => ?_)
  obtain ⟨rfl, rfl, rfl⟩ := hp1
  rw [hx]
  refine fr_if_ne 12 d_F_run_7 rfl (fun h => absurd h (by decide)) (fun _ => ?_)
  refine fr_iconst d_F_run_10 fr_im1 ?_
  exact fr_iret d_F_run_11 rfl (fr_nar_i _) (Nat.zero_le _) (Nat.zero_le _) ⟨rfl, rfl, rfl⟩
def fb_F_crash  (s : fr_I × fr_J) (i : Nat) : fr_I × fr_J :=
  ((f_B_forget ((f_W_forget ((f_M_forget (s.1) (s.2) i).1) i)) i), (f_M_forget (s.1) (s.2) i).2)
theorem fb_F_crash_eq  (s : fr_I × fr_J) (i : Nat) : fb_F_crash  s i =
  ((f_B_forget ((f_W_forget ((f_M_forget (s.1) (s.2) i).1) i)) i), (f_M_forget (s.1) (s.2) i).2) := rfl
theorem fw_fb_F_crash {n : Nat} {s : fr_I × fr_J} {i : Nat} (hw : fr_wf n s.1) : fr_wf n (fb_F_crash  s i).1 := by
  unfold fb_F_crash
  exact (fw_B_forget (fw_W_forget (fw_M_forget hw)))
def f_F_crash (I : fr_I) (J : fr_J) (n : Nat) : Int32 × fr_I × fr_J :=
  ((f_J_dropUnstored ((fr_jt (fb_F_crash ) (I, J) n).1)).1, (f_J_dropUnstored ((fr_jt (fb_F_crash ) (I, J) n).1)).2, (fr_jt (fb_F_crash ) (I, J) n).2)
set_option maxRecDepth 10000 in
theorem ct_F_crash (X : fr_X) (n : Nat) (I : fr_I) (J : fr_J)  (hw : fr_wf n I) : fr_Ct X y_F_crash c_F_crash 2 (some .int) (fr_rm 2) [.ref (fr_ad X 0 0)] (fr_Z0 X n) (fr_Z0 X n) I J (fr_pi (fun x I' J' => (f_F_crash I J n).1 = x ∧ (f_F_crash I J n).2.1 = I' ∧ (f_F_crash I J n).2.2 = J')) := by
  refine fr_ct (by decide) rfl rfl (Nat.le_of_ble_eq_true rfl) rfl (fun E => ?_)
  refine fr_iconst d_F_crash_0 fr_i0 ?_
  refine fr_istore_n (L' := [(1, .int _), (0, .ref _)]) d_F_crash_1 (by decide) rfl ?_
  refine fr_pick (L' := [(1, .int _), (0, .ref _)]) [0, 1] rfl ?_
  refine fr_loop (fun i => (fr_jt (fb_F_crash ) (I, J) i).1) (fun i => (fr_jt (fb_F_crash ) (I, J) i).2) (fun i => [(1, .int (nI i)), (0, .ref (fr_ad X 0 0))]) n rfl fr_jt_1 fr_jt_2 ?_ (fun i hi ih => ?_)
  · skip
    have hwe1 : fr_wf n ((fr_jt (fb_F_crash ) (I, J) n).1) := (fw_jt n (fun s i hi hw => fw_fb_F_crash  hw) hw n (Nat.le_refl _))
    refine fr_iload_n d_F_crash_2 rfl ?_
    refine fr_aload_n d_F_crash_3 rfl ?_
    refine fr_geti d_F_crash_4 fl_F_30 rfl rfl (Or.inr ⟨rfl, rfl⟩) ?_
    refine fr_icmp_ge 52 d_F_crash_7 rfl (fun _ => ?_) (fun h => absurd (by rw [fw_cnt hwe1]; exact nI_le (Nat.le_refl _) (by have := fw_n8 hw; omega)) h)
    refine fr_aload_n d_F_crash_52 rfl ?_
    refine fr_getr (k' := 4) (r' := 0) d_F_crash_53 fl_F_26 rfl rfl rfl (Or.inr ⟨rfl, rfl⟩) ?_
    refine fr_callVi fr_q1 d_F_crash_56 (ct_J_dropUnstored X n _ _) mv_F_106 rfl rfl rfl (Or.inr ⟨rfl, rfl⟩) rfl rfl ⟨Nat.le_of_ble_eq_true rfl, Nat.le_of_ble_eq_true rfl⟩ ⟨rfl, rfl⟩ ⟨Nat.zero_le _, Nat.zero_le _⟩ (Nat.le_of_ble_eq_true rfl) (fun x I' J' hp1 => ?_)
    obtain ⟨rfl, rfl, rfl⟩ := hp1
    exact fr_iret d_F_crash_59 rfl (fr_nar_i _) (Nat.zero_le _) (Nat.zero_le _) (fr_tIJx (rfl))
  · skip
    have hwi1 : fr_wf n ((fr_jt (fb_F_crash ) (I, J) i).1) := (fw_jt n (fun s i hi hw => fw_fb_F_crash  hw) hw i (Nat.le_of_lt hi))
    refine fr_iload_n d_F_crash_2 rfl ?_
    refine fr_aload_n d_F_crash_3 rfl ?_
    refine fr_geti d_F_crash_4 fl_F_30 rfl rfl (Or.inr ⟨rfl, rfl⟩) ?_
    refine fr_icmp_ge 52 d_F_crash_7 rfl (fun h => absurd h (by rw [fw_cnt hwi1]; exact nI_ge hi (by have := fw_n8 hw; omega))) (fun _ => ?_)
    refine fr_aload_n d_F_crash_10 rfl ?_
    refine fr_getr (k' := 1) (r' := 0) d_F_crash_11 fl_F_11 rfl rfl rfl (Or.inr ⟨rfl, rfl⟩) ?_
    refine fr_iload_n d_F_crash_14 rfl ?_
    refine fr_aald (k' := 7) (r' := i) (i) d_F_crash_15 rfl rfl (if_pos hi) (Or.inr ⟨rfl, rfl⟩) rfl (fw_lt8 hw hi) (by decide) ?_
    refine fr_getr (k' := 8) (r' := i) d_F_crash_16 fl_F_51 rfl rfl rfl (Or.inl ⟨rfl, hi⟩) ?_
    refine fr_callVv fr_q3 d_F_crash_19 (ct_M_forget X n i hi _ _) mv_F_104 rfl rfl rfl (Or.inl ⟨rfl, hi⟩) rfl rfl ⟨Nat.le_of_ble_eq_true rfl, Nat.le_of_ble_eq_true rfl⟩ ⟨rfl, rfl⟩ ⟨Nat.zero_le _, Nat.zero_le _⟩ (Nat.le_of_ble_eq_true rfl) (fun I' J' hp2 => ?_)
    obtain ⟨rfl, rfl⟩ := hp2
    refine fr_aload_n d_F_crash_22 rfl ?_
    refine fr_getr (k' := 1) (r' := 0) d_F_crash_23 fl_F_11 rfl rfl rfl (Or.inr ⟨rfl, rfl⟩) ?_
    refine fr_iload_n d_F_crash_26 rfl ?_
    refine fr_aald (k' := 7) (r' := i) (i) d_F_crash_27 rfl rfl (if_pos hi) (Or.inr ⟨rfl, rfl⟩) rfl (fw_lt8 hw hi) (by decide) ?_
    refine fr_getr (k' := 11) (r' := i) d_F_crash_28 fl_F_86 rfl rfl rfl (Or.inl ⟨rfl, hi⟩) ?_
    refine fr_callVv fr_q5 d_F_crash_31 (ct_W_forget X n i hi _ _) mv_F_105 rfl rfl rfl (Or.inl ⟨rfl, hi⟩) rfl rfl ⟨Nat.le_of_ble_eq_true rfl, Nat.le_of_ble_eq_true rfl⟩ ⟨rfl, rfl⟩ ⟨Nat.zero_le _, Nat.zero_le _⟩ (Nat.le_of_ble_eq_true rfl) (fun I' J' hp3 => ?_)
    obtain ⟨rfl, rfl⟩ := hp3
    refine fr_aload_n d_F_crash_34 rfl ?_
    refine fr_getr (k' := 1) (r' := 0) d_F_crash_35 fl_F_11 rfl rfl rfl (Or.inr ⟨rfl, rfl⟩) ?_
    refine fr_iload_n d_F_crash_38 rfl ?_
    refine fr_aald (k' := 7) (r' := i) (i) d_F_crash_39 rfl rfl (if_pos hi) (Or.inr ⟨rfl, rfl⟩) rfl (fw_lt8 hw hi) (by decide) ?_
    refine fr_getr (k' := 10) (r' := i) d_F_crash_40 fl_F_77 rfl rfl rfl (Or.inl ⟨rfl, hi⟩) ?_
    refine fr_callVv fr_q4 d_F_crash_43 (ct_B_forget X n i hi _ _) mv_F_98 rfl rfl rfl (Or.inl ⟨rfl, hi⟩) rfl rfl ⟨Nat.le_of_ble_eq_true rfl, Nat.le_of_ble_eq_true rfl⟩ ⟨rfl, rfl⟩ ⟨Nat.zero_le _, Nat.zero_le _⟩ (Nat.le_of_ble_eq_true rfl) (fun I' J' hp4 => ?_)
    obtain ⟨rfl, rfl⟩ := hp4
    refine fr_iinc (v := (nI (i + 1))) (L' := [(1, .int _), (0, .ref _)]) d_F_crash_46 rfl (fr_inc _) (by decide) rfl ?_
    refine fr_goto 2 d_F_crash_49 rfl ?_
    refine fr_pick (L' := [(1, .int _), (0, .ref _)]) [0, 1] rfl ?_
    have he : fr_jt (fb_F_crash ) (I, J) (i + 1) = ((f_B_forget ((f_W_forget ((f_M_forget ((fr_jt (fb_F_crash ) (I, J) i).1) ((fr_jt (fb_F_crash ) (I, J) i).2) i).1) i)) i), (f_M_forget ((fr_jt (fb_F_crash ) (I, J) i).1) ((fr_jt (fb_F_crash ) (I, J) i).2) i).2) := by rw [fr_jt_s, fb_F_crash_eq]
    refine fr_eqI (fr_pr1 (J' := J) (I' := I) he) (fr_pr2 (J' := J) (I' := I) he) ?_
    exact ih
theorem fw_F_crash {n : Nat} {I : fr_I} {J : fr_J} (hw : fr_wf n I) : fr_wf n (f_F_crash I J n).2.1 := by
  unfold f_F_crash
  exact (fw_J_dropUnstored (fw_jt n (fun s i hi hw => fw_fb_F_crash  hw) hw n (Nat.le_refl _)))
end
section
-- what the reference's own steps rest on
def fr_mw (n : Nat) (I : fr_I) : Prop := n ≤ 8 ∧ I 20 0 0 = nI n ∧ fr_nn (I 20 0 33) 201 ∧ fr_nn (I 20 0 34) 201 ∧ (∀ r, r < n → (r = 0 ∧ I 42 0 r = -1) ∨ ∃ a, a < r ∧ I 42 0 r = nI a) ∧ (∀ r, r < n → fr_nn (I 68 0 r) 16)
def fr_mws (k j : Nat) : Bool := (k == 20 && (j == 0 || (j == 33 || j == 34))) || (k == 42 || k == 68)
theorem fm_of {n : Nat} {I I' : fr_I} (key : ∀ a b c, fr_mws a c = true → I' a b c = I a b c) (hw : fr_mw n I) : fr_mw n I' := by
  obtain ⟨h1, h2, h3, h4, h5, h6⟩ := hw
  exact ⟨h1, (key 20 0 0 rfl).trans h2, by rw [key 20 0 33 rfl]; exact h3, by rw [key 20 0 34 rfl]; exact h4, fun q hq => by rw [key 42 0 q rfl]; exact h5 q hq, fun q hq => by rw [key 68 0 q rfl]; exact h6 q hq⟩
theorem fm_ui {n : Nat} {I : fr_I} {k r j : Nat} {v : Int32} (h : fr_mws k j = false) (hw : fr_mw n I) : fr_mw n (fr_ui I k r j v) :=
  fm_of (fun a b c hs => fr_ui_n (fun z => by rw [z.1, z.2.2, h] at hs; cases hs)) hw
theorem fm_cnt {n : Nat} {I : fr_I} (hw : fr_mw n I) : I 20 0 0 = nI n := hw.2.1
theorem fm_n8 {n : Nat} {I : fr_I} (hw : fr_mw n I) : n ≤ 8 := hw.1
theorem fm_lt8 {n r : Nat} {I : fr_I} (hw : fr_mw n I) (hr : r < n) : r < 8 := Nat.lt_of_lt_of_le hr hw.1
theorem fm_ev_eq {n : Nat} {I : fr_I} (hw : fr_mw n I) : I 20 0 33 = nI (I 20 0 33).toNatClampNeg := fr_nn_eq (by decide) hw.2.2.1
theorem fm_ev_lt {n : Nat} {I : fr_I} (hw : fr_mw n I) (h : ¬ (200 : Int32) ≤ I 20 0 33) : (I 20 0 33).toNatClampNeg < 200 := by
  obtain ⟨e, he, h2⟩ := hw.2.2.1
  rw [h2] at h ⊢
  rw [nI_clamp (by omega)]
  rcases Nat.lt_or_ge e 200 with h3 | h3
  · exact h3
  · exact absurd (nI_le h3 (by omega)) h
theorem fm_abv_eq {n r : Nat} {I : fr_I} (hw : fr_mw n I) (hr : r < n) (h : ¬ I 42 0 r < 0) : I 42 0 r = nI (I 42 0 r).toNatClampNeg := by
  rcases hw.2.2.2.2.1 r hr with ⟨_, h1⟩ | ⟨a, ha, h1⟩
  · exact absurd (by rw [h1]; decide) h
  · have := hw.1
    rw [h1, nI_clamp (by omega)]
theorem fm_abv_lt {n r : Nat} {I : fr_I} (hw : fr_mw n I) (hr : r < n) (h : ¬ I 42 0 r < 0) : (I 42 0 r).toNatClampNeg < r := by
  rcases hw.2.2.2.2.1 r hr with ⟨_, h1⟩ | ⟨a, ha, h1⟩
  · exact absurd (by rw [h1]; decide) h
  · have := hw.1
    rw [h1, nI_clamp (by omega)]
    exact ha
theorem fm_un_eq {n r : Nat} {I : fr_I} (hw : fr_mw n I) (hr : r < n) : I 68 0 r = nI (I 68 0 r).toNatClampNeg := fr_nn_eq (by decide) (hw.2.2.2.2.2 r hr)
theorem fm_un_lt {n r : Nat} {I : fr_I} (hw : fr_mw n I) (hr : r < n) : (I 68 0 r).toNatClampNeg < 16 := fr_nn_lt (by decide) (hw.2.2.2.2.2 r hr)
/-- a message more under way -/
theorem fm_unp {n r : Nat} {I : fr_I} {v : Int32} (hv : fr_nn v 16) (hw : fr_mw n I) : fr_mw n (fr_ui I 68 0 r v) := by
  obtain ⟨h1, h2, h3, h4, h5, h6⟩ := hw
  refine ⟨h1, (fr_ui_n (fun z => absurd z.1 (by decide))).trans h2, by rw [fr_ui_n (fun z => absurd z.1 (by decide))]; exact h3, by rw [fr_ui_n (fun z => absurd z.1 (by decide))]; exact h4, fun q hq => by rw [fr_ui_n (fun z => absurd z.1 (by decide))]; exact h5 q hq, fun q hq => ?_⟩
  by_cases e : q = r
  · subst e
    rw [fr_ui_s]; exact hv
  · rw [fr_ui_n (fun z => e z.2.2)]; exact h6 q hq
end
section
def f_O_none (I : fr_I) (p1 : Int32) : Int32 :=
  if p1 < 0 then
    1
  else
    if p1 < (I 20 0 0) then
      0
    else
      1
set_option maxRecDepth 10000 in
theorem ct_O_none (X : fr_X) (n : Nat) (I : fr_I) (J : fr_J) (p1 : Int32) : fr_Ct X y_O_none c_O_none 2 (some .boolean) (fr_rm 0) [.ref (fr_ad X 20 0), .int p1] (fr_Z0 X n) (fr_Z0 X n) I J (fr_pi (fun x I' J' => (f_O_none I p1) = x ∧ I = I' ∧ J = J')) := by
  refine fr_ct (by decide) rfl rfl (Nat.le_of_ble_eq_true rfl) rfl (fun E => ?_)
  refine fr_iload_n d_O_none_0 rfl ?_
  refine fr_if_lt 12 d_O_none_1 rfl (fun h1 => ?_) (fun h1 => ?_)
  · skip
    refine fr_iconst d_O_none_12 fr_i1 ?_
    refine fr_goto 17 d_O_none_13 rfl ?_
    exact fr_iret d_O_none_17 rfl (fr_nar_b (Or.inr rfl)) (Nat.zero_le _) (Nat.zero_le _) ⟨(by unfold f_O_none; rw [if_pos h1]), rfl, rfl⟩
  · skip
    refine fr_iload_n d_O_none_4 rfl ?_
    refine fr_aload_n d_O_none_5 rfl ?_
    refine fr_geti d_O_none_6 fl_O_111 rfl rfl (Or.inr ⟨rfl, rfl⟩) ?_
    refine fr_icmp_lt 16 d_O_none_9 rfl (fun h2 => ?_) (fun h2 => ?_)
    · skip
      refine fr_iconst d_O_none_16 fr_i0 ?_
      exact fr_iret d_O_none_17 rfl (fr_nar_b (Or.inl rfl)) (Nat.zero_le _) (Nat.zero_le _) ⟨(by unfold f_O_none; rw [if_neg h1, if_pos h2]), rfl, rfl⟩
    · skip
      refine fr_iconst d_O_none_12 fr_i1 ?_
      refine fr_goto 17 d_O_none_13 rfl ?_
      exact fr_iret d_O_none_17 rfl (fr_nar_b (Or.inr rfl)) (Nat.zero_le _) (Nat.zero_le _) ⟨(by unfold f_O_none; rw [if_neg h1, if_neg h2]), rfl, rfl⟩
theorem fm_none {n r : Nat} {I : fr_I} (hw : fr_mw n I) (hr : r < n) : f_O_none I (nI r) = 0 := by
  have h8 := hw.1
  unfold f_O_none
  rw [if_neg (nI_pos (by omega)), fm_cnt hw, if_pos (nI_lt hr (by omega))]
def f_O_settings (I : fr_I) (r : Nat) (p2 : Int32) (p3 : Int32) (p4 : Int32) : Int32 × fr_I :=
  if p2 < 0 then
    (0, I)
  else
    if 2 < p2 then
      (0, I)
    else
      if p3 < 1 then
        (0, I)
      else
        if 5000 < p3 then
          (0, I)
        else
          if p4 < 1 then
            (0, I)
          else
            if p4 ≤ 1000 then
              (1, (fr_ui (fr_ui (fr_ui I 47 0 r p2) 48 0 r p3) 49 0 r p4))
            else
              (0, I)
set_option maxRecDepth 10000 in
theorem ct_O_settings (X : fr_X) (n : Nat) (r : Nat) (hr : r < n) (I : fr_I) (J : fr_J) (p2 : Int32) (p3 : Int32) (p4 : Int32) (hw : fr_mw n I) : fr_Ct X y_O_settings c_O_settings 5 (some .boolean) (fr_rm 1) [.ref (fr_ad X 20 0), .int (nI r), .int p2, .int p3, .int p4] (fr_Z0 X n) (fr_Z0 X n) I J (fr_pi (fun x I' J' => (f_O_settings I r p2 p3 p4).1 = x ∧ (f_O_settings I r p2 p3 p4).2 = I' ∧ J = J')) := by
  refine fr_ct (by decide) rfl rfl (Nat.le_of_ble_eq_true rfl) rfl (fun E => ?_)
  refine fr_aload_n d_O_settings_0 rfl ?_
  refine fr_iload_n d_O_settings_1 rfl ?_
  refine fr_callVi fr_q6 d_O_settings_2 (ct_O_none X n _ _ _) mv_O_118 rfl rfl rfl (Or.inr ⟨rfl, rfl⟩) rfl rfl ⟨Nat.le_of_ble_eq_true rfl, Nat.le_of_ble_eq_true rfl⟩ ⟨rfl, rfl⟩ ⟨Nat.zero_le _, Nat.zero_le _⟩ (Nat.le_of_ble_eq_true rfl) (fun x I' J' hp1 => ?_)
  obtain ⟨rfl, rfl, rfl⟩ := hp1
  rw [fm_none hw hr]
  refine fr_if_ne 43 d_O_settings_5 rfl (fun h => absurd h (by decide)) (fun _ => ?_)
  refine fr_iload_n d_O_settings_8 rfl ?_
  refine fr_if_lt 43 d_O_settings_9 rfl (fun h2 => ?_) (fun h2 => ?_)
  · skip
    refine fr_iconst d_O_settings_43 fr_i0 ?_
    exact fr_iret d_O_settings_44 rfl (fr_nar_b (Or.inl rfl)) (Nat.zero_le _) (Nat.zero_le _) (fr_tIx (by unfold f_O_settings; rw [if_pos h2]))
  · skip
    refine fr_iload_n d_O_settings_12 rfl ?_
    refine fr_iconst d_O_settings_13 fr_i2 ?_
    refine fr_icmp_gt 43 d_O_settings_14 rfl (fun h3 => ?_) (fun h3 => ?_)
    · skip
      refine fr_iconst d_O_settings_43 fr_i0 ?_
      exact fr_iret d_O_settings_44 rfl (fr_nar_b (Or.inl rfl)) (Nat.zero_le _) (Nat.zero_le _) (fr_tIx (by unfold f_O_settings; rw [if_neg h2, if_pos h3]))
    · skip
      refine fr_iload_n d_O_settings_17 rfl ?_
      refine fr_iconst d_O_settings_18 fr_i1 ?_
      refine fr_icmp_lt 43 d_O_settings_19 rfl (fun h4 => ?_) (fun h4 => ?_)
      · skip
        refine fr_iconst d_O_settings_43 fr_i0 ?_
        exact fr_iret d_O_settings_44 rfl (fr_nar_b (Or.inl rfl)) (Nat.zero_le _) (Nat.zero_le _) (fr_tIx (by unfold f_O_settings; rw [if_neg h2, if_neg h3, if_pos h4]))
      · skip
        refine fr_iload_n d_O_settings_22 rfl ?_
        refine fr_sipush d_O_settings_23 fr_s5000 ?_
        refine fr_icmp_gt 43 d_O_settings_26 rfl (fun h5 => ?_) (fun h5 => ?_)
        · skip
          refine fr_iconst d_O_settings_43 fr_i0 ?_
          exact fr_iret d_O_settings_44 rfl (fr_nar_b (Or.inl rfl)) (Nat.zero_le _) (Nat.zero_le _) (fr_tIx (by unfold f_O_settings; rw [if_neg h2, if_neg h3, if_neg h4, if_pos h5]))
        · skip
          refine fr_iload d_O_settings_29 rfl ?_
          refine fr_iconst d_O_settings_31 fr_i1 ?_
          refine fr_icmp_lt 43 d_O_settings_32 rfl (fun h6 => ?_) (fun h6 => ?_)
          · skip
            refine fr_iconst d_O_settings_43 fr_i0 ?_
            exact fr_iret d_O_settings_44 rfl (fr_nar_b (Or.inl rfl)) (Nat.zero_le _) (Nat.zero_le _) (fr_tIx (by unfold f_O_settings; rw [if_neg h2, if_neg h3, if_neg h4, if_neg h5, if_pos h6]))
          · skip
            refine fr_iload d_O_settings_35 rfl ?_
            refine fr_sipush d_O_settings_37 fr_s1000 ?_
            refine fr_icmp_le 45 d_O_settings_40 rfl (fun h7 => ?_) (fun h7 => ?_)
            · skip
              refine fr_aload_n d_O_settings_45 rfl ?_
              refine fr_getr (k' := 47) (r' := 0) d_O_settings_46 fl_O_26 rfl rfl rfl (Or.inr ⟨rfl, rfl⟩) ?_
              refine fr_iload_n d_O_settings_49 rfl ?_
              refine fr_iload_n d_O_settings_50 rfl ?_
              refine fr_iast (r) d_O_settings_51 rfl rfl (Or.inr ⟨rfl, rfl⟩) rfl (fm_lt8 hw hr) (by decide) ?_
              refine fr_aload_n d_O_settings_52 rfl ?_
              refine fr_getr (k' := 48) (r' := 0) d_O_settings_53 fl_O_29 rfl rfl rfl (Or.inr ⟨rfl, rfl⟩) ?_
              refine fr_iload_n d_O_settings_56 rfl ?_
              refine fr_iload_n d_O_settings_57 rfl ?_
              refine fr_iast (r) d_O_settings_58 rfl rfl (Or.inr ⟨rfl, rfl⟩) rfl (fm_lt8 hw hr) (by decide) ?_
              refine fr_aload_n d_O_settings_59 rfl ?_
              refine fr_getr (k' := 49) (r' := 0) d_O_settings_60 fl_O_32 rfl rfl rfl (Or.inr ⟨rfl, rfl⟩) ?_
              refine fr_iload_n d_O_settings_63 rfl ?_
              refine fr_iload d_O_settings_64 rfl ?_
              refine fr_iast (r) d_O_settings_66 rfl rfl (Or.inr ⟨rfl, rfl⟩) rfl (fm_lt8 hw hr) (by decide) ?_
              refine fr_iconst d_O_settings_67 fr_i1 ?_
              exact fr_iret d_O_settings_68 rfl (fr_nar_b (Or.inr rfl)) (Nat.zero_le _) (Nat.zero_le _) (fr_tIx (by unfold f_O_settings; rw [if_neg h2, if_neg h3, if_neg h4, if_neg h5, if_neg h6, if_pos h7]))
            · skip
              refine fr_iconst d_O_settings_43 fr_i0 ?_
              exact fr_iret d_O_settings_44 rfl (fr_nar_b (Or.inl rfl)) (Nat.zero_le _) (Nat.zero_le _) (fr_tIx (by unfold f_O_settings; rw [if_neg h2, if_neg h3, if_neg h4, if_neg h5, if_neg h6, if_neg h7]))
theorem fw_O_settings {n : Nat} {I : fr_I} {r : Nat} {p2 : Int32} {p3 : Int32} {p4 : Int32} (hw : fr_mw n I) : fr_mw n (f_O_settings I r p2 p3 p4).2 := by
  unfold f_O_settings
  refine fw_ite_2 (fun h => ?_) (fun h => ?_)
  · skip
    exact hw
  · skip
    refine fw_ite_2 (fun h => ?_) (fun h => ?_)
    · skip
      exact hw
    · skip
      refine fw_ite_2 (fun h => ?_) (fun h => ?_)
      · skip
        exact hw
      · skip
        refine fw_ite_2 (fun h => ?_) (fun h => ?_)
        · skip
          exact hw
        · skip
          refine fw_ite_2 (fun h => ?_) (fun h => ?_)
          · skip
            exact hw
          · skip
            refine fw_ite_2 (fun h => ?_) (fun h => ?_)
            · skip
              exact (fm_ui (k := 49) rfl (fm_ui (k := 48) rfl (fm_ui (k := 47) rfl hw)))
            · skip
              exact hw
def f_O_settings_no (I : fr_I) (p1 : Int32) (p2 : Int32) (p3 : Int32) (p4 : Int32) : Int32 :=
  0
set_option maxRecDepth 10000 in
theorem ct_O_settings_no (X : fr_X) (n : Nat) (I : fr_I) (J : fr_J) (p1 : Int32) (p2 : Int32) (p3 : Int32) (p4 : Int32) (hx : f_O_none I p1 = 1) : fr_Ct X y_O_settings c_O_settings 5 (some .boolean) (fr_rm 1) [.ref (fr_ad X 20 0), .int p1, .int p2, .int p3, .int p4] (fr_Z0 X n) (fr_Z0 X n) I J (fr_pi (fun x I' J' => (f_O_settings_no I p1 p2 p3 p4) = x ∧ I = I' ∧ J = J')) := by
  refine fr_ct (by decide) rfl rfl (Nat.le_of_ble_eq_true rfl) rfl (fun E => ?_)
  refine fr_aload_n d_O_settings_0 rfl ?_
  refine fr_iload_n d_O_settings_1 rfl ?_
  refine fr_callVi fr_q6 d_O_settings_2 (ct_O_none X n _ _ _) mv_O_118 rfl rfl rfl (Or.inr ⟨rfl, rfl⟩) rfl rfl ⟨Nat.le_of_ble_eq_true rfl, Nat.le_of_ble_eq_true rfl⟩ ⟨rfl, rfl⟩ ⟨Nat.zero_le _, Nat.zero_le _⟩ (Nat.le_of_ble_eq_true rfl) (fun x I' J' hp1 => ?_)
  obtain ⟨rfl, rfl, rfl⟩ := hp1
  rw [hx]
  refine fr_if_ne 43 d_O_settings_5 rfl (fun _ => ?_) (fun h => absurd h (by decide))
  refine fr_iconst d_O_settings_43 fr_i0 ?_
  exact fr_iret d_O_settings_44 rfl (fr_nar_b (Or.inl rfl)) (Nat.zero_le _) (Nat.zero_le _) ⟨rfl, rfl, rfl⟩
def f_O_options (I : fr_I) (r : Nat) (p2 : Int32) (p3 : Int32) (p4 : Int32) : Int32 × fr_I :=
  if p3 < 0 then
    (0, I)
  else
    if 3 < p3 then
      (0, I)
    else
      if p4 < 1 then
        (0, I)
      else
        if p4 ≤ 50 then
          (1, (fr_ui (fr_ui (fr_ui I 50 0 r p2) 51 0 r p3) 52 0 r p4))
        else
          (0, I)
set_option maxRecDepth 10000 in
theorem ct_O_options (X : fr_X) (n : Nat) (r : Nat) (hr : r < n) (I : fr_I) (J : fr_J) (p2 : Int32) (p3 : Int32) (p4 : Int32) (hw : fr_mw n I) (hb : p2 = 0 ∨ p2 = 1) : fr_Ct X y_O_options c_O_options 5 (some .boolean) (fr_rm 1) [.ref (fr_ad X 20 0), .int (nI r), .int p2, .int p3, .int p4] (fr_Z0 X n) (fr_Z0 X n) I J (fr_pi (fun x I' J' => (f_O_options I r p2 p3 p4).1 = x ∧ (f_O_options I r p2 p3 p4).2 = I' ∧ J = J')) := by
  refine fr_ct (by decide) rfl rfl (Nat.le_of_ble_eq_true rfl) rfl (fun E => ?_)
  refine fr_aload_n d_O_options_0 rfl ?_
  refine fr_iload_n d_O_options_1 rfl ?_
  refine fr_callVi fr_q6 d_O_options_2 (ct_O_none X n _ _ _) mv_O_118 rfl rfl rfl (Or.inr ⟨rfl, rfl⟩) rfl rfl ⟨Nat.le_of_ble_eq_true rfl, Nat.le_of_ble_eq_true rfl⟩ ⟨rfl, rfl⟩ ⟨Nat.zero_le _, Nat.zero_le _⟩ (Nat.le_of_ble_eq_true rfl) (fun x I' J' hp1 => ?_)
  obtain ⟨rfl, rfl, rfl⟩ := hp1
  rw [fm_none hw hr]
  refine fr_if_ne 30 d_O_options_5 rfl (fun h => absurd h (by decide)) (fun _ => ?_)
  refine fr_iload_n d_O_options_8 rfl ?_
  refine fr_if_lt 30 d_O_options_9 rfl (fun h2 => ?_) (fun h2 => ?_)
  · skip
    refine fr_iconst d_O_options_30 fr_i0 ?_
    exact fr_iret d_O_options_31 rfl (fr_nar_b (Or.inl rfl)) (Nat.zero_le _) (Nat.zero_le _) (fr_tIx (by unfold f_O_options; rw [if_pos h2]))
  · skip
    refine fr_iload_n d_O_options_12 rfl ?_
    refine fr_iconst d_O_options_13 fr_i3 ?_
    refine fr_icmp_gt 30 d_O_options_14 rfl (fun h3 => ?_) (fun h3 => ?_)
    · skip
      refine fr_iconst d_O_options_30 fr_i0 ?_
      exact fr_iret d_O_options_31 rfl (fr_nar_b (Or.inl rfl)) (Nat.zero_le _) (Nat.zero_le _) (fr_tIx (by unfold f_O_options; rw [if_neg h2, if_pos h3]))
    · skip
      refine fr_iload d_O_options_17 rfl ?_
      refine fr_iconst d_O_options_19 fr_i1 ?_
      refine fr_icmp_lt 30 d_O_options_20 rfl (fun h4 => ?_) (fun h4 => ?_)
      · skip
        refine fr_iconst d_O_options_30 fr_i0 ?_
        exact fr_iret d_O_options_31 rfl (fr_nar_b (Or.inl rfl)) (Nat.zero_le _) (Nat.zero_le _) (fr_tIx (by unfold f_O_options; rw [if_neg h2, if_neg h3, if_pos h4]))
      · skip
        refine fr_iload d_O_options_23 rfl ?_
        refine fr_bipush d_O_options_25 fr_b50 ?_
        refine fr_icmp_le 32 d_O_options_27 rfl (fun h5 => ?_) (fun h5 => ?_)
        · skip
          refine fr_aload_n d_O_options_32 rfl ?_
          refine fr_getr (k' := 50) (r' := 0) d_O_options_33 fl_O_35 rfl rfl rfl (Or.inr ⟨rfl, rfl⟩) ?_
          refine fr_iload_n d_O_options_36 rfl ?_
          refine fr_iload_n d_O_options_37 rfl ?_
          refine fr_zast (r) d_O_options_38 rfl rfl hb (Or.inr ⟨rfl, rfl⟩) rfl (fm_lt8 hw hr) (by decide) ?_
          refine fr_aload_n d_O_options_39 rfl ?_
          refine fr_getr (k' := 51) (r' := 0) d_O_options_40 fl_O_38 rfl rfl rfl (Or.inr ⟨rfl, rfl⟩) ?_
          refine fr_iload_n d_O_options_43 rfl ?_
          refine fr_iload_n d_O_options_44 rfl ?_
          refine fr_iast (r) d_O_options_45 rfl rfl (Or.inr ⟨rfl, rfl⟩) rfl (fm_lt8 hw hr) (by decide) ?_
          refine fr_aload_n d_O_options_46 rfl ?_
          refine fr_getr (k' := 52) (r' := 0) d_O_options_47 fl_O_41 rfl rfl rfl (Or.inr ⟨rfl, rfl⟩) ?_
          refine fr_iload_n d_O_options_50 rfl ?_
          refine fr_iload d_O_options_51 rfl ?_
          refine fr_iast (r) d_O_options_53 rfl rfl (Or.inr ⟨rfl, rfl⟩) rfl (fm_lt8 hw hr) (by decide) ?_
          refine fr_iconst d_O_options_54 fr_i1 ?_
          exact fr_iret d_O_options_55 rfl (fr_nar_b (Or.inr rfl)) (Nat.zero_le _) (Nat.zero_le _) (fr_tIx (by unfold f_O_options; rw [if_neg h2, if_neg h3, if_neg h4, if_pos h5]))
        · skip
          refine fr_iconst d_O_options_30 fr_i0 ?_
          exact fr_iret d_O_options_31 rfl (fr_nar_b (Or.inl rfl)) (Nat.zero_le _) (Nat.zero_le _) (fr_tIx (by unfold f_O_options; rw [if_neg h2, if_neg h3, if_neg h4, if_neg h5]))
theorem fw_O_options {n : Nat} {I : fr_I} {r : Nat} {p2 : Int32} {p3 : Int32} {p4 : Int32} (hw : fr_mw n I) : fr_mw n (f_O_options I r p2 p3 p4).2 := by
  unfold f_O_options
  refine fw_ite_2 (fun h => ?_) (fun h => ?_)
  · skip
    exact hw
  · skip
    refine fw_ite_2 (fun h => ?_) (fun h => ?_)
    · skip
      exact hw
    · skip
      refine fw_ite_2 (fun h => ?_) (fun h => ?_)
      · skip
        exact hw
      · skip
        refine fw_ite_2 (fun h => ?_) (fun h => ?_)
        · skip
          exact (fm_ui (k := 52) rfl (fm_ui (k := 51) rfl (fm_ui (k := 50) rfl hw)))
        · skip
          exact hw
def f_O_options_no (I : fr_I) (p1 : Int32) (p2 : Int32) (p3 : Int32) (p4 : Int32) : Int32 :=
  0
set_option maxRecDepth 10000 in
theorem ct_O_options_no (X : fr_X) (n : Nat) (I : fr_I) (J : fr_J) (p1 : Int32) (p2 : Int32) (p3 : Int32) (p4 : Int32) (hx : f_O_none I p1 = 1) : fr_Ct X y_O_options c_O_options 5 (some .boolean) (fr_rm 1) [.ref (fr_ad X 20 0), .int p1, .int p2, .int p3, .int p4] (fr_Z0 X n) (fr_Z0 X n) I J (fr_pi (fun x I' J' => (f_O_options_no I p1 p2 p3 p4) = x ∧ I = I' ∧ J = J')) := by
  refine fr_ct (by decide) rfl rfl (Nat.le_of_ble_eq_true rfl) rfl (fun E => ?_)
  refine fr_aload_n d_O_options_0 rfl ?_
  refine fr_iload_n d_O_options_1 rfl ?_
  refine fr_callVi fr_q6 d_O_options_2 (ct_O_none X n _ _ _) mv_O_118 rfl rfl rfl (Or.inr ⟨rfl, rfl⟩) rfl rfl ⟨Nat.le_of_ble_eq_true rfl, Nat.le_of_ble_eq_true rfl⟩ ⟨rfl, rfl⟩ ⟨Nat.zero_le _, Nat.zero_le _⟩ (Nat.le_of_ble_eq_true rfl) (fun x I' J' hp1 => ?_)
  obtain ⟨rfl, rfl, rfl⟩ := hp1
  rw [hx]
  refine fr_if_ne 30 d_O_options_5 rfl (fun _ => ?_) (fun h => absurd h (by decide))
  refine fr_iconst d_O_options_30 fr_i0 ?_
  exact fr_iret d_O_options_31 rfl (fr_nar_b (Or.inl rfl)) (Nat.zero_le _) (Nat.zero_le _) ⟨rfl, rfl, rfl⟩
def f_O_load (I : fr_I) (r : Nat) (p2 : Int32) : Int32 × fr_I :=
  if p2 < 0 then
    (0, I)
  else
    if p2 ≤ 2000 then
      (1, (fr_ui I 45 0 r p2))
    else
      (0, I)
set_option maxRecDepth 10000 in
theorem ct_O_load (X : fr_X) (n : Nat) (r : Nat) (hr : r < n) (I : fr_I) (J : fr_J) (p2 : Int32) (hw : fr_mw n I) : fr_Ct X y_O_load c_O_load 3 (some .boolean) (fr_rm 1) [.ref (fr_ad X 20 0), .int (nI r), .int p2] (fr_Z0 X n) (fr_Z0 X n) I J (fr_pi (fun x I' J' => (f_O_load I r p2).1 = x ∧ (f_O_load I r p2).2 = I' ∧ J = J')) := by
  refine fr_ct (by decide) rfl rfl (Nat.le_of_ble_eq_true rfl) rfl (fun E => ?_)
  refine fr_aload_n d_O_load_0 rfl ?_
  refine fr_iload_n d_O_load_1 rfl ?_
  refine fr_callVi fr_q6 d_O_load_2 (ct_O_none X n _ _ _) mv_O_118 rfl rfl rfl (Or.inr ⟨rfl, rfl⟩) rfl rfl ⟨Nat.le_of_ble_eq_true rfl, Nat.le_of_ble_eq_true rfl⟩ ⟨rfl, rfl⟩ ⟨Nat.zero_le _, Nat.zero_le _⟩ (Nat.le_of_ble_eq_true rfl) (fun x I' J' hp1 => ?_)
  obtain ⟨rfl, rfl, rfl⟩ := hp1
  rw [fm_none hw hr]
  refine fr_if_ne 19 d_O_load_5 rfl (fun h => absurd h (by decide)) (fun _ => ?_)
  refine fr_iload_n d_O_load_8 rfl ?_
  refine fr_if_lt 19 d_O_load_9 rfl (fun h2 => ?_) (fun h2 => ?_)
  · skip
    refine fr_iconst d_O_load_19 fr_i0 ?_
    exact fr_iret d_O_load_20 rfl (fr_nar_b (Or.inl rfl)) (Nat.zero_le _) (Nat.zero_le _) (fr_tIx (by unfold f_O_load; rw [if_pos h2]))
  · skip
    refine fr_iload_n d_O_load_12 rfl ?_
    refine fr_sipush d_O_load_13 fr_s2000 ?_
    refine fr_icmp_le 21 d_O_load_16 rfl (fun h3 => ?_) (fun h3 => ?_)
    · skip
      refine fr_aload_n d_O_load_21 rfl ?_
      refine fr_getr (k' := 45) (r' := 0) d_O_load_22 fl_O_20 rfl rfl rfl (Or.inr ⟨rfl, rfl⟩) ?_
      refine fr_iload_n d_O_load_25 rfl ?_
      refine fr_iload_n d_O_load_26 rfl ?_
      refine fr_iast (r) d_O_load_27 rfl rfl (Or.inr ⟨rfl, rfl⟩) rfl (fm_lt8 hw hr) (by decide) ?_
      refine fr_iconst d_O_load_28 fr_i1 ?_
      exact fr_iret d_O_load_29 rfl (fr_nar_b (Or.inr rfl)) (Nat.zero_le _) (Nat.zero_le _) (fr_tIx (by unfold f_O_load; rw [if_neg h2, if_pos h3]))
    · skip
      refine fr_iconst d_O_load_19 fr_i0 ?_
      exact fr_iret d_O_load_20 rfl (fr_nar_b (Or.inl rfl)) (Nat.zero_le _) (Nat.zero_le _) (fr_tIx (by unfold f_O_load; rw [if_neg h2, if_neg h3]))
theorem fw_O_load {n : Nat} {I : fr_I} {r : Nat} {p2 : Int32} (hw : fr_mw n I) : fr_mw n (f_O_load I r p2).2 := by
  unfold f_O_load
  refine fw_ite_2 (fun h => ?_) (fun h => ?_)
  · skip
    exact hw
  · skip
    refine fw_ite_2 (fun h => ?_) (fun h => ?_)
    · skip
      exact (fm_ui (k := 45) rfl hw)
    · skip
      exact hw
def f_O_load_no (I : fr_I) (p1 : Int32) (p2 : Int32) : Int32 :=
  0
set_option maxRecDepth 10000 in
theorem ct_O_load_no (X : fr_X) (n : Nat) (I : fr_I) (J : fr_J) (p1 : Int32) (p2 : Int32) (hx : f_O_none I p1 = 1) : fr_Ct X y_O_load c_O_load 3 (some .boolean) (fr_rm 1) [.ref (fr_ad X 20 0), .int p1, .int p2] (fr_Z0 X n) (fr_Z0 X n) I J (fr_pi (fun x I' J' => (f_O_load_no I p1 p2) = x ∧ I = I' ∧ J = J')) := by
  refine fr_ct (by decide) rfl rfl (Nat.le_of_ble_eq_true rfl) rfl (fun E => ?_)
  refine fr_aload_n d_O_load_0 rfl ?_
  refine fr_iload_n d_O_load_1 rfl ?_
  refine fr_callVi fr_q6 d_O_load_2 (ct_O_none X n _ _ _) mv_O_118 rfl rfl rfl (Or.inr ⟨rfl, rfl⟩) rfl rfl ⟨Nat.le_of_ble_eq_true rfl, Nat.le_of_ble_eq_true rfl⟩ ⟨rfl, rfl⟩ ⟨Nat.zero_le _, Nat.zero_le _⟩ (Nat.le_of_ble_eq_true rfl) (fun x I' J' hp1 => ?_)
  obtain ⟨rfl, rfl, rfl⟩ := hp1
  rw [hx]
  refine fr_if_ne 19 d_O_load_5 rfl (fun _ => ?_) (fun h => absurd h (by decide))
  refine fr_iconst d_O_load_19 fr_i0 ?_
  exact fr_iret d_O_load_20 rfl (fr_nar_b (Or.inl rfl)) (Nat.zero_le _) (Nat.zero_le _) ⟨rfl, rfl, rfl⟩
def f_O_fault (I : fr_I) (r : Nat) (p2 : Int32) : Int32 × fr_I :=
  if p2 < 0 then
    (0, I)
  else
    if p2 ≤ 20000 then
      (1, (fr_ui I 46 0 r p2))
    else
      (0, I)
set_option maxRecDepth 10000 in
theorem ct_O_fault (X : fr_X) (n : Nat) (r : Nat) (hr : r < n) (I : fr_I) (J : fr_J) (p2 : Int32) (hw : fr_mw n I) : fr_Ct X y_O_fault c_O_fault 3 (some .boolean) (fr_rm 1) [.ref (fr_ad X 20 0), .int (nI r), .int p2] (fr_Z0 X n) (fr_Z0 X n) I J (fr_pi (fun x I' J' => (f_O_fault I r p2).1 = x ∧ (f_O_fault I r p2).2 = I' ∧ J = J')) := by
  refine fr_ct (by decide) rfl rfl (Nat.le_of_ble_eq_true rfl) rfl (fun E => ?_)
  refine fr_aload_n d_O_fault_0 rfl ?_
  refine fr_iload_n d_O_fault_1 rfl ?_
  refine fr_callVi fr_q6 d_O_fault_2 (ct_O_none X n _ _ _) mv_O_118 rfl rfl rfl (Or.inr ⟨rfl, rfl⟩) rfl rfl ⟨Nat.le_of_ble_eq_true rfl, Nat.le_of_ble_eq_true rfl⟩ ⟨rfl, rfl⟩ ⟨Nat.zero_le _, Nat.zero_le _⟩ (Nat.le_of_ble_eq_true rfl) (fun x I' J' hp1 => ?_)
  obtain ⟨rfl, rfl, rfl⟩ := hp1
  rw [fm_none hw hr]
  refine fr_if_ne 19 d_O_fault_5 rfl (fun h => absurd h (by decide)) (fun _ => ?_)
  refine fr_iload_n d_O_fault_8 rfl ?_
  refine fr_if_lt 19 d_O_fault_9 rfl (fun h2 => ?_) (fun h2 => ?_)
  · skip
    refine fr_iconst d_O_fault_19 fr_i0 ?_
    exact fr_iret d_O_fault_20 rfl (fr_nar_b (Or.inl rfl)) (Nat.zero_le _) (Nat.zero_le _) (fr_tIx (by unfold f_O_fault; rw [if_pos h2]))
  · skip
    refine fr_iload_n d_O_fault_12 rfl ?_
    refine fr_sipush d_O_fault_13 fr_s20000 ?_
    refine fr_icmp_le 21 d_O_fault_16 rfl (fun h3 => ?_) (fun h3 => ?_)
    · skip
      refine fr_aload_n d_O_fault_21 rfl ?_
      refine fr_getr (k' := 46) (r' := 0) d_O_fault_22 fl_O_23 rfl rfl rfl (Or.inr ⟨rfl, rfl⟩) ?_
      refine fr_iload_n d_O_fault_25 rfl ?_
      refine fr_iload_n d_O_fault_26 rfl ?_
      refine fr_iast (r) d_O_fault_27 rfl rfl (Or.inr ⟨rfl, rfl⟩) rfl (fm_lt8 hw hr) (by decide) ?_
      refine fr_iconst d_O_fault_28 fr_i1 ?_
      exact fr_iret d_O_fault_29 rfl (fr_nar_b (Or.inr rfl)) (Nat.zero_le _) (Nat.zero_le _) (fr_tIx (by unfold f_O_fault; rw [if_neg h2, if_pos h3]))
    · skip
      refine fr_iconst d_O_fault_19 fr_i0 ?_
      exact fr_iret d_O_fault_20 rfl (fr_nar_b (Or.inl rfl)) (Nat.zero_le _) (Nat.zero_le _) (fr_tIx (by unfold f_O_fault; rw [if_neg h2, if_neg h3]))
theorem fw_O_fault {n : Nat} {I : fr_I} {r : Nat} {p2 : Int32} (hw : fr_mw n I) : fr_mw n (f_O_fault I r p2).2 := by
  unfold f_O_fault
  refine fw_ite_2 (fun h => ?_) (fun h => ?_)
  · skip
    exact hw
  · skip
    refine fw_ite_2 (fun h => ?_) (fun h => ?_)
    · skip
      exact (fm_ui (k := 46) rfl hw)
    · skip
      exact hw
def f_O_fault_no (I : fr_I) (p1 : Int32) (p2 : Int32) : Int32 :=
  0
set_option maxRecDepth 10000 in
theorem ct_O_fault_no (X : fr_X) (n : Nat) (I : fr_I) (J : fr_J) (p1 : Int32) (p2 : Int32) (hx : f_O_none I p1 = 1) : fr_Ct X y_O_fault c_O_fault 3 (some .boolean) (fr_rm 1) [.ref (fr_ad X 20 0), .int p1, .int p2] (fr_Z0 X n) (fr_Z0 X n) I J (fr_pi (fun x I' J' => (f_O_fault_no I p1 p2) = x ∧ I = I' ∧ J = J')) := by
  refine fr_ct (by decide) rfl rfl (Nat.le_of_ble_eq_true rfl) rfl (fun E => ?_)
  refine fr_aload_n d_O_fault_0 rfl ?_
  refine fr_iload_n d_O_fault_1 rfl ?_
  refine fr_callVi fr_q6 d_O_fault_2 (ct_O_none X n _ _ _) mv_O_118 rfl rfl rfl (Or.inr ⟨rfl, rfl⟩) rfl rfl ⟨Nat.le_of_ble_eq_true rfl, Nat.le_of_ble_eq_true rfl⟩ ⟨rfl, rfl⟩ ⟨Nat.zero_le _, Nat.zero_le _⟩ (Nat.le_of_ble_eq_true rfl) (fun x I' J' hp1 => ?_)
  obtain ⟨rfl, rfl, rfl⟩ := hp1
  rw [hx]
  refine fr_if_ne 19 d_O_fault_5 rfl (fun _ => ?_) (fun h => absurd h (by decide))
  refine fr_iconst d_O_fault_19 fr_i0 ?_
  exact fr_iret d_O_fault_20 rfl (fr_nar_b (Or.inl rfl)) (Nat.zero_le _) (Nat.zero_le _) ⟨rfl, rfl, rfl⟩
def f_O_jam (I : fr_I) (r : Nat) (p2 : Int32) : Int32 × fr_I :=
  (1, (fr_ui I 44 0 r p2))
set_option maxRecDepth 10000 in
theorem ct_O_jam (X : fr_X) (n : Nat) (r : Nat) (hr : r < n) (I : fr_I) (J : fr_J) (p2 : Int32) (hw : fr_mw n I) (hb : p2 = 0 ∨ p2 = 1) : fr_Ct X y_O_jam c_O_jam 3 (some .boolean) (fr_rm 1) [.ref (fr_ad X 20 0), .int (nI r), .int p2] (fr_Z0 X n) (fr_Z0 X n) I J (fr_pi (fun x I' J' => (f_O_jam I r p2).1 = x ∧ (f_O_jam I r p2).2 = I' ∧ J = J')) := by
  refine fr_ct (by decide) rfl rfl (Nat.le_of_ble_eq_true rfl) rfl (fun E => ?_)
  refine fr_aload_n d_O_jam_0 rfl ?_
  refine fr_iload_n d_O_jam_1 rfl ?_
  refine fr_callVi fr_q6 d_O_jam_2 (ct_O_none X n _ _ _) mv_O_118 rfl rfl rfl (Or.inr ⟨rfl, rfl⟩) rfl rfl ⟨Nat.le_of_ble_eq_true rfl, Nat.le_of_ble_eq_true rfl⟩ ⟨rfl, rfl⟩ ⟨Nat.zero_le _, Nat.zero_le _⟩ (Nat.le_of_ble_eq_true rfl) (fun x I' J' hp1 => ?_)
  obtain ⟨rfl, rfl, rfl⟩ := hp1
  rw [fm_none hw hr]
  refine fr_if_eq 10 d_O_jam_5 rfl (fun _ => ?_) (fun h => absurd h (by decide))
  refine fr_aload_n d_O_jam_10 rfl ?_
  refine fr_getr (k' := 44) (r' := 0) d_O_jam_11 fl_O_17 rfl rfl rfl (Or.inr ⟨rfl, rfl⟩) ?_
  refine fr_iload_n d_O_jam_14 rfl ?_
  refine fr_iload_n d_O_jam_15 rfl ?_
  refine fr_zast (r) d_O_jam_16 rfl rfl hb (Or.inr ⟨rfl, rfl⟩) rfl (fm_lt8 hw hr) (by decide) ?_
  refine fr_iconst d_O_jam_17 fr_i1 ?_
  exact fr_iret d_O_jam_18 rfl (fr_nar_b (Or.inr rfl)) (Nat.zero_le _) (Nat.zero_le _) (fr_tIx (rfl))
theorem fw_O_jam {n : Nat} {I : fr_I} {r : Nat} {p2 : Int32} (hw : fr_mw n I) : fr_mw n (f_O_jam I r p2).2 := by
  unfold f_O_jam
  exact (fm_ui (k := 44) rfl hw)
def f_O_jam_no (I : fr_I) (p1 : Int32) (p2 : Int32) : Int32 :=
  0
set_option maxRecDepth 10000 in
theorem ct_O_jam_no (X : fr_X) (n : Nat) (I : fr_I) (J : fr_J) (p1 : Int32) (p2 : Int32) (hx : f_O_none I p1 = 1) : fr_Ct X y_O_jam c_O_jam 3 (some .boolean) (fr_rm 1) [.ref (fr_ad X 20 0), .int p1, .int p2] (fr_Z0 X n) (fr_Z0 X n) I J (fr_pi (fun x I' J' => (f_O_jam_no I p1 p2) = x ∧ I = I' ∧ J = J')) := by
  refine fr_ct (by decide) rfl rfl (Nat.le_of_ble_eq_true rfl) rfl (fun E => ?_)
  refine fr_aload_n d_O_jam_0 rfl ?_
  refine fr_iload_n d_O_jam_1 rfl ?_
  refine fr_callVi fr_q6 d_O_jam_2 (ct_O_none X n _ _ _) mv_O_118 rfl rfl rfl (Or.inr ⟨rfl, rfl⟩) rfl rfl ⟨Nat.le_of_ble_eq_true rfl, Nat.le_of_ble_eq_true rfl⟩ ⟨rfl, rfl⟩ ⟨Nat.zero_le _, Nat.zero_le _⟩ (Nat.le_of_ble_eq_true rfl) (fun x I' J' hp1 => ?_)
  obtain ⟨rfl, rfl, rfl⟩ := hp1
  rw [hx]
  refine fr_if_eq 10 d_O_jam_5 rfl (fun h => absurd h (by decide)) (fun _ => ?_)
  refine fr_iconst d_O_jam_8 fr_i0 ?_
  exact fr_iret d_O_jam_9 rfl (fr_nar_b (Or.inl rfl)) (Nat.zero_le _) (Nat.zero_le _) ⟨rfl, rfl, rfl⟩
def f_O_line (I : fr_I) (r : Nat) (p2 : Int32) : Int32 × fr_I :=
  if p2 < 0 then
    (0, I)
  else
    if p2 ≤ 8 then
      (1, (fr_ui I 53 0 r p2))
    else
      (0, I)
set_option maxRecDepth 10000 in
theorem ct_O_line (X : fr_X) (n : Nat) (r : Nat) (hr : r < n) (I : fr_I) (J : fr_J) (p2 : Int32) (hw : fr_mw n I) : fr_Ct X y_O_line c_O_line 3 (some .boolean) (fr_rm 1) [.ref (fr_ad X 20 0), .int (nI r), .int p2] (fr_Z0 X n) (fr_Z0 X n) I J (fr_pi (fun x I' J' => (f_O_line I r p2).1 = x ∧ (f_O_line I r p2).2 = I' ∧ J = J')) := by
  refine fr_ct (by decide) rfl rfl (Nat.le_of_ble_eq_true rfl) rfl (fun E => ?_)
  refine fr_aload_n d_O_line_0 rfl ?_
  refine fr_iload_n d_O_line_1 rfl ?_
  refine fr_callVi fr_q6 d_O_line_2 (ct_O_none X n _ _ _) mv_O_118 rfl rfl rfl (Or.inr ⟨rfl, rfl⟩) rfl rfl ⟨Nat.le_of_ble_eq_true rfl, Nat.le_of_ble_eq_true rfl⟩ ⟨rfl, rfl⟩ ⟨Nat.zero_le _, Nat.zero_le _⟩ (Nat.le_of_ble_eq_true rfl) (fun x I' J' hp1 => ?_)
  obtain ⟨rfl, rfl, rfl⟩ := hp1
  rw [fm_none hw hr]
  refine fr_if_ne 18 d_O_line_5 rfl (fun h => absurd h (by decide)) (fun _ => ?_)
  refine fr_iload_n d_O_line_8 rfl ?_
  refine fr_if_lt 18 d_O_line_9 rfl (fun h2 => ?_) (fun h2 => ?_)
  · skip
    refine fr_iconst d_O_line_18 fr_i0 ?_
    exact fr_iret d_O_line_19 rfl (fr_nar_b (Or.inl rfl)) (Nat.zero_le _) (Nat.zero_le _) (fr_tIx (by unfold f_O_line; rw [if_pos h2]))
  · skip
    refine fr_iload_n d_O_line_12 rfl ?_
    refine fr_bipush d_O_line_13 fr_b8 ?_
    refine fr_icmp_le 20 d_O_line_15 rfl (fun h3 => ?_) (fun h3 => ?_)
    · skip
      refine fr_aload_n d_O_line_20 rfl ?_
      refine fr_getr (k' := 53) (r' := 0) d_O_line_21 fl_O_44 rfl rfl rfl (Or.inr ⟨rfl, rfl⟩) ?_
      refine fr_iload_n d_O_line_24 rfl ?_
      refine fr_iload_n d_O_line_25 rfl ?_
      refine fr_iast (r) d_O_line_26 rfl rfl (Or.inr ⟨rfl, rfl⟩) rfl (fm_lt8 hw hr) (by decide) ?_
      refine fr_iconst d_O_line_27 fr_i1 ?_
      exact fr_iret d_O_line_28 rfl (fr_nar_b (Or.inr rfl)) (Nat.zero_le _) (Nat.zero_le _) (fr_tIx (by unfold f_O_line; rw [if_neg h2, if_pos h3]))
    · skip
      refine fr_iconst d_O_line_18 fr_i0 ?_
      exact fr_iret d_O_line_19 rfl (fr_nar_b (Or.inl rfl)) (Nat.zero_le _) (Nat.zero_le _) (fr_tIx (by unfold f_O_line; rw [if_neg h2, if_neg h3]))
theorem fw_O_line {n : Nat} {I : fr_I} {r : Nat} {p2 : Int32} (hw : fr_mw n I) : fr_mw n (f_O_line I r p2).2 := by
  unfold f_O_line
  refine fw_ite_2 (fun h => ?_) (fun h => ?_)
  · skip
    exact hw
  · skip
    refine fw_ite_2 (fun h => ?_) (fun h => ?_)
    · skip
      exact (fm_ui (k := 53) rfl hw)
    · skip
      exact hw
def f_O_line_no (I : fr_I) (p1 : Int32) (p2 : Int32) : Int32 :=
  0
set_option maxRecDepth 10000 in
theorem ct_O_line_no (X : fr_X) (n : Nat) (I : fr_I) (J : fr_J) (p1 : Int32) (p2 : Int32) (hx : f_O_none I p1 = 1) : fr_Ct X y_O_line c_O_line 3 (some .boolean) (fr_rm 1) [.ref (fr_ad X 20 0), .int p1, .int p2] (fr_Z0 X n) (fr_Z0 X n) I J (fr_pi (fun x I' J' => (f_O_line_no I p1 p2) = x ∧ I = I' ∧ J = J')) := by
  refine fr_ct (by decide) rfl rfl (Nat.le_of_ble_eq_true rfl) rfl (fun E => ?_)
  refine fr_aload_n d_O_line_0 rfl ?_
  refine fr_iload_n d_O_line_1 rfl ?_
  refine fr_callVi fr_q6 d_O_line_2 (ct_O_none X n _ _ _) mv_O_118 rfl rfl rfl (Or.inr ⟨rfl, rfl⟩) rfl rfl ⟨Nat.le_of_ble_eq_true rfl, Nat.le_of_ble_eq_true rfl⟩ ⟨rfl, rfl⟩ ⟨Nat.zero_le _, Nat.zero_le _⟩ (Nat.le_of_ble_eq_true rfl) (fun x I' J' hp1 => ?_)
  obtain ⟨rfl, rfl, rfl⟩ := hp1
  rw [hx]
  refine fr_if_ne 18 d_O_line_5 rfl (fun _ => ?_) (fun h => absurd h (by decide))
  refine fr_iconst d_O_line_18 fr_i0 ?_
  exact fr_iret d_O_line_19 rfl (fr_nar_b (Or.inl rfl)) (Nat.zero_le _) (Nat.zero_le _) ⟨rfl, rfl, rfl⟩
def f_O_operate (I : fr_I) (r : Nat) (p2 : Int32) : Int32 × fr_I :=
  (1, (fr_ui (fr_ui (fr_ui (fr_ui (fr_ui I 43 0 r p2) 60 0 r 0) 63 0 r 0) 65 0 r (if p2 = 0 then (1 : Int32) else 0)) 66 0 r 0))
set_option maxRecDepth 10000 in
theorem ct_O_operate (X : fr_X) (n : Nat) (r : Nat) (hr : r < n) (I : fr_I) (J : fr_J) (p2 : Int32) (hw : fr_mw n I) (hb : p2 = 0 ∨ p2 = 1) : fr_Ct X y_O_operate c_O_operate 3 (some .boolean) (fr_rm 1) [.ref (fr_ad X 20 0), .int (nI r), .int p2] (fr_Z0 X n) (fr_Z0 X n) I J (fr_pi (fun x I' J' => (f_O_operate I r p2).1 = x ∧ (f_O_operate I r p2).2 = I' ∧ J = J')) := by
  refine fr_ct (by decide) rfl rfl (Nat.le_of_ble_eq_true rfl) rfl (fun E => ?_)
  refine fr_aload_n d_O_operate_0 rfl ?_
  refine fr_iload_n d_O_operate_1 rfl ?_
  refine fr_callVi fr_q6 d_O_operate_2 (ct_O_none X n _ _ _) mv_O_118 rfl rfl rfl (Or.inr ⟨rfl, rfl⟩) rfl rfl ⟨Nat.le_of_ble_eq_true rfl, Nat.le_of_ble_eq_true rfl⟩ ⟨rfl, rfl⟩ ⟨Nat.zero_le _, Nat.zero_le _⟩ (Nat.le_of_ble_eq_true rfl) (fun x I' J' hp1 => ?_)
  obtain ⟨rfl, rfl, rfl⟩ := hp1
  rw [fm_none hw hr]
  refine fr_if_eq 10 d_O_operate_5 rfl (fun _ => ?_) (fun h => absurd h (by decide))
  refine fr_aload_n d_O_operate_10 rfl ?_
  refine fr_getr (k' := 43) (r' := 0) d_O_operate_11 fl_O_13 rfl rfl rfl (Or.inr ⟨rfl, rfl⟩) ?_
  refine fr_iload_n d_O_operate_14 rfl ?_
  refine fr_iload_n d_O_operate_15 rfl ?_
  refine fr_zast (r) d_O_operate_16 rfl rfl hb (Or.inr ⟨rfl, rfl⟩) rfl (fm_lt8 hw hr) (by decide) ?_
  refine fr_aload_n d_O_operate_17 rfl ?_
  refine fr_getr (k' := 60) (r' := 0) d_O_operate_18 fl_O_66 rfl rfl rfl (Or.inr ⟨rfl, rfl⟩) ?_
  refine fr_iload_n d_O_operate_21 rfl ?_
  refine fr_iconst d_O_operate_22 fr_i0 ?_
  refine fr_iast (r) d_O_operate_23 rfl rfl (Or.inr ⟨rfl, rfl⟩) rfl (fm_lt8 hw hr) (by decide) ?_
  refine fr_aload_n d_O_operate_24 rfl ?_
  refine fr_getr (k' := 63) (r' := 0) d_O_operate_25 fl_O_75 rfl rfl rfl (Or.inr ⟨rfl, rfl⟩) ?_
  refine fr_iload_n d_O_operate_28 rfl ?_
  refine fr_iconst d_O_operate_29 fr_i0 ?_
  refine fr_zast (r) d_O_operate_30 rfl rfl (Or.inl rfl) (Or.inr ⟨rfl, rfl⟩) rfl (fm_lt8 hw hr) (by decide) ?_
  refine fr_aload_n d_O_operate_31 rfl ?_
  refine fr_getr (k' := 65) (r' := 0) d_O_operate_32 fl_O_81 rfl rfl rfl (Or.inr ⟨rfl, rfl⟩) ?_
  refine fr_iload_n d_O_operate_35 rfl ?_
  refine fr_iload_n d_O_operate_36 rfl ?_
  refine fr_tif_ne (t := 44) (j := 45) d_O_operate_37 rfl (fun k => fr_iconst d_O_operate_40 fr_i1 (fr_goto 45 d_O_operate_41 rfl k)) (fun k => fr_iconst d_O_operate_44 fr_i0 k) ?_
  refine fr_zast (r) d_O_operate_45 rfl rfl fr_if10 (Or.inr ⟨rfl, rfl⟩) rfl (fm_lt8 hw hr) (by decide) ?_
  refine fr_aload_n d_O_operate_46 rfl ?_
  refine fr_getr (k' := 66) (r' := 0) d_O_operate_47 fl_O_84 rfl rfl rfl (Or.inr ⟨rfl, rfl⟩) ?_
  refine fr_iload_n d_O_operate_50 rfl ?_
  refine fr_iconst d_O_operate_51 fr_i0 ?_
  refine fr_iast (r) d_O_operate_52 rfl rfl (Or.inr ⟨rfl, rfl⟩) rfl (fm_lt8 hw hr) (by decide) ?_
  refine fr_iconst d_O_operate_53 fr_i1 ?_
  exact fr_iret d_O_operate_54 rfl (fr_nar_b (Or.inr rfl)) (Nat.zero_le _) (Nat.zero_le _) (fr_tIx (rfl))
theorem fw_O_operate {n : Nat} {I : fr_I} {r : Nat} {p2 : Int32} (hw : fr_mw n I) : fr_mw n (f_O_operate I r p2).2 := by
  unfold f_O_operate
  exact (fm_ui (k := 66) rfl (fm_ui (k := 65) rfl (fm_ui (k := 63) rfl (fm_ui (k := 60) rfl (fm_ui (k := 43) rfl hw)))))
def f_O_operate_no (I : fr_I) (p1 : Int32) (p2 : Int32) : Int32 :=
  0
set_option maxRecDepth 10000 in
theorem ct_O_operate_no (X : fr_X) (n : Nat) (I : fr_I) (J : fr_J) (p1 : Int32) (p2 : Int32) (hx : f_O_none I p1 = 1) : fr_Ct X y_O_operate c_O_operate 3 (some .boolean) (fr_rm 1) [.ref (fr_ad X 20 0), .int p1, .int p2] (fr_Z0 X n) (fr_Z0 X n) I J (fr_pi (fun x I' J' => (f_O_operate_no I p1 p2) = x ∧ I = I' ∧ J = J')) := by
  refine fr_ct (by decide) rfl rfl (Nat.le_of_ble_eq_true rfl) rfl (fun E => ?_)
  refine fr_aload_n d_O_operate_0 rfl ?_
  refine fr_iload_n d_O_operate_1 rfl ?_
  refine fr_callVi fr_q6 d_O_operate_2 (ct_O_none X n _ _ _) mv_O_118 rfl rfl rfl (Or.inr ⟨rfl, rfl⟩) rfl rfl ⟨Nat.le_of_ble_eq_true rfl, Nat.le_of_ble_eq_true rfl⟩ ⟨rfl, rfl⟩ ⟨Nat.zero_le _, Nat.zero_le _⟩ (Nat.le_of_ble_eq_true rfl) (fun x I' J' hp1 => ?_)
  obtain ⟨rfl, rfl, rfl⟩ := hp1
  rw [hx]
  refine fr_if_eq 10 d_O_operate_5 rfl (fun h => absurd h (by decide)) (fun _ => ?_)
  refine fr_iconst d_O_operate_8 fr_i0 ?_
  exact fr_iret d_O_operate_9 rfl (fr_nar_b (Or.inl rfl)) (Nat.zero_le _) (Nat.zero_le _) ⟨rfl, rfl, rfl⟩
def f_O_time (I : fr_I) : Int32 :=
  (I 20 0 1)
set_option maxRecDepth 10000 in
theorem ct_O_time (X : fr_X) (n : Nat) (I : fr_I) (J : fr_J) : fr_Ct X y_O_time c_O_time 1 (some .int) (fr_rm 0) [.ref (fr_ad X 20 0)] (fr_Z0 X n) (fr_Z0 X n) I J (fr_pi (fun x I' J' => (f_O_time I) = x ∧ I = I' ∧ J = J')) := by
  refine fr_ct (by decide) rfl rfl (Nat.le_of_ble_eq_true rfl) rfl (fun E => ?_)
  refine fr_aload_n d_O_time_0 rfl ?_
  refine fr_geti d_O_time_1 fl_O_115 rfl rfl (Or.inr ⟨rfl, rfl⟩) ?_
  exact fr_iret d_O_time_4 rfl (fr_nar_i _) (Nat.zero_le _) (Nat.zero_le _) ⟨rfl, rfl, rfl⟩
def f_O_sum (I : fr_I) (J : fr_J) (r : Nat) : Int64 :=
  (J 55 0 r)
set_option maxRecDepth 10000 in
theorem ct_O_sum (X : fr_X) (n : Nat) (r : Nat) (hr : r < n) (I : fr_I) (J : fr_J)  (hw : fr_mw n I) : fr_Ct X y_O_sum c_O_sum 2 (some .long) (fr_rm 1) [.ref (fr_ad X 20 0), .int (nI r)] (fr_Z0 X n) (fr_Z0 X n) I J (fr_pl (fun x I' J' => (f_O_sum I J r) = x ∧ I = I' ∧ J = J')) := by
  refine fr_ct (by decide) rfl rfl (Nat.le_of_ble_eq_true rfl) rfl (fun E => ?_)
  refine fr_aload_n d_O_sum_0 rfl ?_
  refine fr_iload_n d_O_sum_1 rfl ?_
  refine fr_callVi fr_q6 d_O_sum_2 (ct_O_none X n _ _ _) mv_O_118 rfl rfl rfl (Or.inr ⟨rfl, rfl⟩) rfl rfl ⟨Nat.le_of_ble_eq_true rfl, Nat.le_of_ble_eq_true rfl⟩ ⟨rfl, rfl⟩ ⟨Nat.zero_le _, Nat.zero_le _⟩ (Nat.le_of_ble_eq_true rfl) (fun x I' J' hp1 => ?_)
  obtain ⟨rfl, rfl, rfl⟩ := hp1
  rw [fm_none hw hr]
  refine fr_if_eq 14 d_O_sum_5 rfl (fun _ => ?_) (fun h => absurd h (by decide))
  refine fr_aload_n d_O_sum_14 rfl ?_
  refine fr_getr (k' := 55) (r' := 0) d_O_sum_15 fl_O_50 rfl rfl rfl (Or.inr ⟨rfl, rfl⟩) ?_
  refine fr_iload_n d_O_sum_18 rfl ?_
  refine fr_lald (r) d_O_sum_19 rfl rfl (Or.inr ⟨rfl, rfl⟩) rfl (fm_lt8 hw hr) (by decide) ?_
  exact fr_lret d_O_sum_20 rfl (Nat.zero_le _) (Nat.zero_le _) ⟨rfl, rfl, rfl⟩
def f_O_sum_no (I : fr_I) (p1 : Int32) : Int64 :=
  (-1)
set_option maxRecDepth 10000 in
theorem ct_O_sum_no (X : fr_X) (n : Nat) (I : fr_I) (J : fr_J) (p1 : Int32) (hx : f_O_none I p1 = 1) : fr_Ct X y_O_sum c_O_sum 2 (some .long) (fr_rm 1) [.ref (fr_ad X 20 0), .int p1] (fr_Z0 X n) (fr_Z0 X n) I J (fr_pl (fun x I' J' => (f_O_sum_no I p1) = x ∧ I = I' ∧ J = J')) := by
  refine fr_ct (by decide) rfl rfl (Nat.le_of_ble_eq_true rfl) rfl (fun E => ?_)
  refine fr_aload_n d_O_sum_0 rfl ?_
  refine fr_iload_n d_O_sum_1 rfl ?_
  refine fr_callVi fr_q6 d_O_sum_2 (ct_O_none X n _ _ _) mv_O_118 rfl rfl rfl (Or.inr ⟨rfl, rfl⟩) rfl rfl ⟨Nat.le_of_ble_eq_true rfl, Nat.le_of_ble_eq_true rfl⟩ ⟨rfl, rfl⟩ ⟨Nat.zero_le _, Nat.zero_le _⟩ (Nat.le_of_ble_eq_true rfl) (fun x I' J' hp1 => ?_)
  obtain ⟨rfl, rfl, rfl⟩ := hp1
  rw [hx]
  refine fr_if_eq 14 d_O_sum_5 rfl (fun h => absurd h (by decide)) (fun _ => ?_)
  refine fr_ldc2 lc_O_173 d_O_sum_8 ?_
  refine fr_goto 20 d_O_sum_11 rfl ?_
  exact fr_lret d_O_sum_20 rfl (Nat.zero_le _) (Nat.zero_le _) ⟨rfl, rfl, rfl⟩
def f_O_used (I : fr_I) (r : Nat) : Int32 :=
  (I 66 0 r)
set_option maxRecDepth 10000 in
theorem ct_O_used (X : fr_X) (n : Nat) (r : Nat) (hr : r < n) (I : fr_I) (J : fr_J)  (hw : fr_mw n I) : fr_Ct X y_O_used c_O_used 2 (some .int) (fr_rm 1) [.ref (fr_ad X 20 0), .int (nI r)] (fr_Z0 X n) (fr_Z0 X n) I J (fr_pi (fun x I' J' => (f_O_used I r) = x ∧ I = I' ∧ J = J')) := by
  refine fr_ct (by decide) rfl rfl (Nat.le_of_ble_eq_true rfl) rfl (fun E => ?_)
  refine fr_aload_n d_O_used_0 rfl ?_
  refine fr_iload_n d_O_used_1 rfl ?_
  refine fr_callVi fr_q6 d_O_used_2 (ct_O_none X n _ _ _) mv_O_118 rfl rfl rfl (Or.inr ⟨rfl, rfl⟩) rfl rfl ⟨Nat.le_of_ble_eq_true rfl, Nat.le_of_ble_eq_true rfl⟩ ⟨rfl, rfl⟩ ⟨Nat.zero_le _, Nat.zero_le _⟩ (Nat.le_of_ble_eq_true rfl) (fun x I' J' hp1 => ?_)
  obtain ⟨rfl, rfl, rfl⟩ := hp1
  rw [fm_none hw hr]
  refine fr_if_eq 12 d_O_used_5 rfl (fun _ => ?_) (fun h => absurd h (by decide))
  refine fr_aload_n d_O_used_12 rfl ?_
  refine fr_getr (k' := 66) (r' := 0) d_O_used_13 fl_O_84 rfl rfl rfl (Or.inr ⟨rfl, rfl⟩) ?_
  refine fr_iload_n d_O_used_16 rfl ?_
  refine fr_iald (r) d_O_used_17 rfl rfl (Or.inr ⟨rfl, rfl⟩) rfl (fm_lt8 hw hr) (by decide) ?_
  exact fr_iret d_O_used_18 rfl (fr_nar_i _) (Nat.zero_le _) (Nat.zero_le _) ⟨rfl, rfl, rfl⟩
def f_O_used_no (I : fr_I) (p1 : Int32) : Int32 :=
  (-1)
set_option maxRecDepth 10000 in
theorem ct_O_used_no (X : fr_X) (n : Nat) (I : fr_I) (J : fr_J) (p1 : Int32) (hx : f_O_none I p1 = 1) : fr_Ct X y_O_used c_O_used 2 (some .int) (fr_rm 1) [.ref (fr_ad X 20 0), .int p1] (fr_Z0 X n) (fr_Z0 X n) I J (fr_pi (fun x I' J' => (f_O_used_no I p1) = x ∧ I = I' ∧ J = J')) := by
  refine fr_ct (by decide) rfl rfl (Nat.le_of_ble_eq_true rfl) rfl (fun E => ?_)
  refine fr_aload_n d_O_used_0 rfl ?_
  refine fr_iload_n d_O_used_1 rfl ?_
  refine fr_callVi fr_q6 d_O_used_2 (ct_O_none X n _ _ _) mv_O_118 rfl rfl rfl (Or.inr ⟨rfl, rfl⟩) rfl rfl ⟨Nat.le_of_ble_eq_true rfl, Nat.le_of_ble_eq_true rfl⟩ ⟨rfl, rfl⟩ ⟨Nat.zero_le _, Nat.zero_le _⟩ (Nat.le_of_ble_eq_true rfl) (fun x I' J' hp1 => ?_)
  obtain ⟨rfl, rfl, rfl⟩ := hp1
  rw [hx]
  refine fr_if_eq 12 d_O_used_5 rfl (fun h => absurd h (by decide)) (fun _ => ?_)
  refine fr_iconst d_O_used_8 fr_im1 ?_
  refine fr_goto 18 d_O_used_9 rfl ?_
  exact fr_iret d_O_used_18 rfl (fr_nar_i _) (Nat.zero_le _) (Nat.zero_le _) ⟨rfl, rfl, rfl⟩
def f_O_changes (I : fr_I) (r : Nat) : Int32 :=
  (I 57 0 r)
set_option maxRecDepth 10000 in
theorem ct_O_changes (X : fr_X) (n : Nat) (r : Nat) (hr : r < n) (I : fr_I) (J : fr_J)  (hw : fr_mw n I) : fr_Ct X y_O_changes c_O_changes 2 (some .int) (fr_rm 1) [.ref (fr_ad X 20 0), .int (nI r)] (fr_Z0 X n) (fr_Z0 X n) I J (fr_pi (fun x I' J' => (f_O_changes I r) = x ∧ I = I' ∧ J = J')) := by
  refine fr_ct (by decide) rfl rfl (Nat.le_of_ble_eq_true rfl) rfl (fun E => ?_)
  refine fr_aload_n d_O_changes_0 rfl ?_
  refine fr_iload_n d_O_changes_1 rfl ?_
  refine fr_callVi fr_q6 d_O_changes_2 (ct_O_none X n _ _ _) mv_O_118 rfl rfl rfl (Or.inr ⟨rfl, rfl⟩) rfl rfl ⟨Nat.le_of_ble_eq_true rfl, Nat.le_of_ble_eq_true rfl⟩ ⟨rfl, rfl⟩ ⟨Nat.zero_le _, Nat.zero_le _⟩ (Nat.le_of_ble_eq_true rfl) (fun x I' J' hp1 => ?_)
  obtain ⟨rfl, rfl, rfl⟩ := hp1
  rw [fm_none hw hr]
  refine fr_if_eq 12 d_O_changes_5 rfl (fun _ => ?_) (fun h => absurd h (by decide))
  refine fr_aload_n d_O_changes_12 rfl ?_
  refine fr_getr (k' := 57) (r' := 0) d_O_changes_13 fl_O_57 rfl rfl rfl (Or.inr ⟨rfl, rfl⟩) ?_
  refine fr_iload_n d_O_changes_16 rfl ?_
  refine fr_iald (r) d_O_changes_17 rfl rfl (Or.inr ⟨rfl, rfl⟩) rfl (fm_lt8 hw hr) (by decide) ?_
  exact fr_iret d_O_changes_18 rfl (fr_nar_i _) (Nat.zero_le _) (Nat.zero_le _) ⟨rfl, rfl, rfl⟩
def f_O_changes_no (I : fr_I) (p1 : Int32) : Int32 :=
  (-1)
set_option maxRecDepth 10000 in
theorem ct_O_changes_no (X : fr_X) (n : Nat) (I : fr_I) (J : fr_J) (p1 : Int32) (hx : f_O_none I p1 = 1) : fr_Ct X y_O_changes c_O_changes 2 (some .int) (fr_rm 1) [.ref (fr_ad X 20 0), .int p1] (fr_Z0 X n) (fr_Z0 X n) I J (fr_pi (fun x I' J' => (f_O_changes_no I p1) = x ∧ I = I' ∧ J = J')) := by
  refine fr_ct (by decide) rfl rfl (Nat.le_of_ble_eq_true rfl) rfl (fun E => ?_)
  refine fr_aload_n d_O_changes_0 rfl ?_
  refine fr_iload_n d_O_changes_1 rfl ?_
  refine fr_callVi fr_q6 d_O_changes_2 (ct_O_none X n _ _ _) mv_O_118 rfl rfl rfl (Or.inr ⟨rfl, rfl⟩) rfl rfl ⟨Nat.le_of_ble_eq_true rfl, Nat.le_of_ble_eq_true rfl⟩ ⟨rfl, rfl⟩ ⟨Nat.zero_le _, Nat.zero_le _⟩ (Nat.le_of_ble_eq_true rfl) (fun x I' J' hp1 => ?_)
  obtain ⟨rfl, rfl, rfl⟩ := hp1
  rw [hx]
  refine fr_if_eq 12 d_O_changes_5 rfl (fun h => absurd h (by decide)) (fun _ => ?_)
  refine fr_iconst d_O_changes_8 fr_im1 ?_
  refine fr_goto 18 d_O_changes_9 rfl ?_
  exact fr_iret d_O_changes_18 rfl (fr_nar_i _) (Nat.zero_le _) (Nat.zero_le _) ⟨rfl, rfl, rfl⟩
def f_O_events (I : fr_I) : Int32 :=
  (I 20 0 33)
set_option maxRecDepth 10000 in
theorem ct_O_events (X : fr_X) (n : Nat) (I : fr_I) (J : fr_J) : fr_Ct X y_O_events c_O_events 1 (some .int) (fr_rm 0) [.ref (fr_ad X 20 0)] (fr_Z0 X n) (fr_Z0 X n) I J (fr_pi (fun x I' J' => (f_O_events I) = x ∧ I = I' ∧ J = J')) := by
  refine fr_ct (by decide) rfl rfl (Nat.le_of_ble_eq_true rfl) rfl (fun E => ?_)
  refine fr_aload_n d_O_events_0 rfl ?_
  refine fr_geti d_O_events_1 fl_O_128 rfl rfl (Or.inr ⟨rfl, rfl⟩) ?_
  exact fr_iret d_O_events_4 rfl (fr_nar_i _) (Nat.zero_le _) (Nat.zero_le _) ⟨rfl, rfl, rfl⟩
end
section
theorem fm_un1 {x : Int32} (h : fr_nn x 15) : fr_nn (x + 1) 16 := by
  obtain ⟨e, he, rfl⟩ := h
  exact ⟨e + 1, by omega, nI_1 e⟩
theorem fm_q128 {n r : Nat} {I : fr_I} (hw : fr_mw n I) (hr : r < n) : 16 * r + (I 68 0 r).toNatClampNeg < 128 := by
  have h1 := fm_un_lt hw hr
  have h2 := fm_lt8 hw hr
  omega
theorem fm_note {n : Nat} {I : fr_I} {c1 c2 v1 v2 : Int32} {q1 q2 : Nat} (hw : fr_mw n I) (h : ¬ (200 : Int32) ≤ I 20 0 33) : fr_mw n (fr_ui (fr_ui (fr_ui I 75 0 q1 v1) 76 0 q2 v2) 20 0 33 ((fr_ui (fr_ui I 75 0 q1 v1) 76 0 q2 v2) 20 0 33 + 1)) := by
  have h0 : fr_mw n (fr_ui (fr_ui I 75 0 q1 v1) 76 0 q2 v2) := fm_ui (k := 76) rfl (fm_ui (k := 75) rfl hw)
  have hlt := fm_ev_lt hw h
  have heq := fm_ev_eq hw
  obtain ⟨a1, a2, a3, a4, a5, a6⟩ := h0
  refine ⟨a1, (fr_ui_n (fun z => absurd z.2.2 (by decide))).trans a2, ?_, by rw [fr_ui_n (fun z => absurd z.2.2 (by decide))]; exact a4, fun q hq => by rw [fr_ui_n (fun z => absurd z.1 (by decide))]; exact a5 q hq, fun q hq => by rw [fr_ui_n (fun z => absurd z.1 (by decide))]; exact a6 q hq⟩
  rw [fr_ui_s, fr_ui_n (fun z => absurd z.1 (by decide)), fr_ui_n (fun z => absurd z.1 (by decide))]
  exact ⟨(I 20 0 33).toNatClampNeg + 1, by omega, by rw [← nI_1, ← heq]⟩
def fr_vt (f : Nat → Int32 → Int32) (v : Int32) : Nat → Int32
  | 0 => v
  | i + 1 => f i (fr_vt f v i)
theorem fr_vt_s {f : Nat → Int32 → Int32} {v : Int32} {i : Nat} : fr_vt f v (i + 1) = f i (fr_vt f v i) := rfl
section FRcut
variable {X : fr_X} {E : fr_E} {own nm : String} {cc : ByteArray} {nL : Nat} {ret : Option FieldType} {R : Room} {Q : State → Prop} {cs sl : Nat} {Z : fr_Z} {pc : Nat} {L : List (Nat × Value)} {st : List Value} {I : fr_I} {J : fr_J}
theorem fr_Leq {L' : List (Nat × Value)} (h : L = L') (kk : fr_Ev X E own nm cc nL ret R Q cs sl Z pc L' st I J) : fr_Ev X E own nm cc nL ret R Q cs sl Z pc L st I J := by subst h; exact kk
theorem fr_cut (pc' : Nat) (L' : List (Nat × Value)) (st' : List Value) (I' : fr_I) (J' : fr_J) (h1 : fr_Ev X E own nm cc nL ret R Q cs sl Z pc' L' st' I' J') (h2 : fr_Ev X E own nm cc nL ret R Q cs sl Z pc' L' st' I' J' → fr_Ev X E own nm cc nL ret R Q cs sl Z pc L st I J) : fr_Ev X E own nm cc nL ret R Q cs sl Z pc L st I J := h2 h1
end FRcut
-- the reference's root
def fr_bl2 : Nat → Int64
  | 0 => 0
  | K + 1 => lN (2 ^ K)
def fr_rl (s : Int64) : Nat → Int64 → Int64
  | 0, e => e
  | K + 1, e => if 0 < lg_cmp ((4 * (e + fr_bl2 (K + 1))) * (e + fr_bl2 (K + 1))) s then fr_rl s K e else fr_rl s K (e + fr_bl2 (K + 1))
theorem fr_rl_gt {s : Int64} {K : Nat} {e : Int64} (h : 0 < lg_cmp ((4 * (e + fr_bl2 (K + 1))) * (e + fr_bl2 (K + 1))) s) : fr_rl s (K + 1) e = fr_rl s K e := if_pos h
theorem fr_rl_le {s : Int64} {K : Nat} {e : Int64} (h : ¬ 0 < lg_cmp ((4 * (e + fr_bl2 (K + 1))) * (e + fr_bl2 (K + 1))) s) : fr_rl s (K + 1) e = fr_rl s K (e + fr_bl2 (K + 1)) := if_neg h
theorem fr_bl2_pos {K : Nat} (h : K < 21) : ¬ lg_cmp (fr_bl2 (K + 1)) 0 ≤ 0 := by
  have : ∀ K, K < 21 → ¬ lg_cmp (fr_bl2 (K + 1)) 0 ≤ 0 := by decide
  exact this K h
theorem fr_bl2_half {K : Nat} (h : K < 21) : fr_bl2 (K + 1) / 2 = fr_bl2 K := by
  have : ∀ K, K < 21 → fr_bl2 (K + 1) / 2 = fr_bl2 K := by decide
  exact this K h
-- the reference's way up from a section: what it goes by
def fr_wy (I : fr_I) (r : Nat) : Nat → Int32 → Int32 → Int32 → Int32 × Int32
  | 0, u, f, _ => (u, f)
  | K + 1, u, f, x => if x < 0 then (u, f) else fr_wy I r K (if u = 0 then (if x = nI r then 1 else 0) else 1) (if f = 0 then 0 else (if I 43 0 x.toNatClampNeg = 0 then 0 else 1)) (I 42 0 x.toNatClampNeg)
theorem fr_wy_x {I : fr_I} {r K : Nat} {u f x : Int32} (h : x < 0) : fr_wy I r (K + 1) u f x = (u, f) := if_pos h
theorem fr_wy_s {I : fr_I} {r K : Nat} {u f x : Int32} (h : ¬ x < 0) : fr_wy I r (K + 1) u f x = fr_wy I r K (if u = 0 then (if x = nI r then 1 else 0) else 1) (if f = 0 then 0 else (if I 43 0 x.toNatClampNeg = 0 then 0 else 1)) (I 42 0 x.toNatClampNeg) := if_neg h
end
section
def f_O_known (I : fr_I) (r : Nat) : Int32 :=
  if (nI r) = 0 then
    (-1)
  else
    (I 71 0 r)
set_option maxRecDepth 10000 in
theorem ct_O_known (X : fr_X) (n : Nat) (r : Nat) (hr : r < n) (I : fr_I) (J : fr_J)  (hw : fr_mw n I) : fr_Ct X y_O_known c_O_known 2 (some .int) (fr_rm 1) [.ref (fr_ad X 20 0), .int (nI r)] (fr_Z0 X n) (fr_Z0 X n) I J (fr_pi (fun x I' J' => (f_O_known I r) = x ∧ I = I' ∧ J = J')) := by
  refine fr_ct (by decide) rfl rfl (Nat.le_of_ble_eq_true rfl) rfl (fun E => ?_)
  refine fr_aload_n d_O_known_0 rfl ?_
  refine fr_iload_n d_O_known_1 rfl ?_
  refine fr_callVi fr_q6 d_O_known_2 (ct_O_none X n _ _ _) mv_O_118 rfl rfl rfl (Or.inr ⟨rfl, rfl⟩) rfl rfl ⟨Nat.le_of_ble_eq_true rfl, Nat.le_of_ble_eq_true rfl⟩ ⟨rfl, rfl⟩ ⟨Nat.zero_le _, Nat.zero_le _⟩ (Nat.le_of_ble_eq_true rfl) (fun x I' J' hp1 => ?_)
  obtain ⟨rfl, rfl, rfl⟩ := hp1
  rw [fm_none hw hr]
  refine fr_if_ne 12 d_O_known_5 rfl (fun h => absurd h (by decide)) (fun _ => ?_)
  refine fr_iload_n d_O_known_8 rfl ?_
  refine fr_if_ne 16 d_O_known_9 rfl (fun h2 => ?_) (fun h2 => ?_)
  · skip
    refine fr_aload_n d_O_known_16 rfl ?_
    refine fr_getr (k' := 71) (r' := 0) d_O_known_17 fl_O_99 rfl rfl rfl (Or.inr ⟨rfl, rfl⟩) ?_
    refine fr_iload_n d_O_known_20 rfl ?_
    refine fr_iald (r) d_O_known_21 rfl rfl (Or.inr ⟨rfl, rfl⟩) rfl (fm_lt8 hw hr) (by decide) ?_
    exact fr_iret d_O_known_22 rfl (fr_nar_i _) (Nat.zero_le _) (Nat.zero_le _) ⟨(by unfold f_O_known; rw [if_neg h2]), rfl, rfl⟩
  · skip
    refine fr_iconst d_O_known_12 fr_im1 ?_
    refine fr_goto 22 d_O_known_13 rfl ?_
    exact fr_iret d_O_known_22 rfl (fr_nar_i _) (Nat.zero_le _) (Nat.zero_le _) ⟨(by unfold f_O_known; rw [if_pos h2]), rfl, rfl⟩
def f_O_known_no (I : fr_I) (p1 : Int32) : Int32 :=
  (-1)
set_option maxRecDepth 10000 in
theorem ct_O_known_no (X : fr_X) (n : Nat) (I : fr_I) (J : fr_J) (p1 : Int32) (hx : f_O_none I p1 = 1) : fr_Ct X y_O_known c_O_known 2 (some .int) (fr_rm 1) [.ref (fr_ad X 20 0), .int p1] (fr_Z0 X n) (fr_Z0 X n) I J (fr_pi (fun x I' J' => (f_O_known_no I p1) = x ∧ I = I' ∧ J = J')) := by
  refine fr_ct (by decide) rfl rfl (Nat.le_of_ble_eq_true rfl) rfl (fun E => ?_)
  refine fr_aload_n d_O_known_0 rfl ?_
  refine fr_iload_n d_O_known_1 rfl ?_
  refine fr_callVi fr_q6 d_O_known_2 (ct_O_none X n _ _ _) mv_O_118 rfl rfl rfl (Or.inr ⟨rfl, rfl⟩) rfl rfl ⟨Nat.le_of_ble_eq_true rfl, Nat.le_of_ble_eq_true rfl⟩ ⟨rfl, rfl⟩ ⟨Nat.zero_le _, Nat.zero_le _⟩ (Nat.le_of_ble_eq_true rfl) (fun x I' J' hp1 => ?_)
  obtain ⟨rfl, rfl, rfl⟩ := hp1
  rw [hx]
  refine fr_if_ne 12 d_O_known_5 rfl (fun _ => ?_) (fun h => absurd h (by decide))
  refine fr_iconst d_O_known_12 fr_im1 ?_
  refine fr_goto 22 d_O_known_13 rfl ?_
  exact fr_iret d_O_known_22 rfl (fr_nar_i _) (Nat.zero_le _) (Nat.zero_le _) ⟨rfl, rfl, rfl⟩
def f_O_event (I : fr_I) (q : Nat) : Int32 :=
  (I 75 0 q)
set_option maxRecDepth 10000 in
theorem ct_O_event (X : fr_X) (n : Nat) (q e : Nat) (I : fr_I) (J : fr_J)  (hq : q < e) (he : I 20 0 33 = nI e) (he2 : e ≤ 200) : fr_Ct X y_O_event c_O_event 2 (some .int) (fr_rm 0) [.ref (fr_ad X 20 0), .int (nI q)] (fr_Z0 X n) (fr_Z0 X n) I J (fr_pi (fun x I' J' => (f_O_event I q) = x ∧ I = I' ∧ J = J')) := by
  refine fr_ct (by decide) rfl rfl (Nat.le_of_ble_eq_true rfl) rfl (fun E => ?_)
  refine fr_iload_n d_O_event_0 rfl ?_
  refine fr_if_lt 12 d_O_event_1 rfl (fun h => absurd h (nI_pos (by omega))) (fun _ => ?_)
  refine fr_iload_n d_O_event_4 rfl ?_
  refine fr_aload_n d_O_event_5 rfl ?_
  refine fr_geti d_O_event_6 fl_O_128 rfl rfl (Or.inr ⟨rfl, rfl⟩) ?_
  refine fr_icmp_lt 16 d_O_event_9 rfl (fun _ => ?_) (fun h => absurd (by rw [he]; exact nI_lt hq (by omega)) h)
  refine fr_aload_n d_O_event_16 rfl ?_
  refine fr_getr (k' := 75) (r' := 0) d_O_event_17 fl_O_105 rfl rfl rfl (Or.inr ⟨rfl, rfl⟩) ?_
  refine fr_iload_n d_O_event_20 rfl ?_
  refine fr_iald (q) d_O_event_21 rfl rfl (Or.inr ⟨rfl, rfl⟩) rfl (Nat.lt_of_lt_of_le hq he2) (by decide) ?_
  exact fr_iret d_O_event_22 rfl (fr_nar_i _) (Nat.zero_le _) (Nat.zero_le _) ⟨rfl, rfl, rfl⟩
def f_O_event_no (I : fr_I) (p1 : Int32) : Int32 :=
  if p1 < 0 then
    (-1)
  else
    (-1)
set_option maxRecDepth 10000 in
theorem ct_O_event_no (X : fr_X) (n : Nat) (I : fr_I) (J : fr_J) (p1 : Int32) (hx : p1 < 0 ∨ I 20 0 33 ≤ p1) : fr_Ct X y_O_event c_O_event 2 (some .int) (fr_rm 0) [.ref (fr_ad X 20 0), .int p1] (fr_Z0 X n) (fr_Z0 X n) I J (fr_pi (fun x I' J' => (f_O_event_no I p1) = x ∧ I = I' ∧ J = J')) := by
  refine fr_ct (by decide) rfl rfl (Nat.le_of_ble_eq_true rfl) rfl (fun E => ?_)
  refine fr_iload_n d_O_event_0 rfl ?_
  refine fr_if_lt 12 d_O_event_1 rfl (fun h1 => ?_) (fun h1 => ?_)
  · skip
    refine fr_iconst d_O_event_12 fr_im1 ?_
    refine fr_goto 22 d_O_event_13 rfl ?_
    exact fr_iret d_O_event_22 rfl (fr_nar_i _) (Nat.zero_le _) (Nat.zero_le _) ⟨(by unfold f_O_event_no; rw [if_pos h1]), rfl, rfl⟩
  · skip
    refine fr_iload_n d_O_event_4 rfl ?_
    refine fr_aload_n d_O_event_5 rfl ?_
    refine fr_geti d_O_event_6 fl_O_128 rfl rfl (Or.inr ⟨rfl, rfl⟩) ?_
    refine fr_icmp_lt 16 d_O_event_9 rfl (fun h => absurd h (hx.elim (fun q => absurd q h1) (fun q => k2_nlt q))) (fun _ => ?_)
    refine fr_iconst d_O_event_12 fr_im1 ?_
    refine fr_goto 22 d_O_event_13 rfl ?_
    exact fr_iret d_O_event_22 rfl (fr_nar_i _) (Nat.zero_le _) (Nat.zero_le _) ⟨(by unfold f_O_event_no; rw [if_neg h1]), rfl, rfl⟩
def f_O_when (I : fr_I) (q : Nat) : Int32 :=
  (I 76 0 q)
set_option maxRecDepth 10000 in
theorem ct_O_when (X : fr_X) (n : Nat) (q e : Nat) (I : fr_I) (J : fr_J)  (hq : q < e) (he : I 20 0 33 = nI e) (he2 : e ≤ 200) : fr_Ct X y_O_when c_O_when 2 (some .int) (fr_rm 0) [.ref (fr_ad X 20 0), .int (nI q)] (fr_Z0 X n) (fr_Z0 X n) I J (fr_pi (fun x I' J' => (f_O_when I q) = x ∧ I = I' ∧ J = J')) := by
  refine fr_ct (by decide) rfl rfl (Nat.le_of_ble_eq_true rfl) rfl (fun E => ?_)
  refine fr_iload_n d_O_when_0 rfl ?_
  refine fr_if_lt 12 d_O_when_1 rfl (fun h => absurd h (nI_pos (by omega))) (fun _ => ?_)
  refine fr_iload_n d_O_when_4 rfl ?_
  refine fr_aload_n d_O_when_5 rfl ?_
  refine fr_geti d_O_when_6 fl_O_128 rfl rfl (Or.inr ⟨rfl, rfl⟩) ?_
  refine fr_icmp_lt 16 d_O_when_9 rfl (fun _ => ?_) (fun h => absurd (by rw [he]; exact nI_lt hq (by omega)) h)
  refine fr_aload_n d_O_when_16 rfl ?_
  refine fr_getr (k' := 76) (r' := 0) d_O_when_17 fl_O_108 rfl rfl rfl (Or.inr ⟨rfl, rfl⟩) ?_
  refine fr_iload_n d_O_when_20 rfl ?_
  refine fr_iald (q) d_O_when_21 rfl rfl (Or.inr ⟨rfl, rfl⟩) rfl (Nat.lt_of_lt_of_le hq he2) (by decide) ?_
  exact fr_iret d_O_when_22 rfl (fr_nar_i _) (Nat.zero_le _) (Nat.zero_le _) ⟨rfl, rfl, rfl⟩
def f_O_when_no (I : fr_I) (p1 : Int32) : Int32 :=
  if p1 < 0 then
    (-1)
  else
    (-1)
set_option maxRecDepth 10000 in
theorem ct_O_when_no (X : fr_X) (n : Nat) (I : fr_I) (J : fr_J) (p1 : Int32) (hx : p1 < 0 ∨ I 20 0 33 ≤ p1) : fr_Ct X y_O_when c_O_when 2 (some .int) (fr_rm 0) [.ref (fr_ad X 20 0), .int p1] (fr_Z0 X n) (fr_Z0 X n) I J (fr_pi (fun x I' J' => (f_O_when_no I p1) = x ∧ I = I' ∧ J = J')) := by
  refine fr_ct (by decide) rfl rfl (Nat.le_of_ble_eq_true rfl) rfl (fun E => ?_)
  refine fr_iload_n d_O_when_0 rfl ?_
  refine fr_if_lt 12 d_O_when_1 rfl (fun h1 => ?_) (fun h1 => ?_)
  · skip
    refine fr_iconst d_O_when_12 fr_im1 ?_
    refine fr_goto 22 d_O_when_13 rfl ?_
    exact fr_iret d_O_when_22 rfl (fr_nar_i _) (Nat.zero_le _) (Nat.zero_le _) ⟨(by unfold f_O_when_no; rw [if_pos h1]), rfl, rfl⟩
  · skip
    refine fr_iload_n d_O_when_4 rfl ?_
    refine fr_aload_n d_O_when_5 rfl ?_
    refine fr_geti d_O_when_6 fl_O_128 rfl rfl (Or.inr ⟨rfl, rfl⟩) ?_
    refine fr_icmp_lt 16 d_O_when_9 rfl (fun h => absurd h (hx.elim (fun q => absurd q h1) (fun q => k2_nlt q))) (fun _ => ?_)
    refine fr_iconst d_O_when_12 fr_im1 ?_
    refine fr_goto 22 d_O_when_13 rfl ?_
    exact fr_iret d_O_when_22 rfl (fr_nar_i _) (Nat.zero_le _) (Nat.zero_le _) ⟨(by unfold f_O_when_no; rw [if_neg h1]), rfl, rfl⟩
def f_O_note (I : fr_I) (p1 : Int32) (p2 : Int32) : fr_I :=
  if 200 ≤ (I 20 0 33) then
    I
  else
    (fr_ui (fr_ui (fr_ui I 75 0 ((I 20 0 33).toNatClampNeg) (p1 + (8 * p2))) 76 0 ((I 20 0 33).toNatClampNeg) ((fr_ui I 75 0 ((I 20 0 33).toNatClampNeg) (p1 + (8 * p2))) 20 0 1)) 20 0 33 (((fr_ui (fr_ui I 75 0 ((I 20 0 33).toNatClampNeg) (p1 + (8 * p2))) 76 0 ((I 20 0 33).toNatClampNeg) ((fr_ui I 75 0 ((I 20 0 33).toNatClampNeg) (p1 + (8 * p2))) 20 0 1)) 20 0 33) + 1))
set_option maxRecDepth 10000 in
theorem ct_O_note (X : fr_X) (n : Nat) (I : fr_I) (J : fr_J) (p1 : Int32) (p2 : Int32) (hw : fr_mw n I) : fr_Ct X y_O_note c_O_note 3 none (fr_rm 0) [.ref (fr_ad X 20 0), .int p1, .int p2] (fr_Z0 X n) (fr_Z0 X n) I J (fr_pv (fun I' J' => (f_O_note I p1 p2) = I' ∧ J = J')) := by
  refine fr_ct (by decide) rfl rfl (Nat.le_of_ble_eq_true rfl) rfl (fun E => ?_)
  refine fr_aload_n d_O_note_0 rfl ?_
  refine fr_geti d_O_note_1 fl_O_128 rfl rfl (Or.inr ⟨rfl, rfl⟩) ?_
  refine fr_sipush d_O_note_4 fr_s200 ?_
  refine fr_icmp_ge 48 d_O_note_7 rfl (fun h1 => ?_) (fun h1 => ?_)
  · skip
    exact fr_vret d_O_note_48 rfl (Nat.zero_le _) (Nat.zero_le _) ⟨(by unfold f_O_note; rw [if_pos h1]), rfl⟩
  · skip
    refine fr_aload_n d_O_note_10 rfl ?_
    refine fr_getr (k' := 75) (r' := 0) d_O_note_11 fl_O_105 rfl rfl rfl (Or.inr ⟨rfl, rfl⟩) ?_
    refine fr_aload_n d_O_note_14 rfl ?_
    refine fr_geti d_O_note_15 fl_O_128 rfl rfl (Or.inr ⟨rfl, rfl⟩) ?_
    refine fr_iload_n d_O_note_18 rfl ?_
    refine fr_bipush d_O_note_19 fr_b8 ?_
    refine fr_iload_n d_O_note_21 rfl ?_
    refine fr_imul d_O_note_22 ?_
    refine fr_iadd d_O_note_23 ?_
    refine fr_iast ((I 20 0 33).toNatClampNeg) d_O_note_24 rfl rfl (Or.inr ⟨rfl, rfl⟩) (fm_ev_eq hw) (fm_ev_lt hw h1) (by decide) ?_
    refine fr_aload_n d_O_note_25 rfl ?_
    refine fr_getr (k' := 76) (r' := 0) d_O_note_26 fl_O_108 rfl rfl rfl (Or.inr ⟨rfl, rfl⟩) ?_
    refine fr_aload_n d_O_note_29 rfl ?_
    refine fr_geti d_O_note_30 fl_O_128 rfl rfl (Or.inr ⟨rfl, rfl⟩) ?_
    refine fr_aload_n d_O_note_33 rfl ?_
    refine fr_geti d_O_note_34 fl_O_115 rfl rfl (Or.inr ⟨rfl, rfl⟩) ?_
    refine fr_iast ((I 20 0 33).toNatClampNeg) d_O_note_37 rfl rfl (Or.inr ⟨rfl, rfl⟩) ((fr_ui_n (fun z => absurd z.1 (by decide))).trans (fm_ev_eq hw)) (fm_ev_lt hw h1) (by decide) ?_
    refine fr_aload_n d_O_note_38 rfl ?_
    refine fr_dup d_O_note_39 rfl ?_
    refine fr_geti d_O_note_40 fl_O_128 rfl rfl (Or.inr ⟨rfl, rfl⟩) ?_
    refine fr_iconst d_O_note_43 fr_i1 ?_
    refine fr_iadd d_O_note_44 ?_
    refine fr_puti d_O_note_45 fl_O_128 rfl rfl (Or.inr ⟨rfl, rfl⟩) ?_
    exact fr_vret d_O_note_48 rfl (Nat.zero_le _) (Nat.zero_le _) ⟨(by unfold f_O_note; rw [if_neg h1]), rfl⟩
theorem fw_O_note {n : Nat} {I : fr_I} {p1 : Int32} {p2 : Int32} (hw : fr_mw n I) : fr_mw n (f_O_note I p1 p2) := by
  unfold f_O_note
  refine fw_ite (fun h => ?_) (fun h => ?_)
  · exact hw
  · exact fm_note (c1 := 0) (c2 := 0) hw h
def f_O_give (I : fr_I) (r : Nat) (p2 : Int32) : fr_I :=
  (fr_ui (fr_ui (fr_ui I 60 0 r p2) 61 0 r ((fr_ui I 60 0 r p2) 20 0 1)) 62 0 r 0)
set_option maxRecDepth 10000 in
theorem ct_O_give (X : fr_X) (n : Nat) (r : Nat) (hr : r < n) (I : fr_I) (J : fr_J) (p2 : Int32) (hw : fr_mw n I) : fr_Ct X y_O_give c_O_give 3 none (fr_rm 0) [.ref (fr_ad X 20 0), .int (nI r), .int p2] (fr_Z0 X n) (fr_Z0 X n) I J (fr_pv (fun I' J' => (f_O_give I r p2) = I' ∧ J = J')) := by
  refine fr_ct (by decide) rfl rfl (Nat.le_of_ble_eq_true rfl) rfl (fun E => ?_)
  refine fr_aload_n d_O_give_0 rfl ?_
  refine fr_getr (k' := 60) (r' := 0) d_O_give_1 fl_O_66 rfl rfl rfl (Or.inr ⟨rfl, rfl⟩) ?_
  refine fr_iload_n d_O_give_4 rfl ?_
  refine fr_iload_n d_O_give_5 rfl ?_
  refine fr_iast (r) d_O_give_6 rfl rfl (Or.inr ⟨rfl, rfl⟩) rfl (fm_lt8 hw hr) (by decide) ?_
  refine fr_aload_n d_O_give_7 rfl ?_
  refine fr_getr (k' := 61) (r' := 0) d_O_give_8 fl_O_69 rfl rfl rfl (Or.inr ⟨rfl, rfl⟩) ?_
  refine fr_iload_n d_O_give_11 rfl ?_
  refine fr_aload_n d_O_give_12 rfl ?_
  refine fr_geti d_O_give_13 fl_O_115 rfl rfl (Or.inr ⟨rfl, rfl⟩) ?_
  refine fr_iast (r) d_O_give_16 rfl rfl (Or.inr ⟨rfl, rfl⟩) rfl (fm_lt8 hw hr) (by decide) ?_
  refine fr_aload_n d_O_give_17 rfl ?_
  refine fr_getr (k' := 62) (r' := 0) d_O_give_18 fl_O_72 rfl rfl rfl (Or.inr ⟨rfl, rfl⟩) ?_
  refine fr_iload_n d_O_give_21 rfl ?_
  refine fr_iconst d_O_give_22 fr_i0 ?_
  refine fr_zast (r) d_O_give_23 rfl rfl (Or.inl rfl) (Or.inr ⟨rfl, rfl⟩) rfl (fm_lt8 hw hr) (by decide) ?_
  exact fr_vret d_O_give_24 rfl (Nat.zero_le _) (Nat.zero_le _) ⟨rfl, rfl⟩
theorem fw_O_give {n : Nat} {I : fr_I} {r : Nat} {p2 : Int32} (hw : fr_mw n I) : fr_mw n (f_O_give I r p2) := by
  unfold f_O_give
  exact (fm_ui (k := 62) rfl (fm_ui (k := 61) rfl (fm_ui (k := 60) rfl hw)))
def f_O_send (I : fr_I) (r : Nat) : fr_I :=
  if (I 42 0 r) < 0 then
    I
  else
    if (I 53 0 r) = 0 then
      I
    else
      (fr_ui (fr_ui (fr_ui I 69 0 (16 * r + (I 68 0 r).toNatClampNeg) ((I 20 0 1) + (I 53 0 r))) 70 0 (16 * r + (I 68 0 r).toNatClampNeg) ((2 * ((fr_ui I 69 0 (16 * r + (I 68 0 r).toNatClampNeg) ((I 20 0 1) + (I 53 0 r))) 57 0 r)) + (if ((fr_ui I 69 0 (16 * r + (I 68 0 r).toNatClampNeg) ((I 20 0 1) + (I 53 0 r))) 56 0 r) = 0 then (0 : Int32) else 1))) 68 0 r (((fr_ui (fr_ui I 69 0 (16 * r + (I 68 0 r).toNatClampNeg) ((I 20 0 1) + (I 53 0 r))) 70 0 (16 * r + (I 68 0 r).toNatClampNeg) ((2 * ((fr_ui I 69 0 (16 * r + (I 68 0 r).toNatClampNeg) ((I 20 0 1) + (I 53 0 r))) 57 0 r)) + (if ((fr_ui I 69 0 (16 * r + (I 68 0 r).toNatClampNeg) ((I 20 0 1) + (I 53 0 r))) 56 0 r) = 0 then (0 : Int32) else 1))) 68 0 r) + 1))
set_option maxRecDepth 10000 in
theorem ct_O_send (X : fr_X) (n : Nat) (r : Nat) (hr : r < n) (I : fr_I) (J : fr_J)  (hw : fr_mw n I) : fr_Ct X y_O_send c_O_send 3 none (fr_rm 0) [.ref (fr_ad X 20 0), .int (nI r)] (fr_Z0 X n) (fr_Z0 X n) I J (fr_pv (fun I' J' => (f_O_send I r) = I' ∧ J = J')) := by
  refine fr_ct (by decide) rfl rfl (Nat.le_of_ble_eq_true rfl) rfl (fun E => ?_)
  refine fr_aload_n d_O_send_0 rfl ?_
  refine fr_getr (k' := 42) (r' := 0) d_O_send_1 fl_O_7 rfl rfl rfl (Or.inr ⟨rfl, rfl⟩) ?_
  refine fr_iload_n d_O_send_4 rfl ?_
  refine fr_iald (r) d_O_send_5 rfl rfl (Or.inr ⟨rfl, rfl⟩) rfl (fm_lt8 hw hr) (by decide) ?_
  refine fr_if_lt 18 d_O_send_6 rfl (fun h1 => ?_) (fun h1 => ?_)
  · skip
    exact fr_vret d_O_send_18 rfl (Nat.zero_le _) (Nat.zero_le _) ⟨(by unfold f_O_send; rw [if_pos h1]), rfl⟩
  · skip
    refine fr_aload_n d_O_send_9 rfl ?_
    refine fr_getr (k' := 53) (r' := 0) d_O_send_10 fl_O_44 rfl rfl rfl (Or.inr ⟨rfl, rfl⟩) ?_
    refine fr_iload_n d_O_send_13 rfl ?_
    refine fr_iald (r) d_O_send_14 rfl rfl (Or.inr ⟨rfl, rfl⟩) rfl (fm_lt8 hw hr) (by decide) ?_
    refine fr_if_ne 19 d_O_send_15 rfl (fun h2 => ?_) (fun h2 => ?_)
    · skip
      refine fr_bipush d_O_send_19 fr_b16 ?_
      refine fr_iload_n d_O_send_21 rfl ?_
      refine fr_imul d_O_send_22 ?_
      refine fr_teq (x' := nI (16 * r)) (pk_mul (16) (r)) ?_
      refine fr_aload_n d_O_send_23 rfl ?_
      refine fr_getr (k' := 68) (r' := 0) d_O_send_24 fl_O_90 rfl rfl rfl (Or.inr ⟨rfl, rfl⟩) ?_
      refine fr_iload_n d_O_send_27 rfl ?_
      refine fr_iald (r) d_O_send_28 rfl rfl (Or.inr ⟨rfl, rfl⟩) rfl (fm_lt8 hw hr) (by decide) ?_
      refine fr_teq (fm_un_eq hw hr) ?_
      refine fr_iadd d_O_send_29 ?_
      refine fr_teq (x' := nI (16 * r + (I 68 0 r).toNatClampNeg)) (nI_add (16 * r) ((I 68 0 r).toNatClampNeg)) ?_
      refine fr_istore_n (L' := [(2, .int _), (0, .ref _), (1, .int _)]) d_O_send_30 (by decide) rfl ?_
      refine fr_aload_n d_O_send_31 rfl ?_
      refine fr_getr (k' := 69) (r' := 0) d_O_send_32 fl_O_93 rfl rfl rfl (Or.inr ⟨rfl, rfl⟩) ?_
      refine fr_iload_n d_O_send_35 rfl ?_
      refine fr_aload_n d_O_send_36 rfl ?_
      refine fr_geti d_O_send_37 fl_O_115 rfl rfl (Or.inr ⟨rfl, rfl⟩) ?_
      refine fr_aload_n d_O_send_40 rfl ?_
      refine fr_getr (k' := 53) (r' := 0) d_O_send_41 fl_O_44 rfl rfl rfl (Or.inr ⟨rfl, rfl⟩) ?_
      refine fr_iload_n d_O_send_44 rfl ?_
      refine fr_iald (r) d_O_send_45 rfl rfl (Or.inr ⟨rfl, rfl⟩) rfl (fm_lt8 hw hr) (by decide) ?_
      refine fr_iadd d_O_send_46 ?_
      refine fr_iast (16 * r + (I 68 0 r).toNatClampNeg) d_O_send_47 rfl rfl (Or.inr ⟨rfl, rfl⟩) rfl (fm_q128 hw hr) (by decide) ?_
      refine fr_aload_n d_O_send_48 rfl ?_
      refine fr_getr (k' := 70) (r' := 0) d_O_send_49 fl_O_96 rfl rfl rfl (Or.inr ⟨rfl, rfl⟩) ?_
      refine fr_iload_n d_O_send_52 rfl ?_
      refine fr_iconst d_O_send_53 fr_i2 ?_
      refine fr_aload_n d_O_send_54 rfl ?_
      refine fr_getr (k' := 57) (r' := 0) d_O_send_55 fl_O_57 rfl rfl rfl (Or.inr ⟨rfl, rfl⟩) ?_
      refine fr_iload_n d_O_send_58 rfl ?_
      refine fr_iald (r) d_O_send_59 rfl rfl (Or.inr ⟨rfl, rfl⟩) rfl (fm_lt8 hw hr) (by decide) ?_
      refine fr_imul d_O_send_60 ?_
      refine fr_aload_n d_O_send_61 rfl ?_
      refine fr_getr (k' := 56) (r' := 0) d_O_send_62 fl_O_54 rfl rfl rfl (Or.inr ⟨rfl, rfl⟩) ?_
      refine fr_iload_n d_O_send_65 rfl ?_
      refine fr_zald (r) d_O_send_66 rfl rfl (Or.inr ⟨rfl, rfl⟩) rfl (fm_lt8 hw hr) (by decide) ?_
      refine fr_tif_eq (t := 74) (j := 75) d_O_send_67 rfl (fun k => fr_iconst d_O_send_70 fr_i1 (fr_goto 75 d_O_send_71 rfl k)) (fun k => fr_iconst d_O_send_74 fr_i0 k) ?_
      refine fr_iadd d_O_send_75 ?_
      refine fr_iast (16 * r + (I 68 0 r).toNatClampNeg) d_O_send_76 rfl rfl (Or.inr ⟨rfl, rfl⟩) rfl (fm_q128 hw hr) (by decide) ?_
      refine fr_aload_n d_O_send_77 rfl ?_
      refine fr_getr (k' := 68) (r' := 0) d_O_send_78 fl_O_90 rfl rfl rfl (Or.inr ⟨rfl, rfl⟩) ?_
      refine fr_iload_n d_O_send_81 rfl ?_
      refine fr_dup2 d_O_send_82 rfl rfl ?_
      refine fr_iald (r) d_O_send_83 rfl rfl (Or.inr ⟨rfl, rfl⟩) rfl (fm_lt8 hw hr) (by decide) ?_
      refine fr_iconst d_O_send_84 fr_i1 ?_
      refine fr_iadd d_O_send_85 ?_
      refine fr_iast (r) d_O_send_86 rfl rfl (Or.inr ⟨rfl, rfl⟩) rfl (fm_lt8 hw hr) (by decide) ?_
      exact fr_vret d_O_send_87 rfl (Nat.zero_le _) (Nat.zero_le _) ⟨(by unfold f_O_send; rw [if_neg h1, if_neg h2]), rfl⟩
    · skip
      exact fr_vret d_O_send_18 rfl (Nat.zero_le _) (Nat.zero_le _) ⟨(by unfold f_O_send; rw [if_neg h1, if_pos h2]), rfl⟩
theorem fw_O_send {n : Nat} {I : fr_I} {r : Nat} (hu : fr_nn (I 68 0 r) 15) (hw : fr_mw n I) : fr_mw n (f_O_send I r) := by
  unfold f_O_send
  refine fw_ite (fun h => ?_) (fun h => ?_)
  · skip
    exact hw
  · skip
    refine fw_ite (fun h => ?_) (fun h => ?_)
    · skip
      exact hw
    · skip
      exact (fm_unp (fm_un1 hu) (fm_ui (k := 70) rfl (fm_ui (k := 69) rfl hw)))
def f_O_breaker (I : fr_I) (r : Nat) : fr_I :=
  if (I 60 0 r) ≤ 0 then
    if (I 63 0 r) = 0 then
      if (I 66 0 r) ≤ 0 then
        I
      else
        if (I 43 0 r) = 0 then
          I
        else
          if (I 60 0 r) = 0 then
            if (I 20 0 1) < (I 67 0 r) then
              I
            else
              (f_O_note ((fr_ui I 66 0 r 0)) 4 (nI r))
          else
            I
    else
      if (I 20 0 1) < (I 64 0 r) then
        if (I 66 0 r) ≤ 0 then
          I
        else
          if (I 43 0 r) = 0 then
            I
          else
            if (I 60 0 r) = 0 then
              if (I 20 0 1) < (I 67 0 r) then
                I
              else
                (f_O_note ((fr_ui I 66 0 r 0)) 4 (nI r))
            else
              I
      else
        (f_O_note ((fr_ui (fr_ui (fr_ui (fr_ui I 43 0 r 1) 63 0 r 0) 66 0 r (((fr_ui (fr_ui I 43 0 r 1) 63 0 r 0) 66 0 r) + 1)) 67 0 r (((fr_ui (fr_ui (fr_ui I 43 0 r 1) 63 0 r 0) 66 0 r (((fr_ui (fr_ui I 43 0 r 1) 63 0 r 0) 66 0 r) + 1)) 20 0 1) + 30))) 3 (nI r))
  else
    if ((I 20 0 1) - (I 61 0 r)) < 2 then
      if (I 63 0 r) = 0 then
        if (I 66 0 r) ≤ 0 then
          I
        else
          if (I 43 0 r) = 0 then
            I
          else
            if (I 60 0 r) = 0 then
              if (I 20 0 1) < (I 67 0 r) then
                I
              else
                (f_O_note ((fr_ui I 66 0 r 0)) 4 (nI r))
            else
              I
      else
        if (I 20 0 1) < (I 64 0 r) then
          if (I 66 0 r) ≤ 0 then
            I
          else
            if (I 43 0 r) = 0 then
              I
            else
              if (I 60 0 r) = 0 then
                if (I 20 0 1) < (I 67 0 r) then
                  I
                else
                  (f_O_note ((fr_ui I 66 0 r 0)) 4 (nI r))
              else
                I
        else
          (f_O_note ((fr_ui (fr_ui (fr_ui (fr_ui I 43 0 r 1) 63 0 r 0) 66 0 r (((fr_ui (fr_ui I 43 0 r 1) 63 0 r 0) 66 0 r) + 1)) 67 0 r (((fr_ui (fr_ui (fr_ui I 43 0 r 1) 63 0 r 0) 66 0 r (((fr_ui (fr_ui I 43 0 r 1) 63 0 r 0) 66 0 r) + 1)) 20 0 1) + 30))) 3 (nI r))
    else
      if (I 44 0 r) = 0 then
        if (if (I 60 0 r) = 1 then (1 : Int32) else 0) = 0 then
          (f_O_note ((fr_ui (f_O_note ((fr_ui (fr_ui I 43 0 r 0) 60 0 r 0)) 2 (nI r)) 65 0 r 1)) 5 (nI r))
        else
          if ((f_O_note ((fr_ui (fr_ui I 43 0 r 0) 60 0 r 0)) 2 (nI r)) 51 0 r) ≤ ((f_O_note ((fr_ui (fr_ui I 43 0 r 0) 60 0 r 0)) 2 (nI r)) 66 0 r) then
            (f_O_note ((fr_ui (f_O_note ((fr_ui (fr_ui I 43 0 r 0) 60 0 r 0)) 2 (nI r)) 65 0 r 1)) 5 (nI r))
          else
            if ((fr_ui (f_O_note ((fr_ui (fr_ui I 43 0 r 0) 60 0 r 0)) 2 (nI r)) 63 0 r 1) 66 0 r) = 0 then
              (fr_ui (fr_ui (f_O_note ((fr_ui (fr_ui I 43 0 r 0) 60 0 r 0)) 2 (nI r)) 63 0 r 1) 64 0 r (((fr_ui (f_O_note ((fr_ui (fr_ui I 43 0 r 0) 60 0 r 0)) 2 (nI r)) 63 0 r 1) 20 0 1) + 5))
            else
              (fr_ui (fr_ui (f_O_note ((fr_ui (fr_ui I 43 0 r 0) 60 0 r 0)) 2 (nI r)) 63 0 r 1) 64 0 r (((fr_ui (f_O_note ((fr_ui (fr_ui I 43 0 r 0) 60 0 r 0)) 2 (nI r)) 63 0 r 1) 20 0 1) + (if ((fr_ui (f_O_note ((fr_ui (fr_ui I 43 0 r 0) 60 0 r 0)) 2 (nI r)) 63 0 r 1) 66 0 r) = 1 then (20 : Int32) else 50)))
      else
        if (I 63 0 r) = 0 then
          if (I 66 0 r) ≤ 0 then
            I
          else
            if (I 43 0 r) = 0 then
              I
            else
              if (I 60 0 r) = 0 then
                if (I 20 0 1) < (I 67 0 r) then
                  I
                else
                  (f_O_note ((fr_ui I 66 0 r 0)) 4 (nI r))
              else
                I
        else
          if (I 20 0 1) < (I 64 0 r) then
            if (I 66 0 r) ≤ 0 then
              I
            else
              if (I 43 0 r) = 0 then
                I
              else
                if (I 60 0 r) = 0 then
                  if (I 20 0 1) < (I 67 0 r) then
                    I
                  else
                    (f_O_note ((fr_ui I 66 0 r 0)) 4 (nI r))
                else
                  I
          else
            (f_O_note ((fr_ui (fr_ui (fr_ui (fr_ui I 43 0 r 1) 63 0 r 0) 66 0 r (((fr_ui (fr_ui I 43 0 r 1) 63 0 r 0) 66 0 r) + 1)) 67 0 r (((fr_ui (fr_ui (fr_ui I 43 0 r 1) 63 0 r 0) 66 0 r (((fr_ui (fr_ui I 43 0 r 1) 63 0 r 0) 66 0 r) + 1)) 20 0 1) + 30))) 3 (nI r))
set_option maxRecDepth 10000 in
theorem ct_O_breaker (X : fr_X) (n : Nat) (r : Nat) (hr : r < n) (I : fr_I) (J : fr_J)  (hw : fr_mw n I) : fr_Ct X y_O_breaker c_O_breaker 3 none (fr_rm 1) [.ref (fr_ad X 20 0), .int (nI r)] (fr_Z0 X n) (fr_Z0 X n) I J (fr_pv (fun I' J' => (f_O_breaker I r) = I' ∧ J = J')) := by
  refine fr_ct (by decide) rfl rfl (Nat.le_of_ble_eq_true rfl) rfl (fun E => ?_)
  refine fr_aload_n d_O_breaker_0 rfl ?_
  refine fr_getr (k' := 60) (r' := 0) d_O_breaker_1 fl_O_66 rfl rfl rfl (Or.inr ⟨rfl, rfl⟩) ?_
  refine fr_iload_n d_O_breaker_4 rfl ?_
  refine fr_iald (r) d_O_breaker_5 rfl rfl (Or.inr ⟨rfl, rfl⟩) rfl (fm_lt8 hw hr) (by decide) ?_
  refine fr_if_le 155 d_O_breaker_6 rfl (fun h1 => ?_) (fun h1 => ?_)
  · skip
    refine fr_aload_n d_O_breaker_155 rfl ?_
    refine fr_getr (k' := 63) (r' := 0) d_O_breaker_156 fl_O_75 rfl rfl rfl (Or.inr ⟨rfl, rfl⟩) ?_
    refine fr_iload_n d_O_breaker_159 rfl ?_
    refine fr_zald (r) d_O_breaker_160 rfl rfl (Or.inr ⟨rfl, rfl⟩) rfl (fm_lt8 hw hr) (by decide) ?_
    refine fr_if_eq 223 d_O_breaker_161 rfl (fun h2 => ?_) (fun h2 => ?_)
    · skip
      refine fr_aload_n d_O_breaker_223 rfl ?_
      refine fr_getr (k' := 66) (r' := 0) d_O_breaker_224 fl_O_84 rfl rfl rfl (Or.inr ⟨rfl, rfl⟩) ?_
      refine fr_iload_n d_O_breaker_227 rfl ?_
      refine fr_iald (r) d_O_breaker_228 rfl rfl (Or.inr ⟨rfl, rfl⟩) rfl (fm_lt8 hw hr) (by decide) ?_
      refine fr_if_le 276 d_O_breaker_229 rfl (fun h3 => ?_) (fun h3 => ?_)
      · skip
        exact fr_vret d_O_breaker_276 rfl (Nat.zero_le _) (Nat.zero_le _) ⟨(by unfold f_O_breaker; rw [if_pos h1, if_pos h2, if_pos h3]), rfl⟩
      · skip
        refine fr_aload_n d_O_breaker_232 rfl ?_
        refine fr_getr (k' := 43) (r' := 0) d_O_breaker_233 fl_O_13 rfl rfl rfl (Or.inr ⟨rfl, rfl⟩) ?_
        refine fr_iload_n d_O_breaker_236 rfl ?_
        refine fr_zald (r) d_O_breaker_237 rfl rfl (Or.inr ⟨rfl, rfl⟩) rfl (fm_lt8 hw hr) (by decide) ?_
        refine fr_if_eq 276 d_O_breaker_238 rfl (fun h4 => ?_) (fun h4 => ?_)
        · skip
          exact fr_vret d_O_breaker_276 rfl (Nat.zero_le _) (Nat.zero_le _) ⟨(by unfold f_O_breaker; rw [if_pos h1, if_pos h2, if_neg h3, if_pos h4]), rfl⟩
        · skip
          refine fr_aload_n d_O_breaker_241 rfl ?_
          refine fr_getr (k' := 60) (r' := 0) d_O_breaker_242 fl_O_66 rfl rfl rfl (Or.inr ⟨rfl, rfl⟩) ?_
          refine fr_iload_n d_O_breaker_245 rfl ?_
          refine fr_iald (r) d_O_breaker_246 rfl rfl (Or.inr ⟨rfl, rfl⟩) rfl (fm_lt8 hw hr) (by decide) ?_
          refine fr_if_ne 276 d_O_breaker_247 rfl (fun h5 => ?_) (fun h5 => ?_)
          · skip
            exact fr_vret d_O_breaker_276 rfl (Nat.zero_le _) (Nat.zero_le _) ⟨(by unfold f_O_breaker; rw [if_pos h1, if_pos h2, if_neg h3, if_neg h4, if_neg h5]), rfl⟩
          · skip
            refine fr_aload_n d_O_breaker_250 rfl ?_
            refine fr_geti d_O_breaker_251 fl_O_115 rfl rfl (Or.inr ⟨rfl, rfl⟩) ?_
            refine fr_aload_n d_O_breaker_254 rfl ?_
            refine fr_getr (k' := 67) (r' := 0) d_O_breaker_255 fl_O_87 rfl rfl rfl (Or.inr ⟨rfl, rfl⟩) ?_
            refine fr_iload_n d_O_breaker_258 rfl ?_
            refine fr_iald (r) d_O_breaker_259 rfl rfl (Or.inr ⟨rfl, rfl⟩) rfl (fm_lt8 hw hr) (by decide) ?_
            refine fr_icmp_lt 276 d_O_breaker_260 rfl (fun h6 => ?_) (fun h6 => ?_)
            · skip
              exact fr_vret d_O_breaker_276 rfl (Nat.zero_le _) (Nat.zero_le _) ⟨(by unfold f_O_breaker; rw [if_pos h1, if_pos h2, if_neg h3, if_neg h4, if_pos h5, if_pos h6]), rfl⟩
            · skip
              refine fr_aload_n d_O_breaker_263 rfl ?_
              refine fr_getr (k' := 66) (r' := 0) d_O_breaker_264 fl_O_84 rfl rfl rfl (Or.inr ⟨rfl, rfl⟩) ?_
              refine fr_iload_n d_O_breaker_267 rfl ?_
              refine fr_iconst d_O_breaker_268 fr_i0 ?_
              refine fr_iast (r) d_O_breaker_269 rfl rfl (Or.inr ⟨rfl, rfl⟩) rfl (fm_lt8 hw hr) (by decide) ?_
              refine fr_aload_n d_O_breaker_270 rfl ?_
              refine fr_iconst d_O_breaker_271 fr_i4 ?_
              refine fr_iload_n d_O_breaker_272 rfl ?_
              refine fr_callVv fr_q6 d_O_breaker_273 (ct_O_note X n _ _ _ _ (fm_ui (k := 66) rfl hw)) mv_O_131 rfl rfl rfl (Or.inr ⟨rfl, rfl⟩) rfl rfl ⟨Nat.le_of_ble_eq_true rfl, Nat.le_of_ble_eq_true rfl⟩ ⟨rfl, rfl⟩ ⟨Nat.zero_le _, Nat.zero_le _⟩ (Nat.le_of_ble_eq_true rfl) (fun I' J' hp7 => ?_)
              obtain ⟨rfl, rfl⟩ := hp7
              exact fr_vret d_O_breaker_276 rfl (Nat.zero_le _) (Nat.zero_le _) ⟨(by unfold f_O_breaker; rw [if_pos h1, if_pos h2, if_neg h3, if_neg h4, if_pos h5, if_neg h6]), rfl⟩
    · skip
      refine fr_aload_n d_O_breaker_164 rfl ?_
      refine fr_geti d_O_breaker_165 fl_O_115 rfl rfl (Or.inr ⟨rfl, rfl⟩) ?_
      refine fr_aload_n d_O_breaker_168 rfl ?_
      refine fr_getr (k' := 64) (r' := 0) d_O_breaker_169 fl_O_78 rfl rfl rfl (Or.inr ⟨rfl, rfl⟩) ?_
      refine fr_iload_n d_O_breaker_172 rfl ?_
      refine fr_iald (r) d_O_breaker_173 rfl rfl (Or.inr ⟨rfl, rfl⟩) rfl (fm_lt8 hw hr) (by decide) ?_
      refine fr_icmp_lt 223 d_O_breaker_174 rfl (fun h8 => ?_) (fun h8 => ?_)
      · skip
        refine fr_aload_n d_O_breaker_223 rfl ?_
        refine fr_getr (k' := 66) (r' := 0) d_O_breaker_224 fl_O_84 rfl rfl rfl (Or.inr ⟨rfl, rfl⟩) ?_
        refine fr_iload_n d_O_breaker_227 rfl ?_
        refine fr_iald (r) d_O_breaker_228 rfl rfl (Or.inr ⟨rfl, rfl⟩) rfl (fm_lt8 hw hr) (by decide) ?_
        refine fr_if_le 276 d_O_breaker_229 rfl (fun h9 => ?_) (fun h9 => ?_)
        · skip
          exact fr_vret d_O_breaker_276 rfl (Nat.zero_le _) (Nat.zero_le _) ⟨(by unfold f_O_breaker; rw [if_pos h1, if_neg h2, if_pos h8, if_pos h9]), rfl⟩
        · skip
          refine fr_aload_n d_O_breaker_232 rfl ?_
          refine fr_getr (k' := 43) (r' := 0) d_O_breaker_233 fl_O_13 rfl rfl rfl (Or.inr ⟨rfl, rfl⟩) ?_
          refine fr_iload_n d_O_breaker_236 rfl ?_
          refine fr_zald (r) d_O_breaker_237 rfl rfl (Or.inr ⟨rfl, rfl⟩) rfl (fm_lt8 hw hr) (by decide) ?_
          refine fr_if_eq 276 d_O_breaker_238 rfl (fun h10 => ?_) (fun h10 => ?_)
          · skip
            exact fr_vret d_O_breaker_276 rfl (Nat.zero_le _) (Nat.zero_le _) ⟨(by unfold f_O_breaker; rw [if_pos h1, if_neg h2, if_pos h8, if_neg h9, if_pos h10]), rfl⟩
          · skip
            refine fr_aload_n d_O_breaker_241 rfl ?_
            refine fr_getr (k' := 60) (r' := 0) d_O_breaker_242 fl_O_66 rfl rfl rfl (Or.inr ⟨rfl, rfl⟩) ?_
            refine fr_iload_n d_O_breaker_245 rfl ?_
            refine fr_iald (r) d_O_breaker_246 rfl rfl (Or.inr ⟨rfl, rfl⟩) rfl (fm_lt8 hw hr) (by decide) ?_
            refine fr_if_ne 276 d_O_breaker_247 rfl (fun h11 => ?_) (fun h11 => ?_)
            · skip
              exact fr_vret d_O_breaker_276 rfl (Nat.zero_le _) (Nat.zero_le _) ⟨(by unfold f_O_breaker; rw [if_pos h1, if_neg h2, if_pos h8, if_neg h9, if_neg h10, if_neg h11]), rfl⟩
            · skip
              refine fr_aload_n d_O_breaker_250 rfl ?_
              refine fr_geti d_O_breaker_251 fl_O_115 rfl rfl (Or.inr ⟨rfl, rfl⟩) ?_
              refine fr_aload_n d_O_breaker_254 rfl ?_
              refine fr_getr (k' := 67) (r' := 0) d_O_breaker_255 fl_O_87 rfl rfl rfl (Or.inr ⟨rfl, rfl⟩) ?_
              refine fr_iload_n d_O_breaker_258 rfl ?_
              refine fr_iald (r) d_O_breaker_259 rfl rfl (Or.inr ⟨rfl, rfl⟩) rfl (fm_lt8 hw hr) (by decide) ?_
              refine fr_icmp_lt 276 d_O_breaker_260 rfl (fun h12 => ?_) (fun h12 => ?_)
              · skip
                exact fr_vret d_O_breaker_276 rfl (Nat.zero_le _) (Nat.zero_le _) ⟨(by unfold f_O_breaker; rw [if_pos h1, if_neg h2, if_pos h8, if_neg h9, if_neg h10, if_pos h11, if_pos h12]), rfl⟩
              · skip
                refine fr_aload_n d_O_breaker_263 rfl ?_
                refine fr_getr (k' := 66) (r' := 0) d_O_breaker_264 fl_O_84 rfl rfl rfl (Or.inr ⟨rfl, rfl⟩) ?_
                refine fr_iload_n d_O_breaker_267 rfl ?_
                refine fr_iconst d_O_breaker_268 fr_i0 ?_
                refine fr_iast (r) d_O_breaker_269 rfl rfl (Or.inr ⟨rfl, rfl⟩) rfl (fm_lt8 hw hr) (by decide) ?_
                refine fr_aload_n d_O_breaker_270 rfl ?_
                refine fr_iconst d_O_breaker_271 fr_i4 ?_
                refine fr_iload_n d_O_breaker_272 rfl ?_
                refine fr_callVv fr_q6 d_O_breaker_273 (ct_O_note X n _ _ _ _ (fm_ui (k := 66) rfl hw)) mv_O_131 rfl rfl rfl (Or.inr ⟨rfl, rfl⟩) rfl rfl ⟨Nat.le_of_ble_eq_true rfl, Nat.le_of_ble_eq_true rfl⟩ ⟨rfl, rfl⟩ ⟨Nat.zero_le _, Nat.zero_le _⟩ (Nat.le_of_ble_eq_true rfl) (fun I' J' hp13 => ?_)
                obtain ⟨rfl, rfl⟩ := hp13
                exact fr_vret d_O_breaker_276 rfl (Nat.zero_le _) (Nat.zero_le _) ⟨(by unfold f_O_breaker; rw [if_pos h1, if_neg h2, if_pos h8, if_neg h9, if_neg h10, if_pos h11, if_neg h12]), rfl⟩
      · skip
        refine fr_aload_n d_O_breaker_177 rfl ?_
        refine fr_getr (k' := 43) (r' := 0) d_O_breaker_178 fl_O_13 rfl rfl rfl (Or.inr ⟨rfl, rfl⟩) ?_
        refine fr_iload_n d_O_breaker_181 rfl ?_
        refine fr_iconst d_O_breaker_182 fr_i1 ?_
        refine fr_zast (r) d_O_breaker_183 rfl rfl (Or.inr rfl) (Or.inr ⟨rfl, rfl⟩) rfl (fm_lt8 hw hr) (by decide) ?_
        refine fr_aload_n d_O_breaker_184 rfl ?_
        refine fr_getr (k' := 63) (r' := 0) d_O_breaker_185 fl_O_75 rfl rfl rfl (Or.inr ⟨rfl, rfl⟩) ?_
        refine fr_iload_n d_O_breaker_188 rfl ?_
        refine fr_iconst d_O_breaker_189 fr_i0 ?_
        refine fr_zast (r) d_O_breaker_190 rfl rfl (Or.inl rfl) (Or.inr ⟨rfl, rfl⟩) rfl (fm_lt8 hw hr) (by decide) ?_
        refine fr_aload_n d_O_breaker_191 rfl ?_
        refine fr_getr (k' := 66) (r' := 0) d_O_breaker_192 fl_O_84 rfl rfl rfl (Or.inr ⟨rfl, rfl⟩) ?_
        refine fr_iload_n d_O_breaker_195 rfl ?_
        refine fr_dup2 d_O_breaker_196 rfl rfl ?_
        refine fr_iald (r) d_O_breaker_197 rfl rfl (Or.inr ⟨rfl, rfl⟩) rfl (fm_lt8 hw hr) (by decide) ?_
        refine fr_iconst d_O_breaker_198 fr_i1 ?_
        refine fr_iadd d_O_breaker_199 ?_
        refine fr_iast (r) d_O_breaker_200 rfl rfl (Or.inr ⟨rfl, rfl⟩) rfl (fm_lt8 hw hr) (by decide) ?_
        refine fr_aload_n d_O_breaker_201 rfl ?_
        refine fr_getr (k' := 67) (r' := 0) d_O_breaker_202 fl_O_87 rfl rfl rfl (Or.inr ⟨rfl, rfl⟩) ?_
        refine fr_iload_n d_O_breaker_205 rfl ?_
        refine fr_aload_n d_O_breaker_206 rfl ?_
        refine fr_geti d_O_breaker_207 fl_O_115 rfl rfl (Or.inr ⟨rfl, rfl⟩) ?_
        refine fr_bipush d_O_breaker_210 fr_b30 ?_
        refine fr_iadd d_O_breaker_212 ?_
        refine fr_iast (r) d_O_breaker_213 rfl rfl (Or.inr ⟨rfl, rfl⟩) rfl (fm_lt8 hw hr) (by decide) ?_
        refine fr_aload_n d_O_breaker_214 rfl ?_
        refine fr_iconst d_O_breaker_215 fr_i3 ?_
        refine fr_iload_n d_O_breaker_216 rfl ?_
        refine fr_callVv fr_q6 d_O_breaker_217 (ct_O_note X n _ _ _ _ (fm_ui (k := 67) rfl (fm_ui (k := 66) rfl (fm_ui (k := 63) rfl (fm_ui (k := 43) rfl hw))))) mv_O_131 rfl rfl rfl (Or.inr ⟨rfl, rfl⟩) rfl rfl ⟨Nat.le_of_ble_eq_true rfl, Nat.le_of_ble_eq_true rfl⟩ ⟨rfl, rfl⟩ ⟨Nat.zero_le _, Nat.zero_le _⟩ (Nat.le_of_ble_eq_true rfl) (fun I' J' hp14 => ?_)
        obtain ⟨rfl, rfl⟩ := hp14
        refine fr_goto 276 d_O_breaker_220 rfl ?_
        exact fr_vret d_O_breaker_276 rfl (Nat.zero_le _) (Nat.zero_le _) ⟨(by unfold f_O_breaker; rw [if_pos h1, if_neg h2, if_neg h8]), rfl⟩
  · skip
    refine fr_aload_n d_O_breaker_9 rfl ?_
    refine fr_geti d_O_breaker_10 fl_O_115 rfl rfl (Or.inr ⟨rfl, rfl⟩) ?_
    refine fr_aload_n d_O_breaker_13 rfl ?_
    refine fr_getr (k' := 61) (r' := 0) d_O_breaker_14 fl_O_69 rfl rfl rfl (Or.inr ⟨rfl, rfl⟩) ?_
    refine fr_iload_n d_O_breaker_17 rfl ?_
    refine fr_iald (r) d_O_breaker_18 rfl rfl (Or.inr ⟨rfl, rfl⟩) rfl (fm_lt8 hw hr) (by decide) ?_
    refine fr_isub d_O_breaker_19 ?_
    refine fr_iconst d_O_breaker_20 fr_i2 ?_
    refine fr_icmp_lt 155 d_O_breaker_21 rfl (fun h15 => ?_) (fun h15 => ?_)
    · skip
      refine fr_aload_n d_O_breaker_155 rfl ?_
      refine fr_getr (k' := 63) (r' := 0) d_O_breaker_156 fl_O_75 rfl rfl rfl (Or.inr ⟨rfl, rfl⟩) ?_
      refine fr_iload_n d_O_breaker_159 rfl ?_
      refine fr_zald (r) d_O_breaker_160 rfl rfl (Or.inr ⟨rfl, rfl⟩) rfl (fm_lt8 hw hr) (by decide) ?_
      refine fr_if_eq 223 d_O_breaker_161 rfl (fun h16 => ?_) (fun h16 => ?_)
      · skip
        refine fr_aload_n d_O_breaker_223 rfl ?_
        refine fr_getr (k' := 66) (r' := 0) d_O_breaker_224 fl_O_84 rfl rfl rfl (Or.inr ⟨rfl, rfl⟩) ?_
        refine fr_iload_n d_O_breaker_227 rfl ?_
        refine fr_iald (r) d_O_breaker_228 rfl rfl (Or.inr ⟨rfl, rfl⟩) rfl (fm_lt8 hw hr) (by decide) ?_
        refine fr_if_le 276 d_O_breaker_229 rfl (fun h17 => ?_) (fun h17 => ?_)
        · skip
          exact fr_vret d_O_breaker_276 rfl (Nat.zero_le _) (Nat.zero_le _) ⟨(by unfold f_O_breaker; rw [if_neg h1, if_pos h15, if_pos h16, if_pos h17]), rfl⟩
        · skip
          refine fr_aload_n d_O_breaker_232 rfl ?_
          refine fr_getr (k' := 43) (r' := 0) d_O_breaker_233 fl_O_13 rfl rfl rfl (Or.inr ⟨rfl, rfl⟩) ?_
          refine fr_iload_n d_O_breaker_236 rfl ?_
          refine fr_zald (r) d_O_breaker_237 rfl rfl (Or.inr ⟨rfl, rfl⟩) rfl (fm_lt8 hw hr) (by decide) ?_
          refine fr_if_eq 276 d_O_breaker_238 rfl (fun h18 => ?_) (fun h18 => ?_)
          · skip
            exact fr_vret d_O_breaker_276 rfl (Nat.zero_le _) (Nat.zero_le _) ⟨(by unfold f_O_breaker; rw [if_neg h1, if_pos h15, if_pos h16, if_neg h17, if_pos h18]), rfl⟩
          · skip
            refine fr_aload_n d_O_breaker_241 rfl ?_
            refine fr_getr (k' := 60) (r' := 0) d_O_breaker_242 fl_O_66 rfl rfl rfl (Or.inr ⟨rfl, rfl⟩) ?_
            refine fr_iload_n d_O_breaker_245 rfl ?_
            refine fr_iald (r) d_O_breaker_246 rfl rfl (Or.inr ⟨rfl, rfl⟩) rfl (fm_lt8 hw hr) (by decide) ?_
            refine fr_if_ne 276 d_O_breaker_247 rfl (fun h19 => ?_) (fun h19 => ?_)
            · skip
              exact fr_vret d_O_breaker_276 rfl (Nat.zero_le _) (Nat.zero_le _) ⟨(by unfold f_O_breaker; rw [if_neg h1, if_pos h15, if_pos h16, if_neg h17, if_neg h18, if_neg h19]), rfl⟩
            · skip
              refine fr_aload_n d_O_breaker_250 rfl ?_
              refine fr_geti d_O_breaker_251 fl_O_115 rfl rfl (Or.inr ⟨rfl, rfl⟩) ?_
              refine fr_aload_n d_O_breaker_254 rfl ?_
              refine fr_getr (k' := 67) (r' := 0) d_O_breaker_255 fl_O_87 rfl rfl rfl (Or.inr ⟨rfl, rfl⟩) ?_
              refine fr_iload_n d_O_breaker_258 rfl ?_
              refine fr_iald (r) d_O_breaker_259 rfl rfl (Or.inr ⟨rfl, rfl⟩) rfl (fm_lt8 hw hr) (by decide) ?_
              refine fr_icmp_lt 276 d_O_breaker_260 rfl (fun h20 => ?_) (fun h20 => ?_)
              · skip
                exact fr_vret d_O_breaker_276 rfl (Nat.zero_le _) (Nat.zero_le _) ⟨(by unfold f_O_breaker; rw [if_neg h1, if_pos h15, if_pos h16, if_neg h17, if_neg h18, if_pos h19, if_pos h20]), rfl⟩
              · skip
                refine fr_aload_n d_O_breaker_263 rfl ?_
                refine fr_getr (k' := 66) (r' := 0) d_O_breaker_264 fl_O_84 rfl rfl rfl (Or.inr ⟨rfl, rfl⟩) ?_
                refine fr_iload_n d_O_breaker_267 rfl ?_
                refine fr_iconst d_O_breaker_268 fr_i0 ?_
                refine fr_iast (r) d_O_breaker_269 rfl rfl (Or.inr ⟨rfl, rfl⟩) rfl (fm_lt8 hw hr) (by decide) ?_
                refine fr_aload_n d_O_breaker_270 rfl ?_
                refine fr_iconst d_O_breaker_271 fr_i4 ?_
                refine fr_iload_n d_O_breaker_272 rfl ?_
                refine fr_callVv fr_q6 d_O_breaker_273 (ct_O_note X n _ _ _ _ (fm_ui (k := 66) rfl hw)) mv_O_131 rfl rfl rfl (Or.inr ⟨rfl, rfl⟩) rfl rfl ⟨Nat.le_of_ble_eq_true rfl, Nat.le_of_ble_eq_true rfl⟩ ⟨rfl, rfl⟩ ⟨Nat.zero_le _, Nat.zero_le _⟩ (Nat.le_of_ble_eq_true rfl) (fun I' J' hp21 => ?_)
                obtain ⟨rfl, rfl⟩ := hp21
                exact fr_vret d_O_breaker_276 rfl (Nat.zero_le _) (Nat.zero_le _) ⟨(by unfold f_O_breaker; rw [if_neg h1, if_pos h15, if_pos h16, if_neg h17, if_neg h18, if_pos h19, if_neg h20]), rfl⟩
      · skip
        refine fr_aload_n d_O_breaker_164 rfl ?_
        refine fr_geti d_O_breaker_165 fl_O_115 rfl rfl (Or.inr ⟨rfl, rfl⟩) ?_
        refine fr_aload_n d_O_breaker_168 rfl ?_
        refine fr_getr (k' := 64) (r' := 0) d_O_breaker_169 fl_O_78 rfl rfl rfl (Or.inr ⟨rfl, rfl⟩) ?_
        refine fr_iload_n d_O_breaker_172 rfl ?_
        refine fr_iald (r) d_O_breaker_173 rfl rfl (Or.inr ⟨rfl, rfl⟩) rfl (fm_lt8 hw hr) (by decide) ?_
        refine fr_icmp_lt 223 d_O_breaker_174 rfl (fun h22 => ?_) (fun h22 => ?_)
        · skip
          refine fr_aload_n d_O_breaker_223 rfl ?_
          refine fr_getr (k' := 66) (r' := 0) d_O_breaker_224 fl_O_84 rfl rfl rfl (Or.inr ⟨rfl, rfl⟩) ?_
          refine fr_iload_n d_O_breaker_227 rfl ?_
          refine fr_iald (r) d_O_breaker_228 rfl rfl (Or.inr ⟨rfl, rfl⟩) rfl (fm_lt8 hw hr) (by decide) ?_
          refine fr_if_le 276 d_O_breaker_229 rfl (fun h23 => ?_) (fun h23 => ?_)
          · skip
            exact fr_vret d_O_breaker_276 rfl (Nat.zero_le _) (Nat.zero_le _) ⟨(by unfold f_O_breaker; rw [if_neg h1, if_pos h15, if_neg h16, if_pos h22, if_pos h23]), rfl⟩
          · skip
            refine fr_aload_n d_O_breaker_232 rfl ?_
            refine fr_getr (k' := 43) (r' := 0) d_O_breaker_233 fl_O_13 rfl rfl rfl (Or.inr ⟨rfl, rfl⟩) ?_
            refine fr_iload_n d_O_breaker_236 rfl ?_
            refine fr_zald (r) d_O_breaker_237 rfl rfl (Or.inr ⟨rfl, rfl⟩) rfl (fm_lt8 hw hr) (by decide) ?_
            refine fr_if_eq 276 d_O_breaker_238 rfl (fun h24 => ?_) (fun h24 => ?_)
            · skip
              exact fr_vret d_O_breaker_276 rfl (Nat.zero_le _) (Nat.zero_le _) ⟨(by unfold f_O_breaker; rw [if_neg h1, if_pos h15, if_neg h16, if_pos h22, if_neg h23, if_pos h24]), rfl⟩
            · skip
              refine fr_aload_n d_O_breaker_241 rfl ?_
              refine fr_getr (k' := 60) (r' := 0) d_O_breaker_242 fl_O_66 rfl rfl rfl (Or.inr ⟨rfl, rfl⟩) ?_
              refine fr_iload_n d_O_breaker_245 rfl ?_
              refine fr_iald (r) d_O_breaker_246 rfl rfl (Or.inr ⟨rfl, rfl⟩) rfl (fm_lt8 hw hr) (by decide) ?_
              refine fr_if_ne 276 d_O_breaker_247 rfl (fun h25 => ?_) (fun h25 => ?_)
              · skip
                exact fr_vret d_O_breaker_276 rfl (Nat.zero_le _) (Nat.zero_le _) ⟨(by unfold f_O_breaker; rw [if_neg h1, if_pos h15, if_neg h16, if_pos h22, if_neg h23, if_neg h24, if_neg h25]), rfl⟩
              · skip
                refine fr_aload_n d_O_breaker_250 rfl ?_
                refine fr_geti d_O_breaker_251 fl_O_115 rfl rfl (Or.inr ⟨rfl, rfl⟩) ?_
                refine fr_aload_n d_O_breaker_254 rfl ?_
                refine fr_getr (k' := 67) (r' := 0) d_O_breaker_255 fl_O_87 rfl rfl rfl (Or.inr ⟨rfl, rfl⟩) ?_
                refine fr_iload_n d_O_breaker_258 rfl ?_
                refine fr_iald (r) d_O_breaker_259 rfl rfl (Or.inr ⟨rfl, rfl⟩) rfl (fm_lt8 hw hr) (by decide) ?_
                refine fr_icmp_lt 276 d_O_breaker_260 rfl (fun h26 => ?_) (fun h26 => ?_)
                · skip
                  exact fr_vret d_O_breaker_276 rfl (Nat.zero_le _) (Nat.zero_le _) ⟨(by unfold f_O_breaker; rw [if_neg h1, if_pos h15, if_neg h16, if_pos h22, if_neg h23, if_neg h24, if_pos h25, if_pos h26]), rfl⟩
                · skip
                  refine fr_aload_n d_O_breaker_263 rfl ?_
                  refine fr_getr (k' := 66) (r' := 0) d_O_breaker_264 fl_O_84 rfl rfl rfl (Or.inr ⟨rfl, rfl⟩) ?_
                  refine fr_iload_n d_O_breaker_267 rfl ?_
                  refine fr_iconst d_O_breaker_268 fr_i0 ?_
                  refine fr_iast (r) d_O_breaker_269 rfl rfl (Or.inr ⟨rfl, rfl⟩) rfl (fm_lt8 hw hr) (by decide) ?_
                  refine fr_aload_n d_O_breaker_270 rfl ?_
                  refine fr_iconst d_O_breaker_271 fr_i4 ?_
                  refine fr_iload_n d_O_breaker_272 rfl ?_
                  refine fr_callVv fr_q6 d_O_breaker_273 (ct_O_note X n _ _ _ _ (fm_ui (k := 66) rfl hw)) mv_O_131 rfl rfl rfl (Or.inr ⟨rfl, rfl⟩) rfl rfl ⟨Nat.le_of_ble_eq_true rfl, Nat.le_of_ble_eq_true rfl⟩ ⟨rfl, rfl⟩ ⟨Nat.zero_le _, Nat.zero_le _⟩ (Nat.le_of_ble_eq_true rfl) (fun I' J' hp27 => ?_)
                  obtain ⟨rfl, rfl⟩ := hp27
                  exact fr_vret d_O_breaker_276 rfl (Nat.zero_le _) (Nat.zero_le _) ⟨(by unfold f_O_breaker; rw [if_neg h1, if_pos h15, if_neg h16, if_pos h22, if_neg h23, if_neg h24, if_pos h25, if_neg h26]), rfl⟩
        · skip
          refine fr_aload_n d_O_breaker_177 rfl ?_
          refine fr_getr (k' := 43) (r' := 0) d_O_breaker_178 fl_O_13 rfl rfl rfl (Or.inr ⟨rfl, rfl⟩) ?_
          refine fr_iload_n d_O_breaker_181 rfl ?_
          refine fr_iconst d_O_breaker_182 fr_i1 ?_
          refine fr_zast (r) d_O_breaker_183 rfl rfl (Or.inr rfl) (Or.inr ⟨rfl, rfl⟩) rfl (fm_lt8 hw hr) (by decide) ?_
          refine fr_aload_n d_O_breaker_184 rfl ?_
          refine fr_getr (k' := 63) (r' := 0) d_O_breaker_185 fl_O_75 rfl rfl rfl (Or.inr ⟨rfl, rfl⟩) ?_
          refine fr_iload_n d_O_breaker_188 rfl ?_
          refine fr_iconst d_O_breaker_189 fr_i0 ?_
          refine fr_zast (r) d_O_breaker_190 rfl rfl (Or.inl rfl) (Or.inr ⟨rfl, rfl⟩) rfl (fm_lt8 hw hr) (by decide) ?_
          refine fr_aload_n d_O_breaker_191 rfl ?_
          refine fr_getr (k' := 66) (r' := 0) d_O_breaker_192 fl_O_84 rfl rfl rfl (Or.inr ⟨rfl, rfl⟩) ?_
          refine fr_iload_n d_O_breaker_195 rfl ?_
          refine fr_dup2 d_O_breaker_196 rfl rfl ?_
          refine fr_iald (r) d_O_breaker_197 rfl rfl (Or.inr ⟨rfl, rfl⟩) rfl (fm_lt8 hw hr) (by decide) ?_
          refine fr_iconst d_O_breaker_198 fr_i1 ?_
          refine fr_iadd d_O_breaker_199 ?_
          refine fr_iast (r) d_O_breaker_200 rfl rfl (Or.inr ⟨rfl, rfl⟩) rfl (fm_lt8 hw hr) (by decide) ?_
          refine fr_aload_n d_O_breaker_201 rfl ?_
          refine fr_getr (k' := 67) (r' := 0) d_O_breaker_202 fl_O_87 rfl rfl rfl (Or.inr ⟨rfl, rfl⟩) ?_
          refine fr_iload_n d_O_breaker_205 rfl ?_
          refine fr_aload_n d_O_breaker_206 rfl ?_
          refine fr_geti d_O_breaker_207 fl_O_115 rfl rfl (Or.inr ⟨rfl, rfl⟩) ?_
          refine fr_bipush d_O_breaker_210 fr_b30 ?_
          refine fr_iadd d_O_breaker_212 ?_
          refine fr_iast (r) d_O_breaker_213 rfl rfl (Or.inr ⟨rfl, rfl⟩) rfl (fm_lt8 hw hr) (by decide) ?_
          refine fr_aload_n d_O_breaker_214 rfl ?_
          refine fr_iconst d_O_breaker_215 fr_i3 ?_
          refine fr_iload_n d_O_breaker_216 rfl ?_
          refine fr_callVv fr_q6 d_O_breaker_217 (ct_O_note X n _ _ _ _ (fm_ui (k := 67) rfl (fm_ui (k := 66) rfl (fm_ui (k := 63) rfl (fm_ui (k := 43) rfl hw))))) mv_O_131 rfl rfl rfl (Or.inr ⟨rfl, rfl⟩) rfl rfl ⟨Nat.le_of_ble_eq_true rfl, Nat.le_of_ble_eq_true rfl⟩ ⟨rfl, rfl⟩ ⟨Nat.zero_le _, Nat.zero_le _⟩ (Nat.le_of_ble_eq_true rfl) (fun I' J' hp28 => ?_)
          obtain ⟨rfl, rfl⟩ := hp28
          refine fr_goto 276 d_O_breaker_220 rfl ?_
          exact fr_vret d_O_breaker_276 rfl (Nat.zero_le _) (Nat.zero_le _) ⟨(by unfold f_O_breaker; rw [if_neg h1, if_pos h15, if_neg h16, if_neg h22]), rfl⟩
    · skip
      refine fr_aload_n d_O_breaker_24 rfl ?_
      refine fr_getr (k' := 44) (r' := 0) d_O_breaker_25 fl_O_17 rfl rfl rfl (Or.inr ⟨rfl, rfl⟩) ?_
      refine fr_iload_n d_O_breaker_28 rfl ?_
      refine fr_zald (r) d_O_breaker_29 rfl rfl (Or.inr ⟨rfl, rfl⟩) rfl (fm_lt8 hw hr) (by decide) ?_
      refine fr_if_ne 155 d_O_breaker_30 rfl (fun h29 => ?_) (fun h29 => ?_)
      · skip
        refine fr_aload_n d_O_breaker_155 rfl ?_
        refine fr_getr (k' := 63) (r' := 0) d_O_breaker_156 fl_O_75 rfl rfl rfl (Or.inr ⟨rfl, rfl⟩) ?_
        refine fr_iload_n d_O_breaker_159 rfl ?_
        refine fr_zald (r) d_O_breaker_160 rfl rfl (Or.inr ⟨rfl, rfl⟩) rfl (fm_lt8 hw hr) (by decide) ?_
        refine fr_if_eq 223 d_O_breaker_161 rfl (fun h30 => ?_) (fun h30 => ?_)
        · skip
          refine fr_aload_n d_O_breaker_223 rfl ?_
          refine fr_getr (k' := 66) (r' := 0) d_O_breaker_224 fl_O_84 rfl rfl rfl (Or.inr ⟨rfl, rfl⟩) ?_
          refine fr_iload_n d_O_breaker_227 rfl ?_
          refine fr_iald (r) d_O_breaker_228 rfl rfl (Or.inr ⟨rfl, rfl⟩) rfl (fm_lt8 hw hr) (by decide) ?_
          refine fr_if_le 276 d_O_breaker_229 rfl (fun h31 => ?_) (fun h31 => ?_)
          · skip
            exact fr_vret d_O_breaker_276 rfl (Nat.zero_le _) (Nat.zero_le _) ⟨(by unfold f_O_breaker; rw [if_neg h1, if_neg h15, if_neg h29, if_pos h30, if_pos h31]), rfl⟩
          · skip
            refine fr_aload_n d_O_breaker_232 rfl ?_
            refine fr_getr (k' := 43) (r' := 0) d_O_breaker_233 fl_O_13 rfl rfl rfl (Or.inr ⟨rfl, rfl⟩) ?_
            refine fr_iload_n d_O_breaker_236 rfl ?_
            refine fr_zald (r) d_O_breaker_237 rfl rfl (Or.inr ⟨rfl, rfl⟩) rfl (fm_lt8 hw hr) (by decide) ?_
            refine fr_if_eq 276 d_O_breaker_238 rfl (fun h32 => ?_) (fun h32 => ?_)
            · skip
              exact fr_vret d_O_breaker_276 rfl (Nat.zero_le _) (Nat.zero_le _) ⟨(by unfold f_O_breaker; rw [if_neg h1, if_neg h15, if_neg h29, if_pos h30, if_neg h31, if_pos h32]), rfl⟩
            · skip
              refine fr_aload_n d_O_breaker_241 rfl ?_
              refine fr_getr (k' := 60) (r' := 0) d_O_breaker_242 fl_O_66 rfl rfl rfl (Or.inr ⟨rfl, rfl⟩) ?_
              refine fr_iload_n d_O_breaker_245 rfl ?_
              refine fr_iald (r) d_O_breaker_246 rfl rfl (Or.inr ⟨rfl, rfl⟩) rfl (fm_lt8 hw hr) (by decide) ?_
              refine fr_if_ne 276 d_O_breaker_247 rfl (fun h33 => ?_) (fun h33 => ?_)
              · skip
                exact fr_vret d_O_breaker_276 rfl (Nat.zero_le _) (Nat.zero_le _) ⟨(by unfold f_O_breaker; rw [if_neg h1, if_neg h15, if_neg h29, if_pos h30, if_neg h31, if_neg h32, if_neg h33]), rfl⟩
              · skip
                refine fr_aload_n d_O_breaker_250 rfl ?_
                refine fr_geti d_O_breaker_251 fl_O_115 rfl rfl (Or.inr ⟨rfl, rfl⟩) ?_
                refine fr_aload_n d_O_breaker_254 rfl ?_
                refine fr_getr (k' := 67) (r' := 0) d_O_breaker_255 fl_O_87 rfl rfl rfl (Or.inr ⟨rfl, rfl⟩) ?_
                refine fr_iload_n d_O_breaker_258 rfl ?_
                refine fr_iald (r) d_O_breaker_259 rfl rfl (Or.inr ⟨rfl, rfl⟩) rfl (fm_lt8 hw hr) (by decide) ?_
                refine fr_icmp_lt 276 d_O_breaker_260 rfl (fun h34 => ?_) (fun h34 => ?_)
                · skip
                  exact fr_vret d_O_breaker_276 rfl (Nat.zero_le _) (Nat.zero_le _) ⟨(by unfold f_O_breaker; rw [if_neg h1, if_neg h15, if_neg h29, if_pos h30, if_neg h31, if_neg h32, if_pos h33, if_pos h34]), rfl⟩
                · skip
                  refine fr_aload_n d_O_breaker_263 rfl ?_
                  refine fr_getr (k' := 66) (r' := 0) d_O_breaker_264 fl_O_84 rfl rfl rfl (Or.inr ⟨rfl, rfl⟩) ?_
                  refine fr_iload_n d_O_breaker_267 rfl ?_
                  refine fr_iconst d_O_breaker_268 fr_i0 ?_
                  refine fr_iast (r) d_O_breaker_269 rfl rfl (Or.inr ⟨rfl, rfl⟩) rfl (fm_lt8 hw hr) (by decide) ?_
                  refine fr_aload_n d_O_breaker_270 rfl ?_
                  refine fr_iconst d_O_breaker_271 fr_i4 ?_
                  refine fr_iload_n d_O_breaker_272 rfl ?_
                  refine fr_callVv fr_q6 d_O_breaker_273 (ct_O_note X n _ _ _ _ (fm_ui (k := 66) rfl hw)) mv_O_131 rfl rfl rfl (Or.inr ⟨rfl, rfl⟩) rfl rfl ⟨Nat.le_of_ble_eq_true rfl, Nat.le_of_ble_eq_true rfl⟩ ⟨rfl, rfl⟩ ⟨Nat.zero_le _, Nat.zero_le _⟩ (Nat.le_of_ble_eq_true rfl) (fun I' J' hp35 => ?_)
                  obtain ⟨rfl, rfl⟩ := hp35
                  exact fr_vret d_O_breaker_276 rfl (Nat.zero_le _) (Nat.zero_le _) ⟨(by unfold f_O_breaker; rw [if_neg h1, if_neg h15, if_neg h29, if_pos h30, if_neg h31, if_neg h32, if_pos h33, if_neg h34]), rfl⟩
        · skip
          refine fr_aload_n d_O_breaker_164 rfl ?_
          refine fr_geti d_O_breaker_165 fl_O_115 rfl rfl (Or.inr ⟨rfl, rfl⟩) ?_
          refine fr_aload_n d_O_breaker_168 rfl ?_
          refine fr_getr (k' := 64) (r' := 0) d_O_breaker_169 fl_O_78 rfl rfl rfl (Or.inr ⟨rfl, rfl⟩) ?_
          refine fr_iload_n d_O_breaker_172 rfl ?_
          refine fr_iald (r) d_O_breaker_173 rfl rfl (Or.inr ⟨rfl, rfl⟩) rfl (fm_lt8 hw hr) (by decide) ?_
          refine fr_icmp_lt 223 d_O_breaker_174 rfl (fun h36 => ?_) (fun h36 => ?_)
          · skip
            refine fr_aload_n d_O_breaker_223 rfl ?_
            refine fr_getr (k' := 66) (r' := 0) d_O_breaker_224 fl_O_84 rfl rfl rfl (Or.inr ⟨rfl, rfl⟩) ?_
            refine fr_iload_n d_O_breaker_227 rfl ?_
            refine fr_iald (r) d_O_breaker_228 rfl rfl (Or.inr ⟨rfl, rfl⟩) rfl (fm_lt8 hw hr) (by decide) ?_
            refine fr_if_le 276 d_O_breaker_229 rfl (fun h37 => ?_) (fun h37 => ?_)
            · skip
              exact fr_vret d_O_breaker_276 rfl (Nat.zero_le _) (Nat.zero_le _) ⟨(by unfold f_O_breaker; rw [if_neg h1, if_neg h15, if_neg h29, if_neg h30, if_pos h36, if_pos h37]), rfl⟩
            · skip
              refine fr_aload_n d_O_breaker_232 rfl ?_
              refine fr_getr (k' := 43) (r' := 0) d_O_breaker_233 fl_O_13 rfl rfl rfl (Or.inr ⟨rfl, rfl⟩) ?_
              refine fr_iload_n d_O_breaker_236 rfl ?_
              refine fr_zald (r) d_O_breaker_237 rfl rfl (Or.inr ⟨rfl, rfl⟩) rfl (fm_lt8 hw hr) (by decide) ?_
              refine fr_if_eq 276 d_O_breaker_238 rfl (fun h38 => ?_) (fun h38 => ?_)
              · skip
                exact fr_vret d_O_breaker_276 rfl (Nat.zero_le _) (Nat.zero_le _) ⟨(by unfold f_O_breaker; rw [if_neg h1, if_neg h15, if_neg h29, if_neg h30, if_pos h36, if_neg h37, if_pos h38]), rfl⟩
              · skip
                refine fr_aload_n d_O_breaker_241 rfl ?_
                refine fr_getr (k' := 60) (r' := 0) d_O_breaker_242 fl_O_66 rfl rfl rfl (Or.inr ⟨rfl, rfl⟩) ?_
                refine fr_iload_n d_O_breaker_245 rfl ?_
                refine fr_iald (r) d_O_breaker_246 rfl rfl (Or.inr ⟨rfl, rfl⟩) rfl (fm_lt8 hw hr) (by decide) ?_
                refine fr_if_ne 276 d_O_breaker_247 rfl (fun h39 => ?_) (fun h39 => ?_)
                · skip
                  exact fr_vret d_O_breaker_276 rfl (Nat.zero_le _) (Nat.zero_le _) ⟨(by unfold f_O_breaker; rw [if_neg h1, if_neg h15, if_neg h29, if_neg h30, if_pos h36, if_neg h37, if_neg h38, if_neg h39]), rfl⟩
                · skip
                  refine fr_aload_n d_O_breaker_250 rfl ?_
                  refine fr_geti d_O_breaker_251 fl_O_115 rfl rfl (Or.inr ⟨rfl, rfl⟩) ?_
                  refine fr_aload_n d_O_breaker_254 rfl ?_
                  refine fr_getr (k' := 67) (r' := 0) d_O_breaker_255 fl_O_87 rfl rfl rfl (Or.inr ⟨rfl, rfl⟩) ?_
                  refine fr_iload_n d_O_breaker_258 rfl ?_
                  refine fr_iald (r) d_O_breaker_259 rfl rfl (Or.inr ⟨rfl, rfl⟩) rfl (fm_lt8 hw hr) (by decide) ?_
                  refine fr_icmp_lt 276 d_O_breaker_260 rfl (fun h40 => ?_) (fun h40 => ?_)
                  · skip
                    exact fr_vret d_O_breaker_276 rfl (Nat.zero_le _) (Nat.zero_le _) ⟨(by unfold f_O_breaker; rw [if_neg h1, if_neg h15, if_neg h29, if_neg h30, if_pos h36, if_neg h37, if_neg h38, if_pos h39, if_pos h40]), rfl⟩
                  · skip
                    refine fr_aload_n d_O_breaker_263 rfl ?_
                    refine fr_getr (k' := 66) (r' := 0) d_O_breaker_264 fl_O_84 rfl rfl rfl (Or.inr ⟨rfl, rfl⟩) ?_
                    refine fr_iload_n d_O_breaker_267 rfl ?_
                    refine fr_iconst d_O_breaker_268 fr_i0 ?_
                    refine fr_iast (r) d_O_breaker_269 rfl rfl (Or.inr ⟨rfl, rfl⟩) rfl (fm_lt8 hw hr) (by decide) ?_
                    refine fr_aload_n d_O_breaker_270 rfl ?_
                    refine fr_iconst d_O_breaker_271 fr_i4 ?_
                    refine fr_iload_n d_O_breaker_272 rfl ?_
                    refine fr_callVv fr_q6 d_O_breaker_273 (ct_O_note X n _ _ _ _ (fm_ui (k := 66) rfl hw)) mv_O_131 rfl rfl rfl (Or.inr ⟨rfl, rfl⟩) rfl rfl ⟨Nat.le_of_ble_eq_true rfl, Nat.le_of_ble_eq_true rfl⟩ ⟨rfl, rfl⟩ ⟨Nat.zero_le _, Nat.zero_le _⟩ (Nat.le_of_ble_eq_true rfl) (fun I' J' hp41 => ?_)
                    obtain ⟨rfl, rfl⟩ := hp41
                    exact fr_vret d_O_breaker_276 rfl (Nat.zero_le _) (Nat.zero_le _) ⟨(by unfold f_O_breaker; rw [if_neg h1, if_neg h15, if_neg h29, if_neg h30, if_pos h36, if_neg h37, if_neg h38, if_pos h39, if_neg h40]), rfl⟩
          · skip
            refine fr_aload_n d_O_breaker_177 rfl ?_
            refine fr_getr (k' := 43) (r' := 0) d_O_breaker_178 fl_O_13 rfl rfl rfl (Or.inr ⟨rfl, rfl⟩) ?_
            refine fr_iload_n d_O_breaker_181 rfl ?_
            refine fr_iconst d_O_breaker_182 fr_i1 ?_
            refine fr_zast (r) d_O_breaker_183 rfl rfl (Or.inr rfl) (Or.inr ⟨rfl, rfl⟩) rfl (fm_lt8 hw hr) (by decide) ?_
            refine fr_aload_n d_O_breaker_184 rfl ?_
            refine fr_getr (k' := 63) (r' := 0) d_O_breaker_185 fl_O_75 rfl rfl rfl (Or.inr ⟨rfl, rfl⟩) ?_
            refine fr_iload_n d_O_breaker_188 rfl ?_
            refine fr_iconst d_O_breaker_189 fr_i0 ?_
            refine fr_zast (r) d_O_breaker_190 rfl rfl (Or.inl rfl) (Or.inr ⟨rfl, rfl⟩) rfl (fm_lt8 hw hr) (by decide) ?_
            refine fr_aload_n d_O_breaker_191 rfl ?_
            refine fr_getr (k' := 66) (r' := 0) d_O_breaker_192 fl_O_84 rfl rfl rfl (Or.inr ⟨rfl, rfl⟩) ?_
            refine fr_iload_n d_O_breaker_195 rfl ?_
            refine fr_dup2 d_O_breaker_196 rfl rfl ?_
            refine fr_iald (r) d_O_breaker_197 rfl rfl (Or.inr ⟨rfl, rfl⟩) rfl (fm_lt8 hw hr) (by decide) ?_
            refine fr_iconst d_O_breaker_198 fr_i1 ?_
            refine fr_iadd d_O_breaker_199 ?_
            refine fr_iast (r) d_O_breaker_200 rfl rfl (Or.inr ⟨rfl, rfl⟩) rfl (fm_lt8 hw hr) (by decide) ?_
            refine fr_aload_n d_O_breaker_201 rfl ?_
            refine fr_getr (k' := 67) (r' := 0) d_O_breaker_202 fl_O_87 rfl rfl rfl (Or.inr ⟨rfl, rfl⟩) ?_
            refine fr_iload_n d_O_breaker_205 rfl ?_
            refine fr_aload_n d_O_breaker_206 rfl ?_
            refine fr_geti d_O_breaker_207 fl_O_115 rfl rfl (Or.inr ⟨rfl, rfl⟩) ?_
            refine fr_bipush d_O_breaker_210 fr_b30 ?_
            refine fr_iadd d_O_breaker_212 ?_
            refine fr_iast (r) d_O_breaker_213 rfl rfl (Or.inr ⟨rfl, rfl⟩) rfl (fm_lt8 hw hr) (by decide) ?_
            refine fr_aload_n d_O_breaker_214 rfl ?_
            refine fr_iconst d_O_breaker_215 fr_i3 ?_
            refine fr_iload_n d_O_breaker_216 rfl ?_
            refine fr_callVv fr_q6 d_O_breaker_217 (ct_O_note X n _ _ _ _ (fm_ui (k := 67) rfl (fm_ui (k := 66) rfl (fm_ui (k := 63) rfl (fm_ui (k := 43) rfl hw))))) mv_O_131 rfl rfl rfl (Or.inr ⟨rfl, rfl⟩) rfl rfl ⟨Nat.le_of_ble_eq_true rfl, Nat.le_of_ble_eq_true rfl⟩ ⟨rfl, rfl⟩ ⟨Nat.zero_le _, Nat.zero_le _⟩ (Nat.le_of_ble_eq_true rfl) (fun I' J' hp42 => ?_)
            obtain ⟨rfl, rfl⟩ := hp42
            refine fr_goto 276 d_O_breaker_220 rfl ?_
            exact fr_vret d_O_breaker_276 rfl (Nat.zero_le _) (Nat.zero_le _) ⟨(by unfold f_O_breaker; rw [if_neg h1, if_neg h15, if_neg h29, if_neg h30, if_neg h36]), rfl⟩
      · skip
        refine fr_aload_n d_O_breaker_33 rfl ?_
        refine fr_getr (k' := 60) (r' := 0) d_O_breaker_34 fl_O_66 rfl rfl rfl (Or.inr ⟨rfl, rfl⟩) ?_
        refine fr_iload_n d_O_breaker_37 rfl ?_
        refine fr_iald (r) d_O_breaker_38 rfl rfl (Or.inr ⟨rfl, rfl⟩) rfl (fm_lt8 hw hr) (by decide) ?_
        refine fr_iconst d_O_breaker_39 fr_i1 ?_
        refine fr_ticmp_ne (t := 47) (j := 48) d_O_breaker_40 rfl (fun k => fr_iconst d_O_breaker_43 fr_i1 (fr_goto 48 d_O_breaker_44 rfl k)) (fun k => fr_iconst d_O_breaker_47 fr_i0 k) ?_
        refine fr_istore_n (L' := [(2, .int _), (0, .ref _), (1, .int _)]) d_O_breaker_48 (by decide) rfl ?_
        refine fr_aload_n d_O_breaker_49 rfl ?_
        refine fr_getr (k' := 43) (r' := 0) d_O_breaker_50 fl_O_13 rfl rfl rfl (Or.inr ⟨rfl, rfl⟩) ?_
        refine fr_iload_n d_O_breaker_53 rfl ?_
        refine fr_iconst d_O_breaker_54 fr_i0 ?_
        refine fr_zast (r) d_O_breaker_55 rfl rfl (Or.inl rfl) (Or.inr ⟨rfl, rfl⟩) rfl (fm_lt8 hw hr) (by decide) ?_
        refine fr_aload_n d_O_breaker_56 rfl ?_
        refine fr_getr (k' := 60) (r' := 0) d_O_breaker_57 fl_O_66 rfl rfl rfl (Or.inr ⟨rfl, rfl⟩) ?_
        refine fr_iload_n d_O_breaker_60 rfl ?_
        refine fr_iconst d_O_breaker_61 fr_i0 ?_
        refine fr_iast (r) d_O_breaker_62 rfl rfl (Or.inr ⟨rfl, rfl⟩) rfl (fm_lt8 hw hr) (by decide) ?_
        refine fr_aload_n d_O_breaker_63 rfl ?_
        refine fr_iconst d_O_breaker_64 fr_i2 ?_
        refine fr_iload_n d_O_breaker_65 rfl ?_
        refine fr_callVv fr_q6 d_O_breaker_66 (ct_O_note X n _ _ _ _ (fm_ui (k := 60) rfl (fm_ui (k := 43) rfl hw))) mv_O_131 rfl rfl rfl (Or.inr ⟨rfl, rfl⟩) rfl rfl ⟨Nat.le_of_ble_eq_true rfl, Nat.le_of_ble_eq_true rfl⟩ ⟨rfl, rfl⟩ ⟨Nat.zero_le _, Nat.zero_le _⟩ (Nat.le_of_ble_eq_true rfl) (fun I' J' hp43 => ?_)
        obtain ⟨rfl, rfl⟩ := hp43
        refine fr_iload_n d_O_breaker_69 rfl ?_
        refine fr_if_eq 139 d_O_breaker_70 rfl (fun h44 => ?_) (fun h44 => ?_)
        · skip
          refine fr_aload_n d_O_breaker_139 rfl ?_
          refine fr_getr (k' := 65) (r' := 0) d_O_breaker_140 fl_O_81 rfl rfl rfl (Or.inr ⟨rfl, rfl⟩) ?_
          refine fr_iload_n d_O_breaker_143 rfl ?_
          refine fr_iconst d_O_breaker_144 fr_i1 ?_
          refine fr_zast (r) d_O_breaker_145 rfl rfl (Or.inr rfl) (Or.inr ⟨rfl, rfl⟩) rfl (fm_lt8 hw hr) (by decide) ?_
          refine fr_aload_n d_O_breaker_146 rfl ?_
          refine fr_iconst d_O_breaker_147 fr_i5 ?_
          refine fr_iload_n d_O_breaker_148 rfl ?_
          refine fr_callVv fr_q6 d_O_breaker_149 (ct_O_note X n _ _ _ _ (fm_ui (k := 65) rfl (fw_O_note (fm_ui (k := 60) rfl (fm_ui (k := 43) rfl hw))))) mv_O_131 rfl rfl rfl (Or.inr ⟨rfl, rfl⟩) rfl rfl ⟨Nat.le_of_ble_eq_true rfl, Nat.le_of_ble_eq_true rfl⟩ ⟨rfl, rfl⟩ ⟨Nat.zero_le _, Nat.zero_le _⟩ (Nat.le_of_ble_eq_true rfl) (fun I' J' hp45 => ?_)
          obtain ⟨rfl, rfl⟩ := hp45
          refine fr_goto 276 d_O_breaker_152 rfl ?_
          exact fr_vret d_O_breaker_276 rfl (Nat.zero_le _) (Nat.zero_le _) ⟨(by unfold f_O_breaker; rw [if_neg h1, if_neg h15, if_pos h29, if_pos h44]), rfl⟩
        · skip
          refine fr_aload_n d_O_breaker_73 rfl ?_
          refine fr_getr (k' := 66) (r' := 0) d_O_breaker_74 fl_O_84 rfl rfl rfl (Or.inr ⟨rfl, rfl⟩) ?_
          refine fr_iload_n d_O_breaker_77 rfl ?_
          refine fr_iald (r) d_O_breaker_78 rfl rfl (Or.inr ⟨rfl, rfl⟩) rfl (fm_lt8 hw hr) (by decide) ?_
          refine fr_aload_n d_O_breaker_79 rfl ?_
          refine fr_getr (k' := 51) (r' := 0) d_O_breaker_80 fl_O_38 rfl rfl rfl (Or.inr ⟨rfl, rfl⟩) ?_
          refine fr_iload_n d_O_breaker_83 rfl ?_
          refine fr_iald (r) d_O_breaker_84 rfl rfl (Or.inr ⟨rfl, rfl⟩) rfl (fm_lt8 hw hr) (by decide) ?_
          refine fr_icmp_ge 139 d_O_breaker_85 rfl (fun h46 => ?_) (fun h46 => ?_)
          · skip
            refine fr_aload_n d_O_breaker_139 rfl ?_
            refine fr_getr (k' := 65) (r' := 0) d_O_breaker_140 fl_O_81 rfl rfl rfl (Or.inr ⟨rfl, rfl⟩) ?_
            refine fr_iload_n d_O_breaker_143 rfl ?_
            refine fr_iconst d_O_breaker_144 fr_i1 ?_
            refine fr_zast (r) d_O_breaker_145 rfl rfl (Or.inr rfl) (Or.inr ⟨rfl, rfl⟩) rfl (fm_lt8 hw hr) (by decide) ?_
            refine fr_aload_n d_O_breaker_146 rfl ?_
            refine fr_iconst d_O_breaker_147 fr_i5 ?_
            refine fr_iload_n d_O_breaker_148 rfl ?_
            refine fr_callVv fr_q6 d_O_breaker_149 (ct_O_note X n _ _ _ _ (fm_ui (k := 65) rfl (fw_O_note (fm_ui (k := 60) rfl (fm_ui (k := 43) rfl hw))))) mv_O_131 rfl rfl rfl (Or.inr ⟨rfl, rfl⟩) rfl rfl ⟨Nat.le_of_ble_eq_true rfl, Nat.le_of_ble_eq_true rfl⟩ ⟨rfl, rfl⟩ ⟨Nat.zero_le _, Nat.zero_le _⟩ (Nat.le_of_ble_eq_true rfl) (fun I' J' hp47 => ?_)
            obtain ⟨rfl, rfl⟩ := hp47
            refine fr_goto 276 d_O_breaker_152 rfl ?_
            exact fr_vret d_O_breaker_276 rfl (Nat.zero_le _) (Nat.zero_le _) ⟨(by unfold f_O_breaker; rw [if_neg h1, if_neg h15, if_pos h29, if_neg h44, if_pos h46]), rfl⟩
          · skip
            refine fr_aload_n d_O_breaker_88 rfl ?_
            refine fr_getr (k' := 63) (r' := 0) d_O_breaker_89 fl_O_75 rfl rfl rfl (Or.inr ⟨rfl, rfl⟩) ?_
            refine fr_iload_n d_O_breaker_92 rfl ?_
            refine fr_iconst d_O_breaker_93 fr_i1 ?_
            refine fr_zast (r) d_O_breaker_94 rfl rfl (Or.inr rfl) (Or.inr ⟨rfl, rfl⟩) rfl (fm_lt8 hw hr) (by decide) ?_
            refine fr_aload_n d_O_breaker_95 rfl ?_
            refine fr_getr (k' := 64) (r' := 0) d_O_breaker_96 fl_O_78 rfl rfl rfl (Or.inr ⟨rfl, rfl⟩) ?_
            refine fr_iload_n d_O_breaker_99 rfl ?_
            refine fr_aload_n d_O_breaker_100 rfl ?_
            refine fr_geti d_O_breaker_101 fl_O_115 rfl rfl (Or.inr ⟨rfl, rfl⟩) ?_
            refine fr_aload_n d_O_breaker_104 rfl ?_
            refine fr_getr (k' := 66) (r' := 0) d_O_breaker_105 fl_O_84 rfl rfl rfl (Or.inr ⟨rfl, rfl⟩) ?_
            refine fr_iload_n d_O_breaker_108 rfl ?_
            refine fr_iald (r) d_O_breaker_109 rfl rfl (Or.inr ⟨rfl, rfl⟩) rfl (fm_lt8 hw hr) (by decide) ?_
            refine fr_if_ne 117 d_O_breaker_110 rfl (fun h48 => ?_) (fun h48 => ?_)
            · skip
              refine fr_aload_n d_O_breaker_117 rfl ?_
              refine fr_getr (k' := 66) (r' := 0) d_O_breaker_118 fl_O_84 rfl rfl rfl (Or.inr ⟨rfl, rfl⟩) ?_
              refine fr_iload_n d_O_breaker_121 rfl ?_
              refine fr_iald (r) d_O_breaker_122 rfl rfl (Or.inr ⟨rfl, rfl⟩) rfl (fm_lt8 hw hr) (by decide) ?_
              refine fr_iconst d_O_breaker_123 fr_i1 ?_
              refine fr_ticmp_ne (t := 132) (j := 134) d_O_breaker_124 rfl (fun k => fr_bipush d_O_breaker_127 fr_b20 (fr_goto 134 d_O_breaker_129 rfl k)) (fun k => fr_bipush d_O_breaker_132 fr_b50 k) ?_
              refine fr_iadd d_O_breaker_134 ?_
              refine fr_iast (r) d_O_breaker_135 rfl rfl (Or.inr ⟨rfl, rfl⟩) rfl (fm_lt8 hw hr) (by decide) ?_
              refine fr_goto 152 d_O_breaker_136 rfl ?_
              refine fr_goto 276 d_O_breaker_152 rfl ?_
              exact fr_vret d_O_breaker_276 rfl (Nat.zero_le _) (Nat.zero_le _) ⟨(by unfold f_O_breaker; rw [if_neg h1, if_neg h15, if_pos h29, if_neg h44, if_neg h46, if_neg h48]), rfl⟩
            · skip
              refine fr_iconst d_O_breaker_113 fr_i5 ?_
              refine fr_goto 134 d_O_breaker_114 rfl ?_
              refine fr_iadd d_O_breaker_134 ?_
              refine fr_iast (r) d_O_breaker_135 rfl rfl (Or.inr ⟨rfl, rfl⟩) rfl (fm_lt8 hw hr) (by decide) ?_
              refine fr_goto 152 d_O_breaker_136 rfl ?_
              refine fr_goto 276 d_O_breaker_152 rfl ?_
              exact fr_vret d_O_breaker_276 rfl (Nat.zero_le _) (Nat.zero_le _) ⟨(by unfold f_O_breaker; rw [if_neg h1, if_neg h15, if_pos h29, if_neg h44, if_neg h46, if_pos h48]), rfl⟩
theorem fw_O_breaker {n : Nat} {I : fr_I} {r : Nat} (hw : fr_mw n I) : fr_mw n (f_O_breaker I r) := by
  unfold f_O_breaker
  refine fw_ite (fun h => ?_) (fun h => ?_)
  · skip
    refine fw_ite (fun h => ?_) (fun h => ?_)
    · skip
      refine fw_ite (fun h => ?_) (fun h => ?_)
      · skip
        exact hw
      · skip
        refine fw_ite (fun h => ?_) (fun h => ?_)
        · skip
          exact hw
        · skip
          refine fw_ite (fun h => ?_) (fun h => ?_)
          · skip
            refine fw_ite (fun h => ?_) (fun h => ?_)
            · skip
              exact hw
            · skip
              exact (fw_O_note (fm_ui (k := 66) rfl hw))
          · skip
            exact hw
    · skip
      refine fw_ite (fun h => ?_) (fun h => ?_)
      · skip
        refine fw_ite (fun h => ?_) (fun h => ?_)
        · skip
          exact hw
        · skip
          refine fw_ite (fun h => ?_) (fun h => ?_)
          · skip
            exact hw
          · skip
            refine fw_ite (fun h => ?_) (fun h => ?_)
            · skip
              refine fw_ite (fun h => ?_) (fun h => ?_)
              · skip
                exact hw
              · skip
                exact (fw_O_note (fm_ui (k := 66) rfl hw))
            · skip
              exact hw
      · skip
        exact (fw_O_note (fm_ui (k := 67) rfl (fm_ui (k := 66) rfl (fm_ui (k := 63) rfl (fm_ui (k := 43) rfl hw)))))
  · skip
    refine fw_ite (fun h => ?_) (fun h => ?_)
    · skip
      refine fw_ite (fun h => ?_) (fun h => ?_)
      · skip
        refine fw_ite (fun h => ?_) (fun h => ?_)
        · skip
          exact hw
        · skip
          refine fw_ite (fun h => ?_) (fun h => ?_)
          · skip
            exact hw
          · skip
            refine fw_ite (fun h => ?_) (fun h => ?_)
            · skip
              refine fw_ite (fun h => ?_) (fun h => ?_)
              · skip
                exact hw
              · skip
                exact (fw_O_note (fm_ui (k := 66) rfl hw))
            · skip
              exact hw
      · skip
        refine fw_ite (fun h => ?_) (fun h => ?_)
        · skip
          refine fw_ite (fun h => ?_) (fun h => ?_)
          · skip
            exact hw
          · skip
            refine fw_ite (fun h => ?_) (fun h => ?_)
            · skip
              exact hw
            · skip
              refine fw_ite (fun h => ?_) (fun h => ?_)
              · skip
                refine fw_ite (fun h => ?_) (fun h => ?_)
                · skip
                  exact hw
                · skip
                  exact (fw_O_note (fm_ui (k := 66) rfl hw))
              · skip
                exact hw
        · skip
          exact (fw_O_note (fm_ui (k := 67) rfl (fm_ui (k := 66) rfl (fm_ui (k := 63) rfl (fm_ui (k := 43) rfl hw)))))
    · skip
      refine fw_ite (fun h => ?_) (fun h => ?_)
      · skip
        refine fw_ite (fun h => ?_) (fun h => ?_)
        · skip
          exact (fw_O_note (fm_ui (k := 65) rfl (fw_O_note (fm_ui (k := 60) rfl (fm_ui (k := 43) rfl hw)))))
        · skip
          refine fw_ite (fun h => ?_) (fun h => ?_)
          · skip
            exact (fw_O_note (fm_ui (k := 65) rfl (fw_O_note (fm_ui (k := 60) rfl (fm_ui (k := 43) rfl hw)))))
          · skip
            refine fw_ite (fun h => ?_) (fun h => ?_)
            · skip
              exact (fm_ui (k := 64) rfl (fm_ui (k := 63) rfl (fw_O_note (fm_ui (k := 60) rfl (fm_ui (k := 43) rfl hw)))))
            · skip
              exact (fm_ui (k := 64) rfl (fm_ui (k := 63) rfl (fw_O_note (fm_ui (k := 60) rfl (fm_ui (k := 43) rfl hw)))))
      · skip
        refine fw_ite (fun h => ?_) (fun h => ?_)
        · skip
          refine fw_ite (fun h => ?_) (fun h => ?_)
          · skip
            exact hw
          · skip
            refine fw_ite (fun h => ?_) (fun h => ?_)
            · skip
              exact hw
            · skip
              refine fw_ite (fun h => ?_) (fun h => ?_)
              · skip
                refine fw_ite (fun h => ?_) (fun h => ?_)
                · skip
                  exact hw
                · skip
                  exact (fw_O_note (fm_ui (k := 66) rfl hw))
              · skip
                exact hw
        · skip
          refine fw_ite (fun h => ?_) (fun h => ?_)
          · skip
            refine fw_ite (fun h => ?_) (fun h => ?_)
            · skip
              exact hw
            · skip
              refine fw_ite (fun h => ?_) (fun h => ?_)
              · skip
                exact hw
              · skip
                refine fw_ite (fun h => ?_) (fun h => ?_)
                · skip
                  refine fw_ite (fun h => ?_) (fun h => ?_)
                  · skip
                    exact hw
                  · skip
                    exact (fw_O_note (fm_ui (k := 66) rfl hw))
                · skip
                  exact hw
          · skip
            exact (fw_O_note (fm_ui (k := 67) rfl (fm_ui (k := 66) rfl (fm_ui (k := 63) rfl (fm_ui (k := 43) rfl hw)))))
def f_O_fail (I : fr_I) (r : Nat) : fr_I :=
  if (I 60 0 r) = 0 then
    I
  else
    if ((I 20 0 1) - (I 61 0 r)) < (I 52 0 r) then
      I
    else
      if (I 62 0 r) = 0 then
        if (I 56 0 r) = 0 then
          I
        else
          if ((f_O_note ((fr_ui I 62 0 r 1)) 6 (nI r)) 42 0 r) < 0 then
            (f_O_note ((fr_ui I 62 0 r 1)) 6 (nI r))
          else
            if ((f_O_note ((fr_ui I 62 0 r 1)) 6 (nI r)) 43 0 (((f_O_note ((fr_ui I 62 0 r 1)) 6 (nI r)) 42 0 r).toNatClampNeg)) = 0 then
              (f_O_note ((fr_ui I 62 0 r 1)) 6 (nI r))
            else
              if ((f_O_note ((fr_ui I 62 0 r 1)) 6 (nI r)) 60 0 (((f_O_note ((fr_ui I 62 0 r 1)) 6 (nI r)) 42 0 r).toNatClampNeg)) = 0 then
                (f_O_note ((f_O_give ((f_O_note ((fr_ui I 62 0 r 1)) 6 (nI r))) (((f_O_note ((fr_ui I 62 0 r 1)) 6 (nI r)) 42 0 r).toNatClampNeg) 2)) 7 ((f_O_note ((fr_ui I 62 0 r 1)) 6 (nI r)) 42 0 r))
              else
                (f_O_note ((fr_ui I 62 0 r 1)) 6 (nI r))
      else
        I
set_option maxRecDepth 10000 in
theorem ct_O_fail (X : fr_X) (n : Nat) (r : Nat) (hr : r < n) (I : fr_I) (J : fr_J)  (hw : fr_mw n I) : fr_Ct X y_O_fail c_O_fail 3 none (fr_rm 1) [.ref (fr_ad X 20 0), .int (nI r)] (fr_Z0 X n) (fr_Z0 X n) I J (fr_pv (fun I' J' => (f_O_fail I r) = I' ∧ J = J')) := by
  refine fr_ct (by decide) rfl rfl (Nat.le_of_ble_eq_true rfl) rfl (fun E => ?_)
  refine fr_aload_n d_O_fail_0 rfl ?_
  refine fr_getr (k' := 60) (r' := 0) d_O_fail_1 fl_O_66 rfl rfl rfl (Or.inr ⟨rfl, rfl⟩) ?_
  refine fr_iload_n d_O_fail_4 rfl ?_
  refine fr_iald (r) d_O_fail_5 rfl rfl (Or.inr ⟨rfl, rfl⟩) rfl (fm_lt8 hw hr) (by decide) ?_
  refine fr_if_eq 47 d_O_fail_6 rfl (fun h1 => ?_) (fun h1 => ?_)
  · skip
    exact fr_vret d_O_fail_47 rfl (Nat.zero_le _) (Nat.zero_le _) ⟨(by unfold f_O_fail; rw [if_pos h1]), rfl⟩
  · skip
    refine fr_aload_n d_O_fail_9 rfl ?_
    refine fr_geti d_O_fail_10 fl_O_115 rfl rfl (Or.inr ⟨rfl, rfl⟩) ?_
    refine fr_aload_n d_O_fail_13 rfl ?_
    refine fr_getr (k' := 61) (r' := 0) d_O_fail_14 fl_O_69 rfl rfl rfl (Or.inr ⟨rfl, rfl⟩) ?_
    refine fr_iload_n d_O_fail_17 rfl ?_
    refine fr_iald (r) d_O_fail_18 rfl rfl (Or.inr ⟨rfl, rfl⟩) rfl (fm_lt8 hw hr) (by decide) ?_
    refine fr_isub d_O_fail_19 ?_
    refine fr_aload_n d_O_fail_20 rfl ?_
    refine fr_getr (k' := 52) (r' := 0) d_O_fail_21 fl_O_41 rfl rfl rfl (Or.inr ⟨rfl, rfl⟩) ?_
    refine fr_iload_n d_O_fail_24 rfl ?_
    refine fr_iald (r) d_O_fail_25 rfl rfl (Or.inr ⟨rfl, rfl⟩) rfl (fm_lt8 hw hr) (by decide) ?_
    refine fr_icmp_lt 47 d_O_fail_26 rfl (fun h2 => ?_) (fun h2 => ?_)
    · skip
      exact fr_vret d_O_fail_47 rfl (Nat.zero_le _) (Nat.zero_le _) ⟨(by unfold f_O_fail; rw [if_neg h1, if_pos h2]), rfl⟩
    · skip
      refine fr_aload_n d_O_fail_29 rfl ?_
      refine fr_getr (k' := 62) (r' := 0) d_O_fail_30 fl_O_72 rfl rfl rfl (Or.inr ⟨rfl, rfl⟩) ?_
      refine fr_iload_n d_O_fail_33 rfl ?_
      refine fr_zald (r) d_O_fail_34 rfl rfl (Or.inr ⟨rfl, rfl⟩) rfl (fm_lt8 hw hr) (by decide) ?_
      refine fr_if_ne 47 d_O_fail_35 rfl (fun h3 => ?_) (fun h3 => ?_)
      · skip
        exact fr_vret d_O_fail_47 rfl (Nat.zero_le _) (Nat.zero_le _) ⟨(by unfold f_O_fail; rw [if_neg h1, if_neg h2, if_neg h3]), rfl⟩
      · skip
        refine fr_aload_n d_O_fail_38 rfl ?_
        refine fr_getr (k' := 56) (r' := 0) d_O_fail_39 fl_O_54 rfl rfl rfl (Or.inr ⟨rfl, rfl⟩) ?_
        refine fr_iload_n d_O_fail_42 rfl ?_
        refine fr_zald (r) d_O_fail_43 rfl rfl (Or.inr ⟨rfl, rfl⟩) rfl (fm_lt8 hw hr) (by decide) ?_
        refine fr_if_ne 48 d_O_fail_44 rfl (fun h4 => ?_) (fun h4 => ?_)
        · skip
          refine fr_aload_n d_O_fail_48 rfl ?_
          refine fr_getr (k' := 62) (r' := 0) d_O_fail_49 fl_O_72 rfl rfl rfl (Or.inr ⟨rfl, rfl⟩) ?_
          refine fr_iload_n d_O_fail_52 rfl ?_
          refine fr_iconst d_O_fail_53 fr_i1 ?_
          refine fr_zast (r) d_O_fail_54 rfl rfl (Or.inr rfl) (Or.inr ⟨rfl, rfl⟩) rfl (fm_lt8 hw hr) (by decide) ?_
          refine fr_aload_n d_O_fail_55 rfl ?_
          refine fr_bipush d_O_fail_56 fr_b6 ?_
          refine fr_iload_n d_O_fail_58 rfl ?_
          refine fr_callVv fr_q6 d_O_fail_59 (ct_O_note X n _ _ _ _ (fm_ui (k := 62) rfl hw)) mv_O_131 rfl rfl rfl (Or.inr ⟨rfl, rfl⟩) rfl rfl ⟨Nat.le_of_ble_eq_true rfl, Nat.le_of_ble_eq_true rfl⟩ ⟨rfl, rfl⟩ ⟨Nat.zero_le _, Nat.zero_le _⟩ (Nat.le_of_ble_eq_true rfl) (fun I' J' hp5 => ?_)
          obtain ⟨rfl, rfl⟩ := hp5
          refine fr_aload_n d_O_fail_62 rfl ?_
          refine fr_getr (k' := 42) (r' := 0) d_O_fail_63 fl_O_7 rfl rfl rfl (Or.inr ⟨rfl, rfl⟩) ?_
          refine fr_iload_n d_O_fail_66 rfl ?_
          refine fr_iald (r) d_O_fail_67 rfl rfl (Or.inr ⟨rfl, rfl⟩) rfl (fm_lt8 hw hr) (by decide) ?_
          refine fr_istore_n (L' := [(2, .int _), (0, .ref _), (1, .int _)]) d_O_fail_68 (by decide) rfl ?_
          refine fr_iload_n d_O_fail_69 rfl ?_
          refine fr_if_lt 104 d_O_fail_70 rfl (fun h6 => ?_) (fun h6 => ?_)
          · skip
            exact fr_vret d_O_fail_104 rfl (Nat.zero_le _) (Nat.zero_le _) ⟨(by unfold f_O_fail; rw [if_neg h1, if_neg h2, if_pos h3, if_neg h4, if_pos h6]), rfl⟩
          · skip
            refine fr_aload_n d_O_fail_73 rfl ?_
            refine fr_getr (k' := 43) (r' := 0) d_O_fail_74 fl_O_13 rfl rfl rfl (Or.inr ⟨rfl, rfl⟩) ?_
            refine fr_iload_n d_O_fail_77 rfl ?_
            refine fr_zald (((f_O_note ((fr_ui I 62 0 r 1)) 6 (nI r)) 42 0 r).toNatClampNeg) d_O_fail_78 rfl rfl (Or.inr ⟨rfl, rfl⟩) (fm_abv_eq (fw_O_note (fm_ui (k := 62) rfl hw)) hr h6) (fm_lt8 hw (Nat.lt_trans (fm_abv_lt (fw_O_note (fm_ui (k := 62) rfl hw)) hr h6) hr)) (by decide) ?_
            refine fr_if_eq 104 d_O_fail_79 rfl (fun h7 => ?_) (fun h7 => ?_)
            · skip
              exact fr_vret d_O_fail_104 rfl (Nat.zero_le _) (Nat.zero_le _) ⟨(by unfold f_O_fail; rw [if_neg h1, if_neg h2, if_pos h3, if_neg h4, if_neg h6, if_pos h7]), rfl⟩
            · skip
              refine fr_aload_n d_O_fail_82 rfl ?_
              refine fr_getr (k' := 60) (r' := 0) d_O_fail_83 fl_O_66 rfl rfl rfl (Or.inr ⟨rfl, rfl⟩) ?_
              refine fr_iload_n d_O_fail_86 rfl ?_
              refine fr_iald (((f_O_note ((fr_ui I 62 0 r 1)) 6 (nI r)) 42 0 r).toNatClampNeg) d_O_fail_87 rfl rfl (Or.inr ⟨rfl, rfl⟩) (fm_abv_eq (fw_O_note (fm_ui (k := 62) rfl hw)) hr h6) (fm_lt8 hw (Nat.lt_trans (fm_abv_lt (fw_O_note (fm_ui (k := 62) rfl hw)) hr h6) hr)) (by decide) ?_
              refine fr_if_ne 104 d_O_fail_88 rfl (fun h8 => ?_) (fun h8 => ?_)
              · skip
                exact fr_vret d_O_fail_104 rfl (Nat.zero_le _) (Nat.zero_le _) ⟨(by unfold f_O_fail; rw [if_neg h1, if_neg h2, if_pos h3, if_neg h4, if_neg h6, if_neg h7, if_neg h8]), rfl⟩
              · skip
                refine fr_aload_n d_O_fail_91 rfl ?_
                refine fr_iload_n d_O_fail_92 rfl ?_
                refine fr_teq (fm_abv_eq (fw_O_note (fm_ui (k := 62) rfl hw)) hr h6) ?_
                refine fr_iconst d_O_fail_93 fr_i2 ?_
                refine fr_callVv fr_q6 d_O_fail_94 (ct_O_give X n (((f_O_note ((fr_ui I 62 0 r 1)) 6 (nI r)) 42 0 r).toNatClampNeg) (Nat.lt_trans (fm_abv_lt (fw_O_note (fm_ui (k := 62) rfl hw)) hr h6) hr) _ _ _ (fw_O_note (fm_ui (k := 62) rfl hw))) mv_O_149 rfl rfl rfl (Or.inr ⟨rfl, rfl⟩) rfl rfl ⟨Nat.le_of_ble_eq_true rfl, Nat.le_of_ble_eq_true rfl⟩ ⟨rfl, rfl⟩ ⟨Nat.zero_le _, Nat.zero_le _⟩ (Nat.le_of_ble_eq_true rfl) (fun I' J' hp9 => ?_)
                obtain ⟨rfl, rfl⟩ := hp9
                refine fr_aload_n d_O_fail_97 rfl ?_
                refine fr_bipush d_O_fail_98 fr_b7 ?_
                refine fr_iload_n d_O_fail_100 rfl ?_
                refine fr_callVv fr_q6 d_O_fail_101 (ct_O_note X n _ _ _ _ (fw_O_give (fw_O_note (fm_ui (k := 62) rfl hw)))) mv_O_131 rfl rfl rfl (Or.inr ⟨rfl, rfl⟩) rfl rfl ⟨Nat.le_of_ble_eq_true rfl, Nat.le_of_ble_eq_true rfl⟩ ⟨rfl, rfl⟩ ⟨Nat.zero_le _, Nat.zero_le _⟩ (Nat.le_of_ble_eq_true rfl) (fun I' J' hp10 => ?_)
                obtain ⟨rfl, rfl⟩ := hp10
                exact fr_vret d_O_fail_104 rfl (Nat.zero_le _) (Nat.zero_le _) ⟨(by unfold f_O_fail; rw [if_neg h1, if_neg h2, if_pos h3, if_neg h4, if_neg h6, if_neg h7, if_pos h8]), rfl⟩
        · skip
          exact fr_vret d_O_fail_47 rfl (Nat.zero_le _) (Nat.zero_le _) ⟨(by unfold f_O_fail; rw [if_neg h1, if_neg h2, if_pos h3, if_pos h4]), rfl⟩
theorem fw_O_fail {n : Nat} {I : fr_I} {r : Nat} (hw : fr_mw n I) : fr_mw n (f_O_fail I r) := by
  unfold f_O_fail
  refine fw_ite (fun h => ?_) (fun h => ?_)
  · skip
    exact hw
  · skip
    refine fw_ite (fun h => ?_) (fun h => ?_)
    · skip
      exact hw
    · skip
      refine fw_ite (fun h => ?_) (fun h => ?_)
      · skip
        refine fw_ite (fun h => ?_) (fun h => ?_)
        · skip
          exact hw
        · skip
          refine fw_ite (fun h => ?_) (fun h => ?_)
          · skip
            exact (fw_O_note (fm_ui (k := 62) rfl hw))
          · skip
            refine fw_ite (fun h => ?_) (fun h => ?_)
            · skip
              exact (fw_O_note (fm_ui (k := 62) rfl hw))
            · skip
              refine fw_ite (fun h => ?_) (fun h => ?_)
              · skip
                exact (fw_O_note (fw_O_give (fw_O_note (fm_ui (k := 62) rfl hw))))
              · skip
                exact (fw_O_note (fm_ui (k := 62) rfl hw))
      · skip
        exact hw
end

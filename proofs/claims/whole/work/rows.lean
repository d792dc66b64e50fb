section
-- ===== PART A: goes FIRST, ahead of the names: the tables' words, and 'selects' of the private methods out of them =====
/-- a private method of a class that the tables say can be made, by its rows of tables_1 -/
def lw_okq (q : MethodName × Nat) : Prop := (q.1.cls ≠ "java/lang/invoke/MethodHandle" ∧ q.1.cls ≠ "java/lang/invoke/VarHandle") ∧ Cond.instantiable q.1.cls q.2 ∈ tables_1 ∧ Cond.privateMethod q.1 ∈ tables_1 ∧ Cond.instanceMethod q.1 ∈ tables_1
theorem lw_p0 : lw_okq (⟨"FeederRelays", "isPlaceFor", "(I)Z"⟩, 6) := ⟨⟨by decide +kernel, by decide +kernel⟩, List.mem_of_getElem? (i := 11) (by decide +kernel), List.mem_of_getElem? (i := 68) (by decide +kernel), List.mem_of_getElem? (i := 69) (by decide +kernel)⟩
theorem lw_p1 : lw_okq (⟨"FeederRelays", "isRelay", "(I)Z"⟩, 6) := ⟨⟨by decide +kernel, by decide +kernel⟩, List.mem_of_getElem? (i := 11) (by decide +kernel), List.mem_of_getElem? (i := 72) (by decide +kernel), List.mem_of_getElem? (i := 73) (by decide +kernel)⟩
theorem lw_p2 : lw_okq (⟨"FeederRelays", "tick", "()V"⟩, 6) := ⟨⟨by decide +kernel, by decide +kernel⟩, List.mem_of_getElem? (i := 11) (by decide +kernel), List.mem_of_getElem? (i := 274) (by decide +kernel), List.mem_of_getElem? (i := 275) (by decide +kernel)⟩
theorem lw_p3 : lw_okq (⟨"FeederRelays$Wire", "learn", "(II)V"⟩, 9) := ⟨⟨by decide +kernel, by decide +kernel⟩, List.mem_of_getElem? (i := 161) (by decide +kernel), List.mem_of_getElem? (i := 285) (by decide +kernel), List.mem_of_getElem? (i := 286) (by decide +kernel)⟩
theorem lw_p4 : lw_okq (⟨"FeederRelays", "moveBreaker", "(I)V"⟩, 6) := ⟨⟨by decide +kernel, by decide +kernel⟩, List.mem_of_getElem? (i := 11) (by decide +kernel), List.mem_of_getElem? (i := 289) (by decide +kernel), List.mem_of_getElem? (i := 290) (by decide +kernel)⟩
theorem lw_p5 : lw_okq (⟨"FeederRelays", "measureAll", "()V"⟩, 6) := ⟨⟨by decide +kernel, by decide +kernel⟩, List.mem_of_getElem? (i := 11) (by decide +kernel), List.mem_of_getElem? (i := 324) (by decide +kernel), List.mem_of_getElem? (i := 325) (by decide +kernel)⟩
theorem lw_p6 : lw_okq (⟨"FeederRelays", "findFlows", "()V"⟩, 6) := ⟨⟨by decide +kernel, by decide +kernel⟩, List.mem_of_getElem? (i := 11) (by decide +kernel), List.mem_of_getElem? (i := 328) (by decide +kernel), List.mem_of_getElem? (i := 329) (by decide +kernel)⟩
theorem lw_p7 : lw_okq (⟨"FeederRelays$Meter", "rootOfMeanSquare", "()I"⟩, 8) := ⟨⟨by decide +kernel, by decide +kernel⟩, List.mem_of_getElem? (i := 81) (by decide +kernel), List.mem_of_getElem? (i := 336) (by decide +kernel), List.mem_of_getElem? (i := 337) (by decide +kernel)⟩
theorem lw_p8 : lw_okq (⟨"FeederRelays$Meter", "growth", "()J"⟩, 8) := ⟨⟨by decide +kernel, by decide +kernel⟩, List.mem_of_getElem? (i := 81) (by decide +kernel), List.mem_of_getElem? (i := 342) (by decide +kernel), List.mem_of_getElem? (i := 343) (by decide +kernel)⟩
theorem lw_p9 : lw_okq (⟨"FeederRelays$Wire", "send", "(II)V"⟩, 9) := ⟨⟨by decide +kernel, by decide +kernel⟩, List.mem_of_getElem? (i := 161) (by decide +kernel), List.mem_of_getElem? (i := 353) (by decide +kernel), List.mem_of_getElem? (i := 354) (by decide +kernel)⟩
theorem lw_p10 : lw_okq (⟨"FeederRelays", "tripIfDue", "(I)V"⟩, 6) := ⟨⟨by decide +kernel, by decide +kernel⟩, List.mem_of_getElem? (i := 11) (by decide +kernel), List.mem_of_getElem? (i := 357) (by decide +kernel), List.mem_of_getElem? (i := 358) (by decide +kernel)⟩
theorem lw_p11 : lw_okq (⟨"FeederRelays$Meter", "limit", "()J"⟩, 8) := ⟨⟨by decide +kernel, by decide +kernel⟩, List.mem_of_getElem? (i := 81) (by decide +kernel), List.mem_of_getElem? (i := 365) (by decide +kernel), List.mem_of_getElem? (i := 366) (by decide +kernel)⟩
theorem lw_p12 : lw_okq (⟨"FeederRelays", "isBlocked", "(I)Z"⟩, 6) := ⟨⟨by decide +kernel, by decide +kernel⟩, List.mem_of_getElem? (i := 11) (by decide +kernel), List.mem_of_getElem? (i := 373) (by decide +kernel), List.mem_of_getElem? (i := 374) (by decide +kernel)⟩
theorem lw_p13 : lw_okq (⟨"FeederRelays", "failIfDue", "(I)V"⟩, 6) := ⟨⟨by decide +kernel, by decide +kernel⟩, List.mem_of_getElem? (i := 11) (by decide +kernel), List.mem_of_getElem? (i := 385) (by decide +kernel), List.mem_of_getElem? (i := 386) (by decide +kernel)⟩
theorem lw_p14 : lw_okq (⟨"FeederRelaysModel", "none", "(I)Z"⟩, 37) := ⟨⟨by decide +kernel, by decide +kernel⟩, List.mem_of_getElem? (i := 471) (by decide +kernel), List.mem_of_getElem? (i := 594) (by decide +kernel), List.mem_of_getElem? (i := 595) (by decide +kernel)⟩
theorem lw_p15 : lw_okq (⟨"FeederRelaysModel", "tick", "()V"⟩, 37) := ⟨⟨by decide +kernel, by decide +kernel⟩, List.mem_of_getElem? (i := 471) (by decide +kernel), List.mem_of_getElem? (i := 630) (by decide +kernel), List.mem_of_getElem? (i := 631) (by decide +kernel)⟩
def lw_privs_1 : List (MethodName × Nat) := [(⟨"FeederRelays", "isPlaceFor", "(I)Z"⟩, 6), (⟨"FeederRelays", "isRelay", "(I)Z"⟩, 6), (⟨"FeederRelays", "tick", "()V"⟩, 6), (⟨"FeederRelays$Wire", "learn", "(II)V"⟩, 9), (⟨"FeederRelays", "moveBreaker", "(I)V"⟩, 6), (⟨"FeederRelays", "measureAll", "()V"⟩, 6), (⟨"FeederRelays", "findFlows", "()V"⟩, 6), (⟨"FeederRelays$Meter", "rootOfMeanSquare", "()I"⟩, 8), (⟨"FeederRelays$Meter", "growth", "()J"⟩, 8), (⟨"FeederRelays$Wire", "send", "(II)V"⟩, 9), (⟨"FeederRelays", "tripIfDue", "(I)V"⟩, 6), (⟨"FeederRelays$Meter", "limit", "()J"⟩, 8), (⟨"FeederRelays", "isBlocked", "(I)Z"⟩, 6), (⟨"FeederRelays", "failIfDue", "(I)V"⟩, 6), (⟨"FeederRelaysModel", "none", "(I)Z"⟩, 37), (⟨"FeederRelaysModel", "tick", "()V"⟩, 37)]
theorem lw_r1 : ∀ q ∈ lw_privs_1, lw_okq q := List.forall_mem_cons.mpr ⟨lw_p0, List.forall_mem_cons.mpr ⟨lw_p1, List.forall_mem_cons.mpr ⟨lw_p2, List.forall_mem_cons.mpr ⟨lw_p3, List.forall_mem_cons.mpr ⟨lw_p4, List.forall_mem_cons.mpr ⟨lw_p5, List.forall_mem_cons.mpr ⟨lw_p6, List.forall_mem_cons.mpr ⟨lw_p7, List.forall_mem_cons.mpr ⟨lw_p8, List.forall_mem_cons.mpr ⟨lw_p9, List.forall_mem_cons.mpr ⟨lw_p10, List.forall_mem_cons.mpr ⟨lw_p11, List.forall_mem_cons.mpr ⟨lw_p12, List.forall_mem_cons.mpr ⟨lw_p13, List.forall_mem_cons.mpr ⟨lw_p14, List.forall_mem_cons.mpr ⟨lw_p15, fun _ h => absurd h List.not_mem_nil⟩⟩⟩⟩⟩⟩⟩⟩⟩⟩⟩⟩⟩⟩⟩⟩
theorem lw_p16 : lw_okq (⟨"FeederRelaysModel", "receive", "(I)V"⟩, 37) := ⟨⟨by decide +kernel, by decide +kernel⟩, List.mem_of_getElem? (i := 471) (by decide +kernel), List.mem_of_getElem? (i := 634) (by decide +kernel), List.mem_of_getElem? (i := 635) (by decide +kernel)⟩
theorem lw_p17 : lw_okq (⟨"FeederRelaysModel", "breaker", "(I)V"⟩, 37) := ⟨⟨by decide +kernel, by decide +kernel⟩, List.mem_of_getElem? (i := 471) (by decide +kernel), List.mem_of_getElem? (i := 638) (by decide +kernel), List.mem_of_getElem? (i := 639) (by decide +kernel)⟩
theorem lw_p18 : lw_okq (⟨"FeederRelaysModel", "note", "(II)V"⟩, 37) := ⟨⟨by decide +kernel, by decide +kernel⟩, List.mem_of_getElem? (i := 471) (by decide +kernel), List.mem_of_getElem? (i := 642) (by decide +kernel), List.mem_of_getElem? (i := 643) (by decide +kernel)⟩
theorem lw_p19 : lw_okq (⟨"FeederRelaysModel", "measure", "(I)V"⟩, 37) := ⟨⟨by decide +kernel, by decide +kernel⟩, List.mem_of_getElem? (i := 471) (by decide +kernel), List.mem_of_getElem? (i := 646) (by decide +kernel), List.mem_of_getElem? (i := 647) (by decide +kernel)⟩
theorem lw_p20 : lw_okq (⟨"FeederRelaysModel", "flow", "(I)I"⟩, 37) := ⟨⟨by decide +kernel, by decide +kernel⟩, List.mem_of_getElem? (i := 471) (by decide +kernel), List.mem_of_getElem? (i := 650) (by decide +kernel), List.mem_of_getElem? (i := 651) (by decide +kernel)⟩
theorem lw_p21 : lw_okq (⟨"FeederRelaysModel", "root", "(I)I"⟩, 37) := ⟨⟨by decide +kernel, by decide +kernel⟩, List.mem_of_getElem? (i := 471) (by decide +kernel), List.mem_of_getElem? (i := 654) (by decide +kernel), List.mem_of_getElem? (i := 655) (by decide +kernel)⟩
theorem lw_p22 : lw_okq (⟨"FeederRelaysModel", "send", "(I)V"⟩, 37) := ⟨⟨by decide +kernel, by decide +kernel⟩, List.mem_of_getElem? (i := 471) (by decide +kernel), List.mem_of_getElem? (i := 661) (by decide +kernel), List.mem_of_getElem? (i := 662) (by decide +kernel)⟩
theorem lw_p23 : lw_okq (⟨"FeederRelaysModel", "trip", "(I)V"⟩, 37) := ⟨⟨by decide +kernel, by decide +kernel⟩, List.mem_of_getElem? (i := 471) (by decide +kernel), List.mem_of_getElem? (i := 665) (by decide +kernel), List.mem_of_getElem? (i := 666) (by decide +kernel)⟩
theorem lw_p24 : lw_okq (⟨"FeederRelaysModel", "blocked", "(I)Z"⟩, 37) := ⟨⟨by decide +kernel, by decide +kernel⟩, List.mem_of_getElem? (i := 471) (by decide +kernel), List.mem_of_getElem? (i := 669) (by decide +kernel), List.mem_of_getElem? (i := 670) (by decide +kernel)⟩
theorem lw_p25 : lw_okq (⟨"FeederRelaysModel", "give", "(II)V"⟩, 37) := ⟨⟨by decide +kernel, by decide +kernel⟩, List.mem_of_getElem? (i := 471) (by decide +kernel), List.mem_of_getElem? (i := 673) (by decide +kernel), List.mem_of_getElem? (i := 674) (by decide +kernel)⟩
theorem lw_p26 : lw_okq (⟨"FeederRelaysModel", "fail", "(I)V"⟩, 37) := ⟨⟨by decide +kernel, by decide +kernel⟩, List.mem_of_getElem? (i := 471) (by decide +kernel), List.mem_of_getElem? (i := 677) (by decide +kernel), List.mem_of_getElem? (i := 678) (by decide +kernel)⟩
def lw_privs_2 : List (MethodName × Nat) := [(⟨"FeederRelaysModel", "receive", "(I)V"⟩, 37), (⟨"FeederRelaysModel", "breaker", "(I)V"⟩, 37), (⟨"FeederRelaysModel", "note", "(II)V"⟩, 37), (⟨"FeederRelaysModel", "measure", "(I)V"⟩, 37), (⟨"FeederRelaysModel", "flow", "(I)I"⟩, 37), (⟨"FeederRelaysModel", "root", "(I)I"⟩, 37), (⟨"FeederRelaysModel", "send", "(I)V"⟩, 37), (⟨"FeederRelaysModel", "trip", "(I)V"⟩, 37), (⟨"FeederRelaysModel", "blocked", "(I)Z"⟩, 37), (⟨"FeederRelaysModel", "give", "(II)V"⟩, 37), (⟨"FeederRelaysModel", "fail", "(I)V"⟩, 37)]
theorem lw_r2 : ∀ q ∈ lw_privs_2, lw_okq q := List.forall_mem_cons.mpr ⟨lw_p16, List.forall_mem_cons.mpr ⟨lw_p17, List.forall_mem_cons.mpr ⟨lw_p18, List.forall_mem_cons.mpr ⟨lw_p19, List.forall_mem_cons.mpr ⟨lw_p20, List.forall_mem_cons.mpr ⟨lw_p21, List.forall_mem_cons.mpr ⟨lw_p22, List.forall_mem_cons.mpr ⟨lw_p23, List.forall_mem_cons.mpr ⟨lw_p24, List.forall_mem_cons.mpr ⟨lw_p25, List.forall_mem_cons.mpr ⟨lw_p26, fun _ h => absurd h List.not_mem_nil⟩⟩⟩⟩⟩⟩⟩⟩⟩⟩⟩
def lw_privs : List (MethodName × Nat) := lw_privs_1 ++ (lw_privs_2)
def lw_tbl : List Cond := k2_sels lw_privs ++ tables_1
theorem lw_privs_ok : ∀ q ∈ lw_privs, lw_okq q := by
  show ∀ q ∈ lw_privs_1 ++ (lw_privs_2), lw_okq q
  exact List.forall_mem_append.mpr ⟨lw_r1, lw_r2⟩
-- ===== end of PART A; then your names; then what follows =====
end
section
abbrev R_F : String := "FeederRelays"
abbrev R_J : String := "FeederRelays$Journal"
abbrev R_R : String := "FeederRelays$Relay"
abbrev R_M : String := "FeederRelays$Meter"
abbrev R_B : String := "FeederRelays$Breaker"
abbrev R_W : String := "FeederRelays$Wire"
abbrev R_O : String := "FeederRelaysModel"
abbrev R_L : String := "FeederRelaysLaw"
abbrev R_A : String := "java/util/Arrays"
def T_F : u_T := fun k => match k with
  | 0 => ("FeederRelays", "relays", "[LFeederRelays$Relay;", true)
  | 1 => ("FeederRelays", "flows", "[I", true)
  | 2 => ("FeederRelays", "fed", "[Z", true)
  | 3 => ("FeederRelays", "journal", "LFeederRelays$Journal;", true)
  | 4 => ("FeederRelays", "count", "I", false)
  | _ => ("FeederRelays", "now", "I", false)
def ty_F : Nat → FieldType := fun k => match k with
  | 0 => .array (.object "FeederRelays$Relay")
  | 1 => .array .int
  | 2 => .array .boolean
  | 3 => .object "FeederRelays$Journal"
  | 4 => .int
  | _ => .int
abbrev fr_q0 : vw_C := (R_F, T_F, 6)
theorem nm_F : ∀ a, a < 6 → ∀ b, b < 6 → a ≠ b → (T_F a).2.1 ≠ (T_F b).2.1 := by decide +kernel
theorem tk_F : ∀ k, k < 6 → parseFieldDescriptor (T_F k).2.2.1 = some (ty_F k) := by decide +kernel
def T_J : u_T := fun k => match k with
  | 0 => ("FeederRelays$Journal", "codes", "[I", true)
  | 1 => ("FeederRelays$Journal", "times", "[I", true)
  | 2 => ("FeederRelays$Journal", "recorded", "I", false)
  | _ => ("FeederRelays$Journal", "stored", "I", false)
def ty_J : Nat → FieldType := fun k => match k with
  | 0 => .array .int
  | 1 => .array .int
  | 2 => .int
  | _ => .int
abbrev fr_q1 : vw_C := (R_J, T_J, 4)
theorem nm_J : ∀ a, a < 4 → ∀ b, b < 4 → a ≠ b → (T_J a).2.1 ≠ (T_J b).2.1 := by decide +kernel
theorem tk_J : ∀ k, k < 4 → parseFieldDescriptor (T_J k).2.2.1 = some (ty_J k) := by decide +kernel
def T_R : u_T := fun k => match k with
  | 0 => ("FeederRelays$Relay", "above", "I", true)
  | 1 => ("FeederRelays$Relay", "meter", "LFeederRelays$Meter;", true)
  | 2 => ("FeederRelays$Relay", "breaker", "LFeederRelays$Breaker;", true)
  | 3 => ("FeederRelays$Relay", "wire", "LFeederRelays$Wire;", true)
  | 4 => ("FeederRelays$Relay", "held", "Z", false)
  | 5 => ("FeederRelays$Relay", "shots", "I", false)
  | 6 => ("FeederRelays$Relay", "patience", "I", false)
  | 7 => ("FeederRelays$Relay", "loadAmount", "I", false)
  | _ => ("FeederRelays$Relay", "faultAmount", "I", false)
def ty_R : Nat → FieldType := fun k => match k with
  | 0 => .int
  | 1 => .object "FeederRelays$Meter"
  | 2 => .object "FeederRelays$Breaker"
  | 3 => .object "FeederRelays$Wire"
  | 4 => .boolean
  | 5 => .int
  | 6 => .int
  | 7 => .int
  | _ => .int
abbrev fr_q2 : vw_C := (R_R, T_R, 9)
theorem nm_R : ∀ a, a < 9 → ∀ b, b < 9 → a ≠ b → (T_R a).2.1 ≠ (T_R b).2.1 := by decide +kernel
theorem tk_R : ∀ k, k < 9 → parseFieldDescriptor (T_R k).2.2.1 = some (ty_R k) := by decide +kernel
def T_M : u_T := fun k => match k with
  | 0 => ("FeederRelays$Meter", "samples", "[I", true)
  | 1 => ("FeederRelays$Meter", "oldest", "I", false)
  | 2 => ("FeederRelays$Meter", "kind", "I", false)
  | 3 => ("FeederRelays$Meter", "pickup", "I", false)
  | 4 => ("FeederRelays$Meter", "delay", "I", false)
  | 5 => ("FeederRelays$Meter", "effectiveNow", "I", false)
  | 6 => ("FeederRelays$Meter", "pickedUp", "Z", false)
  | _ => ("FeederRelays$Meter", "total", "J", false)
def ty_M : Nat → FieldType := fun k => match k with
  | 0 => .array .int
  | 1 => .int
  | 2 => .int
  | 3 => .int
  | 4 => .int
  | 5 => .int
  | 6 => .boolean
  | _ => .long
abbrev fr_q3 : vw_C := (R_M, T_M, 8)
theorem nm_M : ∀ a, a < 8 → ∀ b, b < 8 → a ≠ b → (T_M a).2.1 ≠ (T_M b).2.1 := by decide +kernel
theorem tk_M : ∀ k, k < 8 → parseFieldDescriptor (T_M k).2.2.1 = some (ty_M k) := by decide +kernel
def T_B : u_T := fun k => match k with
  | 0 => ("FeederRelays$Breaker", "closed", "Z", false)
  | 1 => ("FeederRelays$Breaker", "jammed", "Z", false)
  | 2 => ("FeederRelays$Breaker", "locked", "Z", false)
  | 3 => ("FeederRelays$Breaker", "failed", "Z", false)
  | 4 => ("FeederRelays$Breaker", "orderIsOwn", "Z", false)
  | 5 => ("FeederRelays$Breaker", "usedShots", "I", false)
  | 6 => ("FeederRelays$Breaker", "hasOrder", "Z", false)
  | 7 => ("FeederRelays$Breaker", "orderedAt", "I", false)
  | 8 => ("FeederRelays$Breaker", "waiting", "Z", false)
  | 9 => ("FeederRelays$Breaker", "closingAt", "I", false)
  | _ => ("FeederRelays$Breaker", "reclaimAt", "I", false)
def ty_B : Nat → FieldType := fun k => match k with
  | 0 => .boolean
  | 1 => .boolean
  | 2 => .boolean
  | 3 => .boolean
  | 4 => .boolean
  | 5 => .int
  | 6 => .boolean
  | 7 => .int
  | 8 => .boolean
  | 9 => .int
  | _ => .int
abbrev fr_q4 : vw_C := (R_B, T_B, 11)
theorem nm_B : ∀ a, a < 11 → ∀ b, b < 11 → a ≠ b → (T_B a).2.1 ≠ (T_B b).2.1 := by decide +kernel
theorem tk_B : ∀ k, k < 11 → parseFieldDescriptor (T_B k).2.2.1 = some (ty_B k) := by decide +kernel
def T_W : u_T := fun k => match k with
  | 0 => ("FeederRelays$Wire", "leadsUp", "Z", true)
  | 1 => ("FeederRelays$Wire", "messages", "[I", true)
  | 2 => ("FeederRelays$Wire", "comesAt", "[I", true)
  | 3 => ("FeederRelays$Wire", "lag", "I", false)
  | 4 => ("FeederRelays$Wire", "number", "I", false)
  | 5 => ("FeederRelays$Wire", "knownMessage", "I", false)
  | 6 => ("FeederRelays$Wire", "cameAt", "I", false)
  | 7 => ("FeederRelays$Wire", "gap", "I", false)
  | _ => ("FeederRelays$Wire", "dueAt", "I", false)
def ty_W : Nat → FieldType := fun k => match k with
  | 0 => .boolean
  | 1 => .array .int
  | 2 => .array .int
  | 3 => .int
  | 4 => .int
  | 5 => .int
  | 6 => .int
  | 7 => .int
  | _ => .int
abbrev fr_q5 : vw_C := (R_W, T_W, 9)
theorem nm_W : ∀ a, a < 9 → ∀ b, b < 9 → a ≠ b → (T_W a).2.1 ≠ (T_W b).2.1 := by decide +kernel
theorem tk_W : ∀ k, k < 9 → parseFieldDescriptor (T_W k).2.2.1 = some (ty_W k) := by decide +kernel
def T_O : u_T := fun k => match k with
  | 0 => ("FeederRelaysModel", "count", "I", false)
  | 1 => ("FeederRelaysModel", "time", "I", false)
  | 2 => ("FeederRelaysModel", "above", "[I", false)
  | 3 => ("FeederRelaysModel", "closed", "[Z", false)
  | 4 => ("FeederRelaysModel", "jammed", "[Z", false)
  | 5 => ("FeederRelaysModel", "load", "[I", false)
  | 6 => ("FeederRelaysModel", "fault", "[I", false)
  | 7 => ("FeederRelaysModel", "kind", "[I", false)
  | 8 => ("FeederRelaysModel", "pickup", "[I", false)
  | 9 => ("FeederRelaysModel", "delay", "[I", false)
  | 10 => ("FeederRelaysModel", "held", "[Z", false)
  | 11 => ("FeederRelaysModel", "shots", "[I", false)
  | 12 => ("FeederRelaysModel", "patience", "[I", false)
  | 13 => ("FeederRelaysModel", "lag", "[I", false)
  | 14 => ("FeederRelaysModel", "samples", "[I", false)
  | 15 => ("FeederRelaysModel", "total", "[J", false)
  | 16 => ("FeederRelaysModel", "picked", "[Z", false)
  | 17 => ("FeederRelaysModel", "number", "[I", false)
  | 18 => ("FeederRelaysModel", "due", "[I", false)
  | 19 => ("FeederRelaysModel", "gap", "[I", false)
  | 20 => ("FeederRelaysModel", "order", "[I", false)
  | 21 => ("FeederRelaysModel", "ordered", "[I", false)
  | 22 => ("FeederRelaysModel", "failed", "[Z", false)
  | 23 => ("FeederRelaysModel", "waiting", "[Z", false)
  | 24 => ("FeederRelaysModel", "until", "[I", false)
  | 25 => ("FeederRelaysModel", "locked", "[Z", false)
  | 26 => ("FeederRelaysModel", "used", "[I", false)
  | 27 => ("FeederRelaysModel", "reclaim", "[I", false)
  | 28 => ("FeederRelaysModel", "under", "[I", false)
  | 29 => ("FeederRelaysModel", "comes", "[I", false)
  | 30 => ("FeederRelaysModel", "bears", "[I", false)
  | 31 => ("FeederRelaysModel", "known", "[I", false)
  | 32 => ("FeederRelaysModel", "came", "[I", false)
  | 33 => ("FeederRelaysModel", "events", "I", false)
  | 34 => ("FeederRelaysModel", "stored", "I", false)
  | 35 => ("FeederRelaysModel", "what", "[I", false)
  | _ => ("FeederRelaysModel", "when", "[I", false)
def ty_O : Nat → FieldType := fun k => match k with
  | 0 => .int
  | 1 => .int
  | 2 => .array .int
  | 3 => .array .boolean
  | 4 => .array .boolean
  | 5 => .array .int
  | 6 => .array .int
  | 7 => .array .int
  | 8 => .array .int
  | 9 => .array .int
  | 10 => .array .boolean
  | 11 => .array .int
  | 12 => .array .int
  | 13 => .array .int
  | 14 => .array .int
  | 15 => .array .long
  | 16 => .array .boolean
  | 17 => .array .int
  | 18 => .array .int
  | 19 => .array .int
  | 20 => .array .int
  | 21 => .array .int
  | 22 => .array .boolean
  | 23 => .array .boolean
  | 24 => .array .int
  | 25 => .array .boolean
  | 26 => .array .int
  | 27 => .array .int
  | 28 => .array .int
  | 29 => .array .int
  | 30 => .array .int
  | 31 => .array .int
  | 32 => .array .int
  | 33 => .int
  | 34 => .int
  | 35 => .array .int
  | _ => .array .int
abbrev fr_q6 : vw_C := (R_O, T_O, 37)
theorem nm_O : ∀ a, a < 37 → ∀ b, b < 37 → a ≠ b → (T_O a).2.1 ≠ (T_O b).2.1 := by decide +kernel
theorem tk_O : ∀ k, k < 37 → parseFieldDescriptor (T_O k).2.2.1 = some (ty_O k) := by decide +kernel
def fr_cl : List vw_C := [fr_q0, fr_q1, fr_q2, fr_q3, fr_q4, fr_q5, fr_q6]
abbrev c_F_init : ByteArray := prog_1_method_1_code
abbrev y_F_init : MethodName := ⟨R_F, "<init>", "()V"⟩
abbrev c_F_relay : ByteArray := prog_1_method_2_code
abbrev y_F_relay : MethodName := ⟨R_F, "relay", "(I)I"⟩
abbrev c_F_settings : ByteArray := prog_1_method_3_code
abbrev y_F_settings : MethodName := ⟨R_F, "settings", "(IIII)Z"⟩
abbrev c_F_options : ByteArray := prog_1_method_4_code
abbrev y_F_options : MethodName := ⟨R_F, "options", "(IZII)Z"⟩
abbrev c_F_load : ByteArray := prog_1_method_5_code
abbrev y_F_load : MethodName := ⟨R_F, "load", "(II)Z"⟩
abbrev c_F_fault : ByteArray := prog_1_method_6_code
abbrev y_F_fault : MethodName := ⟨R_F, "fault", "(II)Z"⟩
abbrev c_F_jam : ByteArray := prog_1_method_7_code
abbrev y_F_jam : MethodName := ⟨R_F, "jam", "(IZ)Z"⟩
abbrev c_F_line : ByteArray := prog_1_method_8_code
abbrev y_F_line : MethodName := ⟨R_F, "line", "(II)Z"⟩
abbrev c_F_operate : ByteArray := prog_1_method_9_code
abbrev y_F_operate : MethodName := ⟨R_F, "operate", "(IZ)Z"⟩
abbrev c_F_run : ByteArray := prog_1_method_10_code
abbrev y_F_run : MethodName := ⟨R_F, "run", "(I)I"⟩
abbrev c_F_crash : ByteArray := prog_1_method_11_code
abbrev y_F_crash : MethodName := ⟨R_F, "crash", "()I"⟩
abbrev c_F_time : ByteArray := prog_1_method_12_code
abbrev y_F_time : MethodName := ⟨R_F, "time", "()I"⟩
abbrev c_F_current : ByteArray := prog_1_method_13_code
abbrev y_F_current : MethodName := ⟨R_F, "current", "(I)I"⟩
abbrev c_F_state : ByteArray := prog_1_method_14_code
abbrev y_F_state : MethodName := ⟨R_F, "state", "(I)I"⟩
abbrev c_F_sum : ByteArray := prog_1_method_15_code
abbrev y_F_sum : MethodName := ⟨R_F, "sum", "(I)J"⟩
abbrev c_F_used : ByteArray := prog_1_method_16_code
abbrev y_F_used : MethodName := ⟨R_F, "used", "(I)I"⟩
abbrev c_F_changes : ByteArray := prog_1_method_17_code
abbrev y_F_changes : MethodName := ⟨R_F, "changes", "(I)I"⟩
abbrev c_F_known : ByteArray := prog_1_method_18_code
abbrev y_F_known : MethodName := ⟨R_F, "known", "(I)I"⟩
abbrev c_F_effective : ByteArray := prog_1_method_19_code
abbrev y_F_effective : MethodName := ⟨R_F, "effective", "(I)I"⟩
abbrev c_F_events : ByteArray := prog_1_method_20_code
abbrev y_F_events : MethodName := ⟨R_F, "events", "()I"⟩
abbrev c_F_event : ByteArray := prog_1_method_21_code
abbrev y_F_event : MethodName := ⟨R_F, "event", "(I)I"⟩
abbrev c_F_when : ByteArray := prog_1_method_22_code
abbrev y_F_when : MethodName := ⟨R_F, "when", "(I)I"⟩
abbrev c_F_isWithin : ByteArray := prog_1_method_23_code
abbrev y_F_isWithin : MethodName := ⟨R_F, "isWithin", "(III)Z"⟩
abbrev c_F_isRelay : ByteArray := prog_1_method_24_code
abbrev y_F_isRelay : MethodName := ⟨R_F, "isRelay", "(I)Z"⟩
abbrev c_F_isPlaceFor : ByteArray := prog_1_method_25_code
abbrev y_F_isPlaceFor : MethodName := ⟨R_F, "isPlaceFor", "(I)Z"⟩
abbrev c_F_tick : ByteArray := prog_1_method_26_code
abbrev y_F_tick : MethodName := ⟨R_F, "tick", "()V"⟩
abbrev c_F_moveBreaker : ByteArray := prog_1_method_27_code
abbrev y_F_moveBreaker : MethodName := ⟨R_F, "moveBreaker", "(I)V"⟩
abbrev c_F_measureAll : ByteArray := prog_1_method_28_code
abbrev y_F_measureAll : MethodName := ⟨R_F, "measureAll", "()V"⟩
abbrev c_F_findFlows : ByteArray := prog_1_method_29_code
abbrev y_F_findFlows : MethodName := ⟨R_F, "findFlows", "()V"⟩
abbrev c_F_tripIfDue : ByteArray := prog_1_method_30_code
abbrev y_F_tripIfDue : MethodName := ⟨R_F, "tripIfDue", "(I)V"⟩
abbrev c_F_failIfDue : ByteArray := prog_1_method_31_code
abbrev y_F_failIfDue : MethodName := ⟨R_F, "failIfDue", "(I)V"⟩
abbrev c_F_isBlocked : ByteArray := prog_1_method_32_code
abbrev y_F_isBlocked : MethodName := ⟨R_F, "isBlocked", "(I)Z"⟩
abbrev c_O_init : ByteArray := prog_8_method_1_code
abbrev y_O_init : MethodName := ⟨R_O, "<init>", "()V"⟩
abbrev c_O_none : ByteArray := prog_8_method_2_code
abbrev y_O_none : MethodName := ⟨R_O, "none", "(I)Z"⟩
abbrev c_O_relay : ByteArray := prog_8_method_3_code
abbrev y_O_relay : MethodName := ⟨R_O, "relay", "(I)I"⟩
abbrev c_O_settings : ByteArray := prog_8_method_4_code
abbrev y_O_settings : MethodName := ⟨R_O, "settings", "(IIII)Z"⟩
abbrev c_O_options : ByteArray := prog_8_method_5_code
abbrev y_O_options : MethodName := ⟨R_O, "options", "(IZII)Z"⟩
abbrev c_O_load : ByteArray := prog_8_method_6_code
abbrev y_O_load : MethodName := ⟨R_O, "load", "(II)Z"⟩
abbrev c_O_fault : ByteArray := prog_8_method_7_code
abbrev y_O_fault : MethodName := ⟨R_O, "fault", "(II)Z"⟩
abbrev c_O_jam : ByteArray := prog_8_method_8_code
abbrev y_O_jam : MethodName := ⟨R_O, "jam", "(IZ)Z"⟩
abbrev c_O_line : ByteArray := prog_8_method_9_code
abbrev y_O_line : MethodName := ⟨R_O, "line", "(II)Z"⟩
abbrev c_O_operate : ByteArray := prog_8_method_10_code
abbrev y_O_operate : MethodName := ⟨R_O, "operate", "(IZ)Z"⟩
abbrev c_O_flow : ByteArray := prog_8_method_11_code
abbrev y_O_flow : MethodName := ⟨R_O, "flow", "(I)I"⟩
abbrev c_O_root : ByteArray := prog_8_method_12_code
abbrev y_O_root : MethodName := ⟨R_O, "root", "(I)I"⟩
abbrev c_O_note : ByteArray := prog_8_method_13_code
abbrev y_O_note : MethodName := ⟨R_O, "note", "(II)V"⟩
abbrev c_O_send : ByteArray := prog_8_method_14_code
abbrev y_O_send : MethodName := ⟨R_O, "send", "(I)V"⟩
abbrev c_O_receive : ByteArray := prog_8_method_15_code
abbrev y_O_receive : MethodName := ⟨R_O, "receive", "(I)V"⟩
abbrev c_O_blocked : ByteArray := prog_8_method_16_code
abbrev y_O_blocked : MethodName := ⟨R_O, "blocked", "(I)Z"⟩
abbrev c_O_breaker : ByteArray := prog_8_method_17_code
abbrev y_O_breaker : MethodName := ⟨R_O, "breaker", "(I)V"⟩
abbrev c_O_measure : ByteArray := prog_8_method_18_code
abbrev y_O_measure : MethodName := ⟨R_O, "measure", "(I)V"⟩
abbrev c_O_trip : ByteArray := prog_8_method_19_code
abbrev y_O_trip : MethodName := ⟨R_O, "trip", "(I)V"⟩
abbrev c_O_give : ByteArray := prog_8_method_20_code
abbrev y_O_give : MethodName := ⟨R_O, "give", "(II)V"⟩
abbrev c_O_fail : ByteArray := prog_8_method_21_code
abbrev y_O_fail : MethodName := ⟨R_O, "fail", "(I)V"⟩
abbrev c_O_tick : ByteArray := prog_8_method_22_code
abbrev y_O_tick : MethodName := ⟨R_O, "tick", "()V"⟩
abbrev c_O_run : ByteArray := prog_8_method_23_code
abbrev y_O_run : MethodName := ⟨R_O, "run", "(I)I"⟩
abbrev c_O_crash : ByteArray := prog_8_method_24_code
abbrev y_O_crash : MethodName := ⟨R_O, "crash", "()I"⟩
abbrev c_O_time : ByteArray := prog_8_method_25_code
abbrev y_O_time : MethodName := ⟨R_O, "time", "()I"⟩
abbrev c_O_current : ByteArray := prog_8_method_26_code
abbrev y_O_current : MethodName := ⟨R_O, "current", "(I)I"⟩
abbrev c_O_state : ByteArray := prog_8_method_27_code
abbrev y_O_state : MethodName := ⟨R_O, "state", "(I)I"⟩
abbrev c_O_sum : ByteArray := prog_8_method_28_code
abbrev y_O_sum : MethodName := ⟨R_O, "sum", "(I)J"⟩
abbrev c_O_used : ByteArray := prog_8_method_29_code
abbrev y_O_used : MethodName := ⟨R_O, "used", "(I)I"⟩
abbrev c_O_changes : ByteArray := prog_8_method_30_code
abbrev y_O_changes : MethodName := ⟨R_O, "changes", "(I)I"⟩
abbrev c_O_known : ByteArray := prog_8_method_31_code
abbrev y_O_known : MethodName := ⟨R_O, "known", "(I)I"⟩
abbrev c_O_effective : ByteArray := prog_8_method_32_code
abbrev y_O_effective : MethodName := ⟨R_O, "effective", "(I)I"⟩
abbrev c_O_events : ByteArray := prog_8_method_33_code
abbrev y_O_events : MethodName := ⟨R_O, "events", "()I"⟩
abbrev c_O_event : ByteArray := prog_8_method_34_code
abbrev y_O_event : MethodName := ⟨R_O, "event", "(I)I"⟩
abbrev c_O_when : ByteArray := prog_8_method_35_code
abbrev y_O_when : MethodName := ⟨R_O, "when", "(I)I"⟩
abbrev c_B_init : ByteArray := prog_2_method_1_code
abbrev y_B_init : MethodName := ⟨R_B, "<init>", "()V"⟩
abbrev c_B_takesOrder : ByteArray := prog_2_method_2_code
abbrev y_B_takesOrder : MethodName := ⟨R_B, "takesOrder", "()Z"⟩
abbrev c_B_giveOrder : ByteArray := prog_2_method_3_code
abbrev y_B_giveOrder : MethodName := ⟨R_B, "giveOrder", "(IZ)V"⟩
abbrev c_B_isOverdue : ByteArray := prog_2_method_4_code
abbrev y_B_isOverdue : MethodName := ⟨R_B, "isOverdue", "(II)Z"⟩
abbrev c_B_mustOpen : ByteArray := prog_2_method_5_code
abbrev y_B_mustOpen : MethodName := ⟨R_B, "mustOpen", "(I)Z"⟩
abbrev c_B_open : ByteArray := prog_2_method_6_code
abbrev y_B_open : MethodName := ⟨R_B, "open", "()V"⟩
abbrev c_B_awaitClosing : ByteArray := prog_2_method_7_code
abbrev y_B_awaitClosing : MethodName := ⟨R_B, "awaitClosing", "(I)V"⟩
abbrev c_B_mustClose : ByteArray := prog_2_method_8_code
abbrev y_B_mustClose : MethodName := ⟨R_B, "mustClose", "(I)Z"⟩
abbrev c_B_closeAgain : ByteArray := prog_2_method_9_code
abbrev y_B_closeAgain : MethodName := ⟨R_B, "closeAgain", "(I)V"⟩
abbrev c_B_mustReclaim : ByteArray := prog_2_method_10_code
abbrev y_B_mustReclaim : MethodName := ⟨R_B, "mustReclaim", "(I)Z"⟩
abbrev c_B_forget : ByteArray := prog_2_method_11_code
abbrev y_B_forget : MethodName := ⟨R_B, "forget", "()V"⟩
abbrev c_B_bits : ByteArray := prog_2_method_12_code
abbrev y_B_bits : MethodName := ⟨R_B, "bits", "()I"⟩
abbrev c_B_pauseAfter : ByteArray := prog_2_method_13_code
abbrev y_B_pauseAfter : MethodName := ⟨R_B, "pauseAfter", "(I)I"⟩
abbrev c_J_init : ByteArray := prog_3_method_1_code
abbrev y_J_init : MethodName := ⟨R_J, "<init>", "()V"⟩
abbrev c_J_add : ByteArray := prog_3_method_2_code
abbrev y_J_add : MethodName := ⟨R_J, "add", "(III)V"⟩
abbrev c_J_has : ByteArray := prog_3_method_3_code
abbrev y_J_has : MethodName := ⟨R_J, "has", "(I)Z"⟩
abbrev c_J_store : ByteArray := prog_3_method_4_code
abbrev y_J_store : MethodName := ⟨R_J, "store", "()V"⟩
abbrev c_J_dropUnstored : ByteArray := prog_3_method_5_code
abbrev y_J_dropUnstored : MethodName := ⟨R_J, "dropUnstored", "()I"⟩
abbrev c_M_init : ByteArray := prog_4_method_1_code
abbrev y_M_init : MethodName := ⟨R_M, "<init>", "()V"⟩
abbrev c_M_set : ByteArray := prog_4_method_2_code
abbrev y_M_set : MethodName := ⟨R_M, "set", "(III)V"⟩
abbrev c_M_measure : ByteArray := prog_4_method_3_code
abbrev y_M_measure : MethodName := ⟨R_M, "measure", "(I)V"⟩
abbrev c_M_isOverLimit : ByteArray := prog_4_method_4_code
abbrev y_M_isOverLimit : MethodName := ⟨R_M, "isOverLimit", "()Z"⟩
abbrev c_M_forget : ByteArray := prog_4_method_5_code
abbrev y_M_forget : MethodName := ⟨R_M, "forget", "()V"⟩
abbrev c_M_growth : ByteArray := prog_4_method_6_code
abbrev y_M_growth : MethodName := ⟨R_M, "growth", "()J"⟩
abbrev c_M_limit : ByteArray := prog_4_method_7_code
abbrev y_M_limit : MethodName := ⟨R_M, "limit", "()J"⟩
abbrev c_M_rootOfMeanSquare : ByteArray := prog_4_method_8_code
abbrev y_M_rootOfMeanSquare : MethodName := ⟨R_M, "rootOfMeanSquare", "()I"⟩
abbrev c_R_init : ByteArray := prog_5_method_1_code
abbrev y_R_init : MethodName := ⟨R_R, "<init>", "(I)V"⟩
abbrev c_W_init : ByteArray := prog_6_method_1_code
abbrev y_W_init : MethodName := ⟨R_W, "<init>", "(Z)V"⟩
abbrev c_W_deliver : ByteArray := prog_6_method_2_code
abbrev y_W_deliver : MethodName := ⟨R_W, "deliver", "(I)V"⟩
abbrev c_W_report : ByteArray := prog_6_method_3_code
abbrev y_W_report : MethodName := ⟨R_W, "report", "(IZZ)V"⟩
abbrev c_W_holdsBack : ByteArray := prog_6_method_4_code
abbrev y_W_holdsBack : MethodName := ⟨R_W, "holdsBack", "(I)Z"⟩
abbrev c_W_forget : ByteArray := prog_6_method_5_code
abbrev y_W_forget : MethodName := ⟨R_W, "forget", "()V"⟩
abbrev c_W_send : ByteArray := prog_6_method_6_code
abbrev y_W_send : MethodName := ⟨R_W, "send", "(II)V"⟩
abbrev c_W_learn : ByteArray := prog_6_method_7_code
abbrev y_W_learn : MethodName := ⟨R_W, "learn", "(II)V"⟩
abbrev c_W_placeOf : ByteArray := prog_6_method_8_code
abbrev y_W_placeOf : MethodName := ⟨R_W, "placeOf", "(I)I"⟩
abbrev c_L_law : ByteArray := code
abbrev y_L_law : MethodName := ⟨R_L, "law", "([I)Z"⟩
abbrev c_A_fill : ByteArray := prog_10_method_103_code
abbrev y_A_fill : MethodName := ⟨R_A, "fill", "([II)V"⟩
def fr_kd (k : Nat) : Nat ⊕ (FieldType × Nat) := match k with
  | 0 => .inl 0
  | 1 => .inr (.object R_R, 8)
  | 2 => .inr (.int, 8)
  | 3 => .inr (.boolean, 8)
  | 4 => .inl 1
  | 5 => .inr (.int, 200)
  | 6 => .inr (.int, 200)
  | 7 => .inl 2
  | 8 => .inl 3
  | 9 => .inr (.int, 4)
  | 10 => .inl 4
  | 11 => .inl 5
  | 12 => .inr (.int, 8)
  | 13 => .inr (.int, 8)
  | 20 => .inl 6
  | 42 => .inr (.int, 8)
  | 43 => .inr (.boolean, 8)
  | 44 => .inr (.boolean, 8)
  | 45 => .inr (.int, 8)
  | 46 => .inr (.int, 8)
  | 47 => .inr (.int, 8)
  | 48 => .inr (.int, 8)
  | 49 => .inr (.int, 8)
  | 50 => .inr (.boolean, 8)
  | 51 => .inr (.int, 8)
  | 52 => .inr (.int, 8)
  | 53 => .inr (.int, 8)
  | 54 => .inr (.int, 32)
  | 55 => .inr (.long, 8)
  | 56 => .inr (.boolean, 8)
  | 57 => .inr (.int, 8)
  | 58 => .inr (.int, 8)
  | 59 => .inr (.int, 8)
  | 60 => .inr (.int, 8)
  | 61 => .inr (.int, 8)
  | 62 => .inr (.boolean, 8)
  | 63 => .inr (.boolean, 8)
  | 64 => .inr (.int, 8)
  | 65 => .inr (.boolean, 8)
  | 66 => .inr (.int, 8)
  | 67 => .inr (.int, 8)
  | 68 => .inr (.int, 8)
  | 69 => .inr (.int, 128)
  | 70 => .inr (.int, 128)
  | 71 => .inr (.int, 8)
  | 72 => .inr (.int, 8)
  | 75 => .inr (.int, 200)
  | 76 => .inr (.int, 200)
  | _ => .inr (.int, 0)
def fr_s0 (j : Nat) : Nat := match j with
  | 0 => 2
  | 1 => 2
  | 2 => 2
  | 3 => 2
  | _ => 0
def fr_s4 (j : Nat) : Nat := match j with
  | 0 => 2
  | 1 => 2
  | _ => 0
def fr_s7 (j : Nat) : Nat := match j with
  | 1 => 2
  | 2 => 2
  | 3 => 2
  | _ => 0
def fr_s8 (j : Nat) : Nat := match j with
  | 0 => 2
  | 7 => 1
  | _ => 0
def fr_s10 (j : Nat) : Nat := match j with
  | _ => 0
def fr_s11 (j : Nat) : Nat := match j with
  | 1 => 2
  | 2 => 2
  | _ => 0
def fr_s20 (j : Nat) : Nat := match j with
  | 2 => 2
  | 3 => 2
  | 4 => 2
  | 5 => 2
  | 6 => 2
  | 7 => 2
  | 8 => 2
  | 9 => 2
  | 10 => 2
  | 11 => 2
  | 12 => 2
  | 13 => 2
  | 14 => 2
  | 15 => 2
  | 16 => 2
  | 17 => 2
  | 18 => 2
  | 19 => 2
  | 20 => 2
  | 21 => 2
  | 22 => 2
  | 23 => 2
  | 24 => 2
  | 25 => 2
  | 26 => 2
  | 27 => 2
  | 28 => 2
  | 29 => 2
  | 30 => 2
  | 31 => 2
  | 32 => 2
  | 35 => 2
  | 36 => 2
  | _ => 0
def fr_so (k j : Nat) : Nat := match k with
  | 0 => fr_s0 j
  | 1 => 2
  | 4 => fr_s4 j
  | 7 => fr_s7 j
  | 8 => fr_s8 j
  | 10 => fr_s10 j
  | 11 => fr_s11 j
  | 20 => fr_s20 j
  | 55 => 1
  | _ => 0
def fr_r0 (r j : Nat) : Option (Nat × Nat) := match j with
  | 0 => some (1, 0)
  | 1 => some (2, 0)
  | 2 => some (3, 0)
  | 3 => some (4, 0)
  | _ => none
def fr_r4 (r j : Nat) : Option (Nat × Nat) := match j with
  | 0 => some (5, 0)
  | 1 => some (6, 0)
  | _ => none
def fr_r7 (r j : Nat) : Option (Nat × Nat) := match j with
  | 1 => some (8, r)
  | 2 => some (10, r)
  | 3 => some (11, r)
  | _ => none
def fr_r8 (r j : Nat) : Option (Nat × Nat) := match j with
  | 0 => some (9, r)
  | _ => none
def fr_r11 (r j : Nat) : Option (Nat × Nat) := match j with
  | 1 => some (12, r)
  | 2 => some (13, r)
  | _ => none
def fr_r20 (r j : Nat) : Option (Nat × Nat) := match j with
  | 2 => some (42, 0)
  | 3 => some (43, 0)
  | 4 => some (44, 0)
  | 5 => some (45, 0)
  | 6 => some (46, 0)
  | 7 => some (47, 0)
  | 8 => some (48, 0)
  | 9 => some (49, 0)
  | 10 => some (50, 0)
  | 11 => some (51, 0)
  | 12 => some (52, 0)
  | 13 => some (53, 0)
  | 14 => some (54, 0)
  | 15 => some (55, 0)
  | 16 => some (56, 0)
  | 17 => some (57, 0)
  | 18 => some (58, 0)
  | 19 => some (59, 0)
  | 20 => some (60, 0)
  | 21 => some (61, 0)
  | 22 => some (62, 0)
  | 23 => some (63, 0)
  | 24 => some (64, 0)
  | 25 => some (65, 0)
  | 26 => some (66, 0)
  | 27 => some (67, 0)
  | 28 => some (68, 0)
  | 29 => some (69, 0)
  | 30 => some (70, 0)
  | 31 => some (71, 0)
  | 32 => some (72, 0)
  | 35 => some (75, 0)
  | 36 => some (76, 0)
  | _ => none
def fr_P0 (n : Nat) (k r j : Nat) : Option (Nat × Nat) := match k with
  | 0 => fr_r0 r j
  | 1 => if j < n then some (7, j) else none
  | 4 => fr_r4 r j
  | 7 => fr_r7 r j
  | 8 => fr_r8 r j
  | 11 => fr_r11 r j
  | 20 => fr_r20 r j
  | _ => none
def fr_rk (k : Nat) : Nat := match k with
  | 0 => 2
  | 1 => 2
  | 2 => 2
  | 3 => 2
  | 4 => 2
  | 5 => 2
  | 6 => 2
  | 7 => 1
  | 8 => 1
  | 9 => 1
  | 10 => 1
  | 11 => 1
  | 12 => 1
  | 13 => 1
  | 20 => 2
  | 42 => 2
  | 43 => 2
  | 44 => 2
  | 45 => 2
  | 46 => 2
  | 47 => 2
  | 48 => 2
  | 49 => 2
  | 50 => 2
  | 51 => 2
  | 52 => 2
  | 53 => 2
  | 54 => 2
  | 55 => 2
  | 56 => 2
  | 57 => 2
  | 58 => 2
  | 59 => 2
  | 60 => 2
  | 61 => 2
  | 62 => 2
  | 63 => 2
  | 64 => 2
  | 65 => 2
  | 66 => 2
  | 67 => 2
  | 68 => 2
  | 69 => 2
  | 70 => 2
  | 71 => 2
  | 72 => 2
  | 75 => 2
  | 76 => 2
  | _ => 0
def fr_lv (n k r : Nat) : Prop := (fr_rk k = 1 ∧ r < n) ∨ (fr_rk k = 2 ∧ r = 0)
def fr_of (k : Nat) : Nat := match k with
  | 0 => 0
  | 1 => 1
  | 2 => 2
  | 3 => 3
  | 4 => 4
  | 5 => 5
  | 6 => 6
  | 7 => 41
  | 8 => 42
  | 9 => 43
  | 10 => 44
  | 11 => 45
  | 12 => 46
  | 13 => 47
  | 20 => 7
  | 42 => 8
  | 43 => 9
  | 44 => 10
  | 45 => 11
  | 46 => 12
  | 47 => 13
  | 48 => 14
  | 49 => 15
  | 50 => 16
  | 51 => 17
  | 52 => 18
  | 53 => 19
  | 54 => 20
  | 55 => 21
  | 56 => 22
  | 57 => 23
  | 58 => 24
  | 59 => 25
  | 60 => 26
  | 61 => 27
  | 62 => 28
  | 63 => 29
  | 64 => 30
  | 65 => 31
  | 66 => 32
  | 67 => 33
  | 68 => 34
  | 69 => 35
  | 70 => 36
  | 71 => 37
  | 72 => 38
  | 75 => 39
  | 76 => 40
  | _ => 0
end
section
def fr_ws : List Cond := lw_tbl.filter goodWord
theorem fr_in {w : Cond} (h : w ∈ tables_1) (g : goodWord w = true) : w ∈ fr_ws := List.mem_filter.mpr ⟨List.mem_append_right _ h, g⟩
theorem fr_inp {y : MethodName} {n : Nat} (h : (y, n) ∈ lw_privs) : Cond.selects y.cls y y ∈ fr_ws := List.mem_filter.mpr ⟨List.mem_append_left _ (List.mem_map.mpr ⟨(y, n), h, rfl⟩), rfl⟩
theorem fr_good : ∀ w ∈ fr_ws, (w.onTables && w.keeps) = true ∨ ∃ ty, w = .arrayClass ty := fun w h => good_of_word (List.mem_filter.mp h).2
theorem fr_sub : ∀ w ∈ fr_ws, w ∈ lw_tbl := fun w h => (List.mem_filter.mp h).1
abbrev fr_aC : String := R_R
def fr_nw : List (String × Nat × MethodName × String) := [(R_F, 25, y_J_init, R_F), (R_R, 11, y_M_init, R_F), (R_R, 20, y_B_init, R_F)]
def fr_cf (q : vw_C) (ty0 : Nat → FieldType) : Prop := (∀ w ∈ u_ws q.1 q.2.1 q.2.2, w ∈ fr_ws) ∧ (∀ k, k < q.2.2 → parseFieldDescriptor (q.2.1 k).2.2.1 = some (ty0 k)) ∧ (∀ a, a < q.2.2 → ∀ b, b < q.2.2 → a ≠ b → (q.2.1 a).2.1 ≠ (q.2.1 b).2.1)
def fr_fl (own : String) (idx ci j : Nat) (ty : FieldType) (fin : Bool) : Prop := ∃ (q : vw_C) (ty0 : Nat → FieldType), fr_cl[ci]? = some q ∧ fr_cf q ty0 ∧ j < q.2.2 ∧ Cond.fieldLink own idx (q.2.1 j).1 (q.2.1 j).2.1 (q.2.1 j).2.2.1 ∈ fr_ws ∧ ty0 j = ty ∧ (q.2.1 j).2.2.2 = fin ∧ (q.2.1 j).1 = q.1
def fr_mb (own : String) (idx : Nat) (y : MethodName) (b : ByteArray) (n' : Nat) (rt : Option FieldType) (n : Nat) : Prop := Cond.methodLink own idx y ∈ fr_ws ∧ Cond.initialized y.cls ∈ fr_ws ∧ Cond.code y b n' rt ∈ fr_ws ∧ y.cls ≠ "java/lang/invoke/MethodHandle" ∧ y.cls ≠ "java/lang/invoke/VarHandle" ∧ (parseMethodDescriptor y.desc).map (fun d => d.parameters.length) = some n
def fr_mv (own : String) (idx : Nat) (y : MethodName) (b : ByteArray) (n' : Nat) (rt : Option FieldType) (n : Nat) : Prop := fr_mb own idx y b n' rt n ∧ Cond.instanceMethod y ∈ fr_ws ∧ Cond.selects y.cls y y ∈ fr_ws
def fr_ms (own : String) (idx : Nat) (y : MethodName) (b : ByteArray) (n' : Nat) (rt : Option FieldType) (n : Nat) : Prop := fr_mb own idx y b n' rt n ∧ Cond.static y ∈ fr_ws
def fr_mi (own : String) (idx : Nat) (y : MethodName) (b : ByteArray) (n' : Nat) (n : Nat) : Prop := fr_mb own idx y b n' none n ∧ Cond.instanceMethod y ∈ fr_ws ∧ y.name = "<init>"
def fr_mn (own : String) (idx : Nat) (y : MethodName) (host : String) (b : ByteArray) (n' : Nat) (n : Nat) : Prop := (own, idx, y, host) ∈ fr_nw ∧ Cond.initialized y.cls ∈ fr_ws ∧ Cond.code y b n' none ∈ fr_ws ∧ (y.cls ≠ "java/lang/invoke/MethodHandle" ∧ y.cls ≠ "java/lang/invoke/VarHandle" ∧ (parseMethodDescriptor y.desc).map (fun d => d.parameters.length) = some n) ∧ Cond.instanceMethod y ∈ fr_ws ∧ y.name = "<init>"
def fr_nc (own : String) (idx ci : Nat) (q : vw_C) (ty0 : Nat → FieldType) : Prop := Cond.classLink own idx q.1 ∈ fr_ws ∧ Cond.instantiable q.1 q.2.2 ∈ fr_ws ∧ Cond.initialized q.1 ∈ fr_ws ∧ fr_cl[ci]? = some q ∧ fr_cf q ty0
theorem ly_F_0 : u_lay R_F T_F 0 ∈ fr_ws := (fr_in (List.mem_append_left _ (List.mem_of_getElem? (i := 50) (by decide +kernel))) rfl)
theorem ly_F_1 : u_lay R_F T_F 1 ∈ fr_ws := (fr_in (List.mem_append_left _ (List.mem_of_getElem? (i := 52) (by decide +kernel))) rfl)
theorem ly_F_2 : u_lay R_F T_F 2 ∈ fr_ws := (fr_in (List.mem_append_left _ (List.mem_of_getElem? (i := 54) (by decide +kernel))) rfl)
theorem ly_F_3 : u_lay R_F T_F 3 ∈ fr_ws := (fr_in (List.mem_append_left _ (List.mem_of_getElem? (i := 56) (by decide +kernel))) rfl)
theorem ly_F_4 : u_lay R_F T_F 4 ∈ fr_ws := (fr_in (List.mem_append_left _ (List.mem_of_getElem? (i := 58) (by decide +kernel))) rfl)
theorem ly_F_5 : u_lay R_F T_F 5 ∈ fr_ws := (fr_in (List.mem_append_left _ (List.mem_of_getElem? (i := 60) (by decide +kernel))) rfl)
theorem cf_F : fr_cf fr_q0 ty_F := by
  refine ⟨?_, tk_F, nm_F⟩
  show ∀ w ∈ [u_lay R_F T_F 0, u_lay R_F T_F 1, u_lay R_F T_F 2, u_lay R_F T_F 3, u_lay R_F T_F 4, u_lay R_F T_F 5], w ∈ fr_ws
  exact List.forall_mem_cons.mpr ⟨ly_F_0, List.forall_mem_cons.mpr ⟨ly_F_1, List.forall_mem_cons.mpr ⟨ly_F_2, List.forall_mem_cons.mpr ⟨ly_F_3, List.forall_mem_cons.mpr ⟨ly_F_4, List.forall_mem_cons.mpr ⟨ly_F_5, fun _ h => absurd h List.not_mem_nil⟩⟩⟩⟩⟩⟩
theorem ly_J_0 : u_lay R_J T_J 0 ∈ fr_ws := (fr_in (List.mem_append_left _ (List.mem_of_getElem? (i := 33) (by decide +kernel))) rfl)
theorem ly_J_1 : u_lay R_J T_J 1 ∈ fr_ws := (fr_in (List.mem_append_left _ (List.mem_of_getElem? (i := 35) (by decide +kernel))) rfl)
theorem ly_J_2 : u_lay R_J T_J 2 ∈ fr_ws := (fr_in (List.mem_append_left _ (List.mem_of_getElem? (i := 37) (by decide +kernel))) rfl)
theorem ly_J_3 : u_lay R_J T_J 3 ∈ fr_ws := (fr_in (List.mem_append_left _ (List.mem_of_getElem? (i := 39) (by decide +kernel))) rfl)
theorem cf_J : fr_cf fr_q1 ty_J := by
  refine ⟨?_, tk_J, nm_J⟩
  show ∀ w ∈ [u_lay R_J T_J 0, u_lay R_J T_J 1, u_lay R_J T_J 2, u_lay R_J T_J 3], w ∈ fr_ws
  exact List.forall_mem_cons.mpr ⟨ly_J_0, List.forall_mem_cons.mpr ⟨ly_J_1, List.forall_mem_cons.mpr ⟨ly_J_2, List.forall_mem_cons.mpr ⟨ly_J_3, fun _ h => absurd h List.not_mem_nil⟩⟩⟩⟩
theorem ly_R_0 : u_lay R_R T_R 0 ∈ fr_ws := (fr_in (List.mem_append_left _ (List.mem_of_getElem? (i := 211) (by decide +kernel))) rfl)
theorem ly_R_1 : u_lay R_R T_R 1 ∈ fr_ws := (fr_in (List.mem_append_left _ (List.mem_of_getElem? (i := 213) (by decide +kernel))) rfl)
theorem ly_R_2 : u_lay R_R T_R 2 ∈ fr_ws := (fr_in (List.mem_append_left _ (List.mem_of_getElem? (i := 215) (by decide +kernel))) rfl)
theorem ly_R_3 : u_lay R_R T_R 3 ∈ fr_ws := (fr_in (List.mem_append_left _ (List.mem_of_getElem? (i := 217) (by decide +kernel))) rfl)
theorem ly_R_4 : u_lay R_R T_R 4 ∈ fr_ws := (fr_in (List.mem_append_left _ (List.mem_of_getElem? (i := 219) (by decide +kernel))) rfl)
theorem ly_R_5 : u_lay R_R T_R 5 ∈ fr_ws := (fr_in (List.mem_append_left _ (List.mem_of_getElem? (i := 221) (by decide +kernel))) rfl)
theorem ly_R_6 : u_lay R_R T_R 6 ∈ fr_ws := (fr_in (List.mem_append_left _ (List.mem_of_getElem? (i := 223) (by decide +kernel))) rfl)
theorem ly_R_7 : u_lay R_R T_R 7 ∈ fr_ws := (fr_in (List.mem_append_left _ (List.mem_of_getElem? (i := 225) (by decide +kernel))) rfl)
theorem ly_R_8 : u_lay R_R T_R 8 ∈ fr_ws := (fr_in (List.mem_append_left _ (List.mem_of_getElem? (i := 227) (by decide +kernel))) rfl)
theorem cf_R : fr_cf fr_q2 ty_R := by
  refine ⟨?_, tk_R, nm_R⟩
  show ∀ w ∈ [u_lay R_R T_R 0, u_lay R_R T_R 1, u_lay R_R T_R 2, u_lay R_R T_R 3, u_lay R_R T_R 4, u_lay R_R T_R 5, u_lay R_R T_R 6, u_lay R_R T_R 7, u_lay R_R T_R 8], w ∈ fr_ws
  exact List.forall_mem_cons.mpr ⟨ly_R_0, List.forall_mem_cons.mpr ⟨ly_R_1, List.forall_mem_cons.mpr ⟨ly_R_2, List.forall_mem_cons.mpr ⟨ly_R_3, List.forall_mem_cons.mpr ⟨ly_R_4, List.forall_mem_cons.mpr ⟨ly_R_5, List.forall_mem_cons.mpr ⟨ly_R_6, List.forall_mem_cons.mpr ⟨ly_R_7, List.forall_mem_cons.mpr ⟨ly_R_8, fun _ h => absurd h List.not_mem_nil⟩⟩⟩⟩⟩⟩⟩⟩⟩
theorem ly_M_0 : u_lay R_M T_M 0 ∈ fr_ws := (fr_in (List.mem_append_left _ (List.mem_of_getElem? (i := 97) (by decide +kernel))) rfl)
theorem ly_M_1 : u_lay R_M T_M 1 ∈ fr_ws := (fr_in (List.mem_append_left _ (List.mem_of_getElem? (i := 99) (by decide +kernel))) rfl)
theorem ly_M_2 : u_lay R_M T_M 2 ∈ fr_ws := (fr_in (List.mem_append_left _ (List.mem_of_getElem? (i := 101) (by decide +kernel))) rfl)
theorem ly_M_3 : u_lay R_M T_M 3 ∈ fr_ws := (fr_in (List.mem_append_left _ (List.mem_of_getElem? (i := 103) (by decide +kernel))) rfl)
theorem ly_M_4 : u_lay R_M T_M 4 ∈ fr_ws := (fr_in (List.mem_append_left _ (List.mem_of_getElem? (i := 105) (by decide +kernel))) rfl)
theorem ly_M_5 : u_lay R_M T_M 5 ∈ fr_ws := (fr_in (List.mem_append_left _ (List.mem_of_getElem? (i := 107) (by decide +kernel))) rfl)
theorem ly_M_6 : u_lay R_M T_M 6 ∈ fr_ws := (fr_in (List.mem_append_left _ (List.mem_of_getElem? (i := 109) (by decide +kernel))) rfl)
theorem ly_M_7 : u_lay R_M T_M 7 ∈ fr_ws := (fr_in (List.mem_append_left _ (List.mem_of_getElem? (i := 111) (by decide +kernel))) rfl)
theorem cf_M : fr_cf fr_q3 ty_M := by
  refine ⟨?_, tk_M, nm_M⟩
  show ∀ w ∈ [u_lay R_M T_M 0, u_lay R_M T_M 1, u_lay R_M T_M 2, u_lay R_M T_M 3, u_lay R_M T_M 4, u_lay R_M T_M 5, u_lay R_M T_M 6, u_lay R_M T_M 7], w ∈ fr_ws
  exact List.forall_mem_cons.mpr ⟨ly_M_0, List.forall_mem_cons.mpr ⟨ly_M_1, List.forall_mem_cons.mpr ⟨ly_M_2, List.forall_mem_cons.mpr ⟨ly_M_3, List.forall_mem_cons.mpr ⟨ly_M_4, List.forall_mem_cons.mpr ⟨ly_M_5, List.forall_mem_cons.mpr ⟨ly_M_6, List.forall_mem_cons.mpr ⟨ly_M_7, fun _ h => absurd h List.not_mem_nil⟩⟩⟩⟩⟩⟩⟩⟩
theorem ly_B_0 : u_lay R_B T_B 0 ∈ fr_ws := (fr_in (List.mem_append_left _ (List.mem_of_getElem? (i := 137) (by decide +kernel))) rfl)
theorem ly_B_1 : u_lay R_B T_B 1 ∈ fr_ws := (fr_in (List.mem_append_left _ (List.mem_of_getElem? (i := 139) (by decide +kernel))) rfl)
theorem ly_B_2 : u_lay R_B T_B 2 ∈ fr_ws := (fr_in (List.mem_append_left _ (List.mem_of_getElem? (i := 141) (by decide +kernel))) rfl)
theorem ly_B_3 : u_lay R_B T_B 3 ∈ fr_ws := (fr_in (List.mem_append_left _ (List.mem_of_getElem? (i := 143) (by decide +kernel))) rfl)
theorem ly_B_4 : u_lay R_B T_B 4 ∈ fr_ws := (fr_in (List.mem_append_left _ (List.mem_of_getElem? (i := 145) (by decide +kernel))) rfl)
theorem ly_B_5 : u_lay R_B T_B 5 ∈ fr_ws := (fr_in (List.mem_append_left _ (List.mem_of_getElem? (i := 147) (by decide +kernel))) rfl)
theorem ly_B_6 : u_lay R_B T_B 6 ∈ fr_ws := (fr_in (List.mem_append_left _ (List.mem_of_getElem? (i := 149) (by decide +kernel))) rfl)
theorem ly_B_7 : u_lay R_B T_B 7 ∈ fr_ws := (fr_in (List.mem_append_left _ (List.mem_of_getElem? (i := 151) (by decide +kernel))) rfl)
theorem ly_B_8 : u_lay R_B T_B 8 ∈ fr_ws := (fr_in (List.mem_append_left _ (List.mem_of_getElem? (i := 153) (by decide +kernel))) rfl)
theorem ly_B_9 : u_lay R_B T_B 9 ∈ fr_ws := (fr_in (List.mem_append_left _ (List.mem_of_getElem? (i := 155) (by decide +kernel))) rfl)
theorem ly_B_10 : u_lay R_B T_B 10 ∈ fr_ws := (fr_in (List.mem_append_left _ (List.mem_of_getElem? (i := 157) (by decide +kernel))) rfl)
theorem cf_B : fr_cf fr_q4 ty_B := by
  refine ⟨?_, tk_B, nm_B⟩
  show ∀ w ∈ [u_lay R_B T_B 0, u_lay R_B T_B 1, u_lay R_B T_B 2, u_lay R_B T_B 3, u_lay R_B T_B 4, u_lay R_B T_B 5, u_lay R_B T_B 6, u_lay R_B T_B 7, u_lay R_B T_B 8, u_lay R_B T_B 9, u_lay R_B T_B 10], w ∈ fr_ws
  exact List.forall_mem_cons.mpr ⟨ly_B_0, List.forall_mem_cons.mpr ⟨ly_B_1, List.forall_mem_cons.mpr ⟨ly_B_2, List.forall_mem_cons.mpr ⟨ly_B_3, List.forall_mem_cons.mpr ⟨ly_B_4, List.forall_mem_cons.mpr ⟨ly_B_5, List.forall_mem_cons.mpr ⟨ly_B_6, List.forall_mem_cons.mpr ⟨ly_B_7, List.forall_mem_cons.mpr ⟨ly_B_8, List.forall_mem_cons.mpr ⟨ly_B_9, List.forall_mem_cons.mpr ⟨ly_B_10, fun _ h => absurd h List.not_mem_nil⟩⟩⟩⟩⟩⟩⟩⟩⟩⟩⟩
theorem ly_W_0 : u_lay R_W T_W 0 ∈ fr_ws := (fr_in (List.mem_append_left _ (List.mem_of_getElem? (i := 178) (by decide +kernel))) rfl)
theorem ly_W_1 : u_lay R_W T_W 1 ∈ fr_ws := (fr_in (List.mem_append_left _ (List.mem_of_getElem? (i := 180) (by decide +kernel))) rfl)
theorem ly_W_2 : u_lay R_W T_W 2 ∈ fr_ws := (fr_in (List.mem_append_left _ (List.mem_of_getElem? (i := 182) (by decide +kernel))) rfl)
theorem ly_W_3 : u_lay R_W T_W 3 ∈ fr_ws := (fr_in (List.mem_append_left _ (List.mem_of_getElem? (i := 184) (by decide +kernel))) rfl)
theorem ly_W_4 : u_lay R_W T_W 4 ∈ fr_ws := (fr_in (List.mem_append_left _ (List.mem_of_getElem? (i := 186) (by decide +kernel))) rfl)
theorem ly_W_5 : u_lay R_W T_W 5 ∈ fr_ws := (fr_in (List.mem_append_left _ (List.mem_of_getElem? (i := 188) (by decide +kernel))) rfl)
theorem ly_W_6 : u_lay R_W T_W 6 ∈ fr_ws := (fr_in (List.mem_append_left _ (List.mem_of_getElem? (i := 190) (by decide +kernel))) rfl)
theorem ly_W_7 : u_lay R_W T_W 7 ∈ fr_ws := (fr_in (List.mem_append_left _ (List.mem_of_getElem? (i := 192) (by decide +kernel))) rfl)
theorem ly_W_8 : u_lay R_W T_W 8 ∈ fr_ws := (fr_in (List.mem_append_left _ (List.mem_of_getElem? (i := 194) (by decide +kernel))) rfl)
theorem cf_W : fr_cf fr_q5 ty_W := by
  refine ⟨?_, tk_W, nm_W⟩
  show ∀ w ∈ [u_lay R_W T_W 0, u_lay R_W T_W 1, u_lay R_W T_W 2, u_lay R_W T_W 3, u_lay R_W T_W 4, u_lay R_W T_W 5, u_lay R_W T_W 6, u_lay R_W T_W 7, u_lay R_W T_W 8], w ∈ fr_ws
  exact List.forall_mem_cons.mpr ⟨ly_W_0, List.forall_mem_cons.mpr ⟨ly_W_1, List.forall_mem_cons.mpr ⟨ly_W_2, List.forall_mem_cons.mpr ⟨ly_W_3, List.forall_mem_cons.mpr ⟨ly_W_4, List.forall_mem_cons.mpr ⟨ly_W_5, List.forall_mem_cons.mpr ⟨ly_W_6, List.forall_mem_cons.mpr ⟨ly_W_7, List.forall_mem_cons.mpr ⟨ly_W_8, fun _ h => absurd h List.not_mem_nil⟩⟩⟩⟩⟩⟩⟩⟩⟩
theorem ly_O_0 : u_lay R_O T_O 0 ∈ fr_ws := (fr_in (List.mem_append_right _ (List.mem_append_right _ (List.mem_append_left _ (List.mem_of_getElem? (i := 33) (by decide +kernel))))) rfl)
theorem ly_O_1 : u_lay R_O T_O 1 ∈ fr_ws := (fr_in (List.mem_append_right _ (List.mem_append_right _ (List.mem_append_left _ (List.mem_of_getElem? (i := 35) (by decide +kernel))))) rfl)
theorem ly_O_2 : u_lay R_O T_O 2 ∈ fr_ws := (fr_in (List.mem_append_right _ (List.mem_append_right _ (List.mem_append_left _ (List.mem_of_getElem? (i := 37) (by decide +kernel))))) rfl)
theorem ly_O_3 : u_lay R_O T_O 3 ∈ fr_ws := (fr_in (List.mem_append_right _ (List.mem_append_right _ (List.mem_append_left _ (List.mem_of_getElem? (i := 39) (by decide +kernel))))) rfl)
theorem ly_O_4 : u_lay R_O T_O 4 ∈ fr_ws := (fr_in (List.mem_append_right _ (List.mem_append_right _ (List.mem_append_left _ (List.mem_of_getElem? (i := 41) (by decide +kernel))))) rfl)
theorem ly_O_5 : u_lay R_O T_O 5 ∈ fr_ws := (fr_in (List.mem_append_right _ (List.mem_append_right _ (List.mem_append_left _ (List.mem_of_getElem? (i := 43) (by decide +kernel))))) rfl)
theorem ly_O_6 : u_lay R_O T_O 6 ∈ fr_ws := (fr_in (List.mem_append_right _ (List.mem_append_right _ (List.mem_append_left _ (List.mem_of_getElem? (i := 45) (by decide +kernel))))) rfl)
theorem ly_O_7 : u_lay R_O T_O 7 ∈ fr_ws := (fr_in (List.mem_append_right _ (List.mem_append_right _ (List.mem_append_left _ (List.mem_of_getElem? (i := 47) (by decide +kernel))))) rfl)
theorem ly_O_8 : u_lay R_O T_O 8 ∈ fr_ws := (fr_in (List.mem_append_right _ (List.mem_append_right _ (List.mem_append_left _ (List.mem_of_getElem? (i := 49) (by decide +kernel))))) rfl)
theorem ly_O_9 : u_lay R_O T_O 9 ∈ fr_ws := (fr_in (List.mem_append_right _ (List.mem_append_right _ (List.mem_append_left _ (List.mem_of_getElem? (i := 51) (by decide +kernel))))) rfl)
theorem ly_O_10 : u_lay R_O T_O 10 ∈ fr_ws := (fr_in (List.mem_append_right _ (List.mem_append_right _ (List.mem_append_left _ (List.mem_of_getElem? (i := 53) (by decide +kernel))))) rfl)
theorem ly_O_11 : u_lay R_O T_O 11 ∈ fr_ws := (fr_in (List.mem_append_right _ (List.mem_append_right _ (List.mem_append_left _ (List.mem_of_getElem? (i := 55) (by decide +kernel))))) rfl)
theorem ly_O_12 : u_lay R_O T_O 12 ∈ fr_ws := (fr_in (List.mem_append_right _ (List.mem_append_right _ (List.mem_append_left _ (List.mem_of_getElem? (i := 57) (by decide +kernel))))) rfl)
theorem ly_O_13 : u_lay R_O T_O 13 ∈ fr_ws := (fr_in (List.mem_append_right _ (List.mem_append_right _ (List.mem_append_left _ (List.mem_of_getElem? (i := 59) (by decide +kernel))))) rfl)
theorem ly_O_14 : u_lay R_O T_O 14 ∈ fr_ws := (fr_in (List.mem_append_right _ (List.mem_append_right _ (List.mem_append_left _ (List.mem_of_getElem? (i := 61) (by decide +kernel))))) rfl)
theorem ly_O_15 : u_lay R_O T_O 15 ∈ fr_ws := (fr_in (List.mem_append_right _ (List.mem_append_right _ (List.mem_append_left _ (List.mem_of_getElem? (i := 63) (by decide +kernel))))) rfl)
theorem ly_O_16 : u_lay R_O T_O 16 ∈ fr_ws := (fr_in (List.mem_append_right _ (List.mem_append_right _ (List.mem_append_left _ (List.mem_of_getElem? (i := 65) (by decide +kernel))))) rfl)
theorem ly_O_17 : u_lay R_O T_O 17 ∈ fr_ws := (fr_in (List.mem_append_right _ (List.mem_append_right _ (List.mem_append_left _ (List.mem_of_getElem? (i := 67) (by decide +kernel))))) rfl)
theorem ly_O_18 : u_lay R_O T_O 18 ∈ fr_ws := (fr_in (List.mem_append_right _ (List.mem_append_right _ (List.mem_append_left _ (List.mem_of_getElem? (i := 69) (by decide +kernel))))) rfl)
theorem ly_O_19 : u_lay R_O T_O 19 ∈ fr_ws := (fr_in (List.mem_append_right _ (List.mem_append_right _ (List.mem_append_left _ (List.mem_of_getElem? (i := 71) (by decide +kernel))))) rfl)
theorem ly_O_20 : u_lay R_O T_O 20 ∈ fr_ws := (fr_in (List.mem_append_right _ (List.mem_append_right _ (List.mem_append_left _ (List.mem_of_getElem? (i := 73) (by decide +kernel))))) rfl)
theorem ly_O_21 : u_lay R_O T_O 21 ∈ fr_ws := (fr_in (List.mem_append_right _ (List.mem_append_right _ (List.mem_append_left _ (List.mem_of_getElem? (i := 75) (by decide +kernel))))) rfl)
theorem ly_O_22 : u_lay R_O T_O 22 ∈ fr_ws := (fr_in (List.mem_append_right _ (List.mem_append_right _ (List.mem_append_left _ (List.mem_of_getElem? (i := 77) (by decide +kernel))))) rfl)
theorem ly_O_23 : u_lay R_O T_O 23 ∈ fr_ws := (fr_in (List.mem_append_right _ (List.mem_append_right _ (List.mem_append_left _ (List.mem_of_getElem? (i := 79) (by decide +kernel))))) rfl)
theorem ly_O_24 : u_lay R_O T_O 24 ∈ fr_ws := (fr_in (List.mem_append_right _ (List.mem_append_right _ (List.mem_append_left _ (List.mem_of_getElem? (i := 81) (by decide +kernel))))) rfl)
theorem ly_O_25 : u_lay R_O T_O 25 ∈ fr_ws := (fr_in (List.mem_append_right _ (List.mem_append_right _ (List.mem_append_left _ (List.mem_of_getElem? (i := 83) (by decide +kernel))))) rfl)
theorem ly_O_26 : u_lay R_O T_O 26 ∈ fr_ws := (fr_in (List.mem_append_right _ (List.mem_append_right _ (List.mem_append_left _ (List.mem_of_getElem? (i := 85) (by decide +kernel))))) rfl)
theorem ly_O_27 : u_lay R_O T_O 27 ∈ fr_ws := (fr_in (List.mem_append_right _ (List.mem_append_right _ (List.mem_append_left _ (List.mem_of_getElem? (i := 87) (by decide +kernel))))) rfl)
theorem ly_O_28 : u_lay R_O T_O 28 ∈ fr_ws := (fr_in (List.mem_append_right _ (List.mem_append_right _ (List.mem_append_left _ (List.mem_of_getElem? (i := 89) (by decide +kernel))))) rfl)
theorem ly_O_29 : u_lay R_O T_O 29 ∈ fr_ws := (fr_in (List.mem_append_right _ (List.mem_append_right _ (List.mem_append_left _ (List.mem_of_getElem? (i := 91) (by decide +kernel))))) rfl)
theorem ly_O_30 : u_lay R_O T_O 30 ∈ fr_ws := (fr_in (List.mem_append_right _ (List.mem_append_right _ (List.mem_append_left _ (List.mem_of_getElem? (i := 93) (by decide +kernel))))) rfl)
theorem ly_O_31 : u_lay R_O T_O 31 ∈ fr_ws := (fr_in (List.mem_append_right _ (List.mem_append_right _ (List.mem_append_left _ (List.mem_of_getElem? (i := 95) (by decide +kernel))))) rfl)
theorem ly_O_32 : u_lay R_O T_O 32 ∈ fr_ws := (fr_in (List.mem_append_right _ (List.mem_append_right _ (List.mem_append_left _ (List.mem_of_getElem? (i := 97) (by decide +kernel))))) rfl)
theorem ly_O_33 : u_lay R_O T_O 33 ∈ fr_ws := (fr_in (List.mem_append_right _ (List.mem_append_right _ (List.mem_append_left _ (List.mem_of_getElem? (i := 99) (by decide +kernel))))) rfl)
theorem ly_O_34 : u_lay R_O T_O 34 ∈ fr_ws := (fr_in (List.mem_append_right _ (List.mem_append_right _ (List.mem_append_left _ (List.mem_of_getElem? (i := 101) (by decide +kernel))))) rfl)
theorem ly_O_35 : u_lay R_O T_O 35 ∈ fr_ws := (fr_in (List.mem_append_right _ (List.mem_append_right _ (List.mem_append_left _ (List.mem_of_getElem? (i := 103) (by decide +kernel))))) rfl)
theorem ly_O_36 : u_lay R_O T_O 36 ∈ fr_ws := (fr_in (List.mem_append_right _ (List.mem_append_right _ (List.mem_append_left _ (List.mem_of_getElem? (i := 105) (by decide +kernel))))) rfl)
theorem cf_O : fr_cf fr_q6 ty_O := by
  refine ⟨?_, tk_O, nm_O⟩
  show ∀ w ∈ [u_lay R_O T_O 0, u_lay R_O T_O 1, u_lay R_O T_O 2, u_lay R_O T_O 3, u_lay R_O T_O 4, u_lay R_O T_O 5, u_lay R_O T_O 6, u_lay R_O T_O 7, u_lay R_O T_O 8, u_lay R_O T_O 9, u_lay R_O T_O 10, u_lay R_O T_O 11, u_lay R_O T_O 12, u_lay R_O T_O 13, u_lay R_O T_O 14, u_lay R_O T_O 15, u_lay R_O T_O 16, u_lay R_O T_O 17, u_lay R_O T_O 18, u_lay R_O T_O 19, u_lay R_O T_O 20, u_lay R_O T_O 21, u_lay R_O T_O 22, u_lay R_O T_O 23, u_lay R_O T_O 24, u_lay R_O T_O 25, u_lay R_O T_O 26, u_lay R_O T_O 27, u_lay R_O T_O 28, u_lay R_O T_O 29, u_lay R_O T_O 30, u_lay R_O T_O 31, u_lay R_O T_O 32, u_lay R_O T_O 33, u_lay R_O T_O 34, u_lay R_O T_O 35, u_lay R_O T_O 36], w ∈ fr_ws
  exact List.forall_mem_cons.mpr ⟨ly_O_0, List.forall_mem_cons.mpr ⟨ly_O_1, List.forall_mem_cons.mpr ⟨ly_O_2, List.forall_mem_cons.mpr ⟨ly_O_3, List.forall_mem_cons.mpr ⟨ly_O_4, List.forall_mem_cons.mpr ⟨ly_O_5, List.forall_mem_cons.mpr ⟨ly_O_6, List.forall_mem_cons.mpr ⟨ly_O_7, List.forall_mem_cons.mpr ⟨ly_O_8, List.forall_mem_cons.mpr ⟨ly_O_9, List.forall_mem_cons.mpr ⟨ly_O_10, List.forall_mem_cons.mpr ⟨ly_O_11, List.forall_mem_cons.mpr ⟨ly_O_12, List.forall_mem_cons.mpr ⟨ly_O_13, List.forall_mem_cons.mpr ⟨ly_O_14, List.forall_mem_cons.mpr ⟨ly_O_15, List.forall_mem_cons.mpr ⟨ly_O_16, List.forall_mem_cons.mpr ⟨ly_O_17, List.forall_mem_cons.mpr ⟨ly_O_18, List.forall_mem_cons.mpr ⟨ly_O_19, List.forall_mem_cons.mpr ⟨ly_O_20, List.forall_mem_cons.mpr ⟨ly_O_21, List.forall_mem_cons.mpr ⟨ly_O_22, List.forall_mem_cons.mpr ⟨ly_O_23, List.forall_mem_cons.mpr ⟨ly_O_24, List.forall_mem_cons.mpr ⟨ly_O_25, List.forall_mem_cons.mpr ⟨ly_O_26, List.forall_mem_cons.mpr ⟨ly_O_27, List.forall_mem_cons.mpr ⟨ly_O_28, List.forall_mem_cons.mpr ⟨ly_O_29, List.forall_mem_cons.mpr ⟨ly_O_30, List.forall_mem_cons.mpr ⟨ly_O_31, List.forall_mem_cons.mpr ⟨ly_O_32, List.forall_mem_cons.mpr ⟨ly_O_33, List.forall_mem_cons.mpr ⟨ly_O_34, List.forall_mem_cons.mpr ⟨ly_O_35, List.forall_mem_cons.mpr ⟨ly_O_36, fun _ h => absurd h List.not_mem_nil⟩⟩⟩⟩⟩⟩⟩⟩⟩⟩⟩⟩⟩⟩⟩⟩⟩⟩⟩⟩⟩⟩⟩⟩⟩⟩⟩⟩⟩⟩⟩⟩⟩⟩⟩⟩⟩
theorem mw_min1 : Cond.static Lib.Math.min.name ∈ fr_ws := (fr_in (List.mem_append_right _ (List.mem_append_left _ (List.mem_of_getElem? (i := 110) (by decide +kernel)))) rfl)
theorem mw_min2 : Cond.initialized "java/lang/Math" ∈ fr_ws := (fr_in (List.mem_append_left _ (List.mem_of_getElem? (i := 8) (by decide +kernel))) rfl)
theorem mw_min3 : Cond.code Lib.Math.min.name Lib.Math.min.code 2 (some .int) ∈ fr_ws := (fr_in (List.mem_append_right _ (List.mem_append_left _ (List.mem_of_getElem? (i := 111) rfl))) rfl)
theorem mw_oi1 : Cond.instanceMethod objectInit ∈ fr_ws := (fr_in (List.mem_append_left _ (List.mem_of_getElem? (i := 16) (by decide +kernel))) rfl)
theorem mw_oi2 : Cond.code objectInit ⟨#[0xb1]⟩ 1 none ∈ fr_ws := (fr_in (List.mem_append_left _ (List.mem_of_getElem? (i := 17) rfl)) rfl)
theorem mw_aint : Cond.arrayClass .int ∈ fr_ws := (fr_in (List.mem_append_left _ (List.mem_of_getElem? (i := 42) (by decide +kernel))) rfl)
theorem mw_aboolean : Cond.arrayClass .boolean ∈ fr_ws := (fr_in (List.mem_append_left _ (List.mem_of_getElem? (i := 43) (by decide +kernel))) rfl)
theorem mw_along : Cond.arrayClass .long ∈ fr_ws := (fr_in (List.mem_append_right _ (List.mem_append_right _ (List.mem_append_left _ (List.mem_of_getElem? (i := 108) (by decide +kernel))))) rfl)
theorem ml_F_1 : Cond.methodLink R_F 1 objectInit ∈ fr_ws := (fr_in (List.mem_append_left _ (List.mem_of_getElem? (i := 15) (by decide +kernel))) rfl)
theorem na_F_9 : Cond.classLink R_F 9 fr_aC ∈ fr_ws := (fr_in (List.mem_append_left _ (List.mem_of_getElem? (i := 18) (by decide +kernel))) rfl)
theorem fl_F_11 : fr_fl R_F 11 0 0 (.array (.object "FeederRelays$Relay")) true := ⟨fr_q0, ty_F, rfl, cf_F, by decide, (fr_in (List.mem_append_left _ (List.mem_of_getElem? (i := 44) (by decide +kernel))) rfl), rfl, rfl, rfl⟩
theorem fl_F_15 : fr_fl R_F 15 0 1 (.array .int) true := ⟨fr_q0, ty_F, rfl, cf_F, by decide, (fr_in (List.mem_append_left _ (List.mem_of_getElem? (i := 45) (by decide +kernel))) rfl), rfl, rfl, rfl⟩
theorem fl_F_19 : fr_fl R_F 19 0 2 (.array .boolean) true := ⟨fr_q0, ty_F, rfl, cf_F, by decide, (fr_in (List.mem_append_left _ (List.mem_of_getElem? (i := 46) (by decide +kernel))) rfl), rfl, rfl, rfl⟩
theorem wi_0 : Cond.initialized "FeederRelays$Journal" ∈ fr_ws := (fr_in (List.mem_append_left _ (List.mem_of_getElem? (i := 2) (by decide +kernel))) rfl)
theorem nc_F_23 : fr_nc R_F 23 1 fr_q1 ty_J := ⟨(fr_in (List.mem_append_left _ (List.mem_of_getElem? (i := 20) (by decide +kernel))) rfl), (fr_in (List.mem_append_left _ (List.mem_of_getElem? (i := 21) (by decide +kernel))) rfl), wi_0, rfl, cf_J⟩
theorem wc_J_init : Cond.code y_J_init c_J_init 1 none ∈ fr_ws := (fr_in (List.mem_append_left _ (List.mem_of_getElem? (i := 24) rfl)) rfl)
theorem wn_J_init : Cond.instanceMethod y_J_init ∈ fr_ws := (fr_in (List.mem_append_left _ (List.mem_of_getElem? (i := 23) (by decide +kernel))) rfl)
theorem mn_F_25 : fr_mn R_F 25 y_J_init R_F c_J_init 1 0 := ⟨List.mem_of_getElem? (i := 0) rfl, wi_0, wc_J_init, ⟨by decide, by decide, by decide +kernel⟩, wn_J_init, rfl⟩
theorem fl_F_26 : fr_fl R_F 26 0 3 (.object "FeederRelays$Journal") true := ⟨fr_q0, ty_F, rfl, cf_F, by decide, (fr_in (List.mem_append_left _ (List.mem_of_getElem? (i := 47) (by decide +kernel))) rfl), rfl, rfl, rfl⟩
theorem fl_F_30 : fr_fl R_F 30 0 4 .int false := ⟨fr_q0, ty_F, rfl, cf_F, by decide, (fr_in (List.mem_append_left _ (List.mem_of_getElem? (i := 48) (by decide +kernel))) rfl), rfl, rfl, rfl⟩
theorem fl_F_34 : fr_fl R_F 34 0 5 .int false := ⟨fr_q0, ty_F, rfl, cf_F, by decide, (fr_in (List.mem_append_left _ (List.mem_of_getElem? (i := 49) (by decide +kernel))) rfl), rfl, rfl, rfl⟩
theorem wi_1 : Cond.initialized "FeederRelays" ∈ fr_ws := (fr_in (List.mem_append_left _ (List.mem_of_getElem? (i := 1) (by decide +kernel))) rfl)
theorem wc_F_isPlaceFor : Cond.code y_F_isPlaceFor c_F_isPlaceFor 2 (some .boolean) ∈ fr_ws := (fr_in (List.mem_append_left _ (List.mem_of_getElem? (i := 70) rfl)) rfl)
theorem wn_F_isPlaceFor : Cond.instanceMethod y_F_isPlaceFor ∈ fr_ws := (fr_in (List.mem_append_left _ (List.mem_of_getElem? (i := 69) (by decide +kernel))) rfl)
theorem wl_F_isPlaceFor : Cond.selects y_F_isPlaceFor.cls y_F_isPlaceFor y_F_isPlaceFor ∈ fr_ws := fr_inp (y := y_F_isPlaceFor) (n := 6) (List.mem_append_left _ (List.mem_of_getElem? (i := 0) rfl))
theorem mv_F_37 : fr_mv R_F 37 y_F_isPlaceFor c_F_isPlaceFor 2 (some .boolean) 1 := ⟨⟨(fr_in (List.mem_append_left _ (List.mem_of_getElem? (i := 67) (by decide +kernel))) rfl), wi_1, wc_F_isPlaceFor, by decide, by decide, by decide +kernel⟩, wn_F_isPlaceFor, wl_F_isPlaceFor⟩
theorem wi_2 : Cond.initialized "FeederRelays$Relay" ∈ fr_ws := (fr_in (List.mem_append_left _ (List.mem_of_getElem? (i := 4) (by decide +kernel))) rfl)
theorem wc_R_init : Cond.code y_R_init c_R_init 2 none ∈ fr_ws := (fr_in (List.mem_append_left _ (List.mem_of_getElem? (i := 78) rfl)) rfl)
theorem wn_R_init : Cond.instanceMethod y_R_init ∈ fr_ws := (fr_in (List.mem_append_left _ (List.mem_of_getElem? (i := 77) (by decide +kernel))) rfl)
theorem mi_F_41 : fr_mi R_F 41 y_R_init c_R_init 2 1 := ⟨⟨(fr_in (List.mem_append_left _ (List.mem_of_getElem? (i := 76) (by decide +kernel))) rfl), wi_2, wc_R_init, by decide, by decide, by decide +kernel⟩, wn_R_init, rfl⟩
theorem wc_F_isRelay : Cond.code y_F_isRelay c_F_isRelay 2 (some .boolean) ∈ fr_ws := (fr_in (List.mem_append_left _ (List.mem_of_getElem? (i := 74) rfl)) rfl)
theorem wn_F_isRelay : Cond.instanceMethod y_F_isRelay ∈ fr_ws := (fr_in (List.mem_append_left _ (List.mem_of_getElem? (i := 73) (by decide +kernel))) rfl)
theorem wl_F_isRelay : Cond.selects y_F_isRelay.cls y_F_isRelay y_F_isRelay ∈ fr_ws := fr_inp (y := y_F_isRelay) (n := 6) (List.mem_append_left _ (List.mem_of_getElem? (i := 1) rfl))
theorem mv_F_44 : fr_mv R_F 44 y_F_isRelay c_F_isRelay 2 (some .boolean) 1 := ⟨⟨(fr_in (List.mem_append_left _ (List.mem_of_getElem? (i := 71) (by decide +kernel))) rfl), wi_1, wc_F_isRelay, by decide, by decide, by decide +kernel⟩, wn_F_isRelay, wl_F_isRelay⟩
theorem wc_F_isWithin : Cond.code y_F_isWithin c_F_isWithin 3 (some .boolean) ∈ fr_ws := (fr_in (List.mem_append_left _ (List.mem_of_getElem? (i := 236) rfl)) rfl)
theorem ms_F_47 : fr_ms R_F 47 y_F_isWithin c_F_isWithin 3 (some .boolean) 3 := ⟨⟨(fr_in (List.mem_append_left _ (List.mem_of_getElem? (i := 234) (by decide +kernel))) rfl), wi_1, wc_F_isWithin, by decide, by decide, by decide +kernel⟩, (fr_in (List.mem_append_left _ (List.mem_of_getElem? (i := 235) (by decide +kernel))) rfl)⟩
theorem fl_F_51 : fr_fl R_F 51 2 1 (.object "FeederRelays$Meter") true := ⟨fr_q2, ty_R, rfl, cf_R, by decide, (fr_in (List.mem_append_left _ (List.mem_of_getElem? (i := 200) (by decide +kernel))) rfl), rfl, rfl, rfl⟩
theorem wi_3 : Cond.initialized "FeederRelays$Meter" ∈ fr_ws := (fr_in (List.mem_append_left _ (List.mem_of_getElem? (i := 5) (by decide +kernel))) rfl)
theorem wc_M_set : Cond.code y_M_set c_M_set 4 none ∈ fr_ws := (fr_in (List.mem_append_right _ (List.mem_append_left _ (List.mem_of_getElem? (i := 0) rfl))) rfl)
theorem wn_M_set : Cond.instanceMethod y_M_set ∈ fr_ws := (fr_in (List.mem_append_left _ (List.mem_of_getElem? (i := 238) (by decide +kernel))) rfl)
theorem wl_M_set : Cond.selects y_M_set.cls y_M_set y_M_set ∈ fr_ws := (fr_in (List.mem_append_left _ (List.mem_of_getElem? (i := 239) (by decide +kernel))) rfl)
theorem mv_F_55 : fr_mv R_F 55 y_M_set c_M_set 4 none 3 := ⟨⟨(fr_in (List.mem_append_left _ (List.mem_of_getElem? (i := 237) (by decide +kernel))) rfl), wi_3, wc_M_set, by decide, by decide, by decide +kernel⟩, wn_M_set, wl_M_set⟩
theorem fl_F_61 : fr_fl R_F 61 2 4 .boolean false := ⟨fr_q2, ty_R, rfl, cf_R, by decide, (fr_in (List.mem_append_left _ (List.mem_of_getElem? (i := 205) (by decide +kernel))) rfl), rfl, rfl, rfl⟩
theorem fl_F_65 : fr_fl R_F 65 2 5 .int false := ⟨fr_q2, ty_R, rfl, cf_R, by decide, (fr_in (List.mem_append_left _ (List.mem_of_getElem? (i := 206) (by decide +kernel))) rfl), rfl, rfl, rfl⟩
theorem fl_F_68 : fr_fl R_F 68 2 6 .int false := ⟨fr_q2, ty_R, rfl, cf_R, by decide, (fr_in (List.mem_append_left _ (List.mem_of_getElem? (i := 208) (by decide +kernel))) rfl), rfl, rfl, rfl⟩
theorem fl_F_71 : fr_fl R_F 71 2 7 .int false := ⟨fr_q2, ty_R, rfl, cf_R, by decide, (fr_in (List.mem_append_left _ (List.mem_of_getElem? (i := 209) (by decide +kernel))) rfl), rfl, rfl, rfl⟩
theorem fl_F_74 : fr_fl R_F 74 2 8 .int false := ⟨fr_q2, ty_R, rfl, cf_R, by decide, (fr_in (List.mem_append_left _ (List.mem_of_getElem? (i := 210) (by decide +kernel))) rfl), rfl, rfl, rfl⟩
theorem fl_F_77 : fr_fl R_F 77 2 2 (.object "FeederRelays$Breaker") true := ⟨fr_q2, ty_R, rfl, cf_R, by decide, (fr_in (List.mem_append_left _ (List.mem_of_getElem? (i := 202) (by decide +kernel))) rfl), rfl, rfl, rfl⟩
theorem fl_F_81 : fr_fl R_F 81 4 1 .boolean false := ⟨fr_q4, ty_B, rfl, cf_B, by decide, (fr_in (List.mem_append_left _ (List.mem_of_getElem? (i := 123) (by decide +kernel))) rfl), rfl, rfl, rfl⟩
theorem fl_F_86 : fr_fl R_F 86 2 3 (.object "FeederRelays$Wire") true := ⟨fr_q2, ty_R, rfl, cf_R, by decide, (fr_in (List.mem_append_left _ (List.mem_of_getElem? (i := 204) (by decide +kernel))) rfl), rfl, rfl, rfl⟩
theorem fl_F_90 : fr_fl R_F 90 5 3 .int false := ⟨fr_q5, ty_W, rfl, cf_W, by decide, (fr_in (List.mem_append_left _ (List.mem_of_getElem? (i := 170) (by decide +kernel))) rfl), rfl, rfl, rfl⟩
theorem fl_F_95 : fr_fl R_F 95 4 0 .boolean false := ⟨fr_q4, ty_B, rfl, cf_B, by decide, (fr_in (List.mem_append_left _ (List.mem_of_getElem? (i := 121) (by decide +kernel))) rfl), rfl, rfl, rfl⟩
theorem wi_4 : Cond.initialized "FeederRelays$Breaker" ∈ fr_ws := (fr_in (List.mem_append_left _ (List.mem_of_getElem? (i := 6) (by decide +kernel))) rfl)
theorem wc_B_forget : Cond.code y_B_forget c_B_forget 1 none ∈ fr_ws := (fr_in (List.mem_append_right _ (List.mem_append_left _ (List.mem_of_getElem? (i := 28) rfl))) rfl)
theorem wn_B_forget : Cond.instanceMethod y_B_forget ∈ fr_ws := (fr_in (List.mem_append_right _ (List.mem_append_left _ (List.mem_of_getElem? (i := 26) (by decide +kernel)))) rfl)
theorem wl_B_forget : Cond.selects y_B_forget.cls y_B_forget y_B_forget ∈ fr_ws := (fr_in (List.mem_append_right _ (List.mem_append_left _ (List.mem_of_getElem? (i := 27) (by decide +kernel)))) rfl)
theorem mv_F_98 : fr_mv R_F 98 y_B_forget c_B_forget 1 none 0 := ⟨⟨(fr_in (List.mem_append_right _ (List.mem_append_left _ (List.mem_of_getElem? (i := 25) (by decide +kernel)))) rfl), wi_4, wc_B_forget, by decide, by decide, by decide +kernel⟩, wn_B_forget, wl_B_forget⟩
theorem wc_F_tick : Cond.code y_F_tick c_F_tick 2 none ∈ fr_ws := (fr_in (List.mem_append_right _ (List.mem_append_left _ (List.mem_of_getElem? (i := 36) rfl))) rfl)
theorem wn_F_tick : Cond.instanceMethod y_F_tick ∈ fr_ws := (fr_in (List.mem_append_right _ (List.mem_append_left _ (List.mem_of_getElem? (i := 35) (by decide +kernel)))) rfl)
theorem wl_F_tick : Cond.selects y_F_tick.cls y_F_tick y_F_tick ∈ fr_ws := fr_inp (y := y_F_tick) (n := 6) (List.mem_append_left _ (List.mem_of_getElem? (i := 2) rfl))
theorem mv_F_101 : fr_mv R_F 101 y_F_tick c_F_tick 2 none 0 := ⟨⟨(fr_in (List.mem_append_right _ (List.mem_append_left _ (List.mem_of_getElem? (i := 33) (by decide +kernel)))) rfl), wi_1, wc_F_tick, by decide, by decide, by decide +kernel⟩, wn_F_tick, wl_F_tick⟩
theorem wc_M_forget : Cond.code y_M_forget c_M_forget 1 none ∈ fr_ws := (fr_in (List.mem_append_right _ (List.mem_append_left _ (List.mem_of_getElem? (i := 164) rfl))) rfl)
theorem wn_M_forget : Cond.instanceMethod y_M_forget ∈ fr_ws := (fr_in (List.mem_append_right _ (List.mem_append_left _ (List.mem_of_getElem? (i := 162) (by decide +kernel)))) rfl)
theorem wl_M_forget : Cond.selects y_M_forget.cls y_M_forget y_M_forget ∈ fr_ws := (fr_in (List.mem_append_right _ (List.mem_append_left _ (List.mem_of_getElem? (i := 163) (by decide +kernel)))) rfl)
theorem mv_F_104 : fr_mv R_F 104 y_M_forget c_M_forget 1 none 0 := ⟨⟨(fr_in (List.mem_append_right _ (List.mem_append_left _ (List.mem_of_getElem? (i := 161) (by decide +kernel)))) rfl), wi_3, wc_M_forget, by decide, by decide, by decide +kernel⟩, wn_M_forget, wl_M_forget⟩
theorem wi_5 : Cond.initialized "FeederRelays$Wire" ∈ fr_ws := (fr_in (List.mem_append_left _ (List.mem_of_getElem? (i := 7) (by decide +kernel))) rfl)
theorem wc_W_forget : Cond.code y_W_forget c_W_forget 1 none ∈ fr_ws := (fr_in (List.mem_append_right _ (List.mem_append_left _ (List.mem_of_getElem? (i := 171) rfl))) rfl)
theorem wn_W_forget : Cond.instanceMethod y_W_forget ∈ fr_ws := (fr_in (List.mem_append_right _ (List.mem_append_left _ (List.mem_of_getElem? (i := 169) (by decide +kernel)))) rfl)
theorem wl_W_forget : Cond.selects y_W_forget.cls y_W_forget y_W_forget ∈ fr_ws := (fr_in (List.mem_append_right _ (List.mem_append_left _ (List.mem_of_getElem? (i := 170) (by decide +kernel)))) rfl)
theorem mv_F_105 : fr_mv R_F 105 y_W_forget c_W_forget 1 none 0 := ⟨⟨(fr_in (List.mem_append_right _ (List.mem_append_left _ (List.mem_of_getElem? (i := 168) (by decide +kernel)))) rfl), wi_5, wc_W_forget, by decide, by decide, by decide +kernel⟩, wn_W_forget, wl_W_forget⟩
theorem wc_J_dropUnstored : Cond.code y_J_dropUnstored c_J_dropUnstored 2 (some .int) ∈ fr_ws := (fr_in (List.mem_append_right _ (List.mem_append_left _ (List.mem_of_getElem? (i := 176) rfl))) rfl)
theorem wn_J_dropUnstored : Cond.instanceMethod y_J_dropUnstored ∈ fr_ws := (fr_in (List.mem_append_right _ (List.mem_append_left _ (List.mem_of_getElem? (i := 174) (by decide +kernel)))) rfl)
theorem wl_J_dropUnstored : Cond.selects y_J_dropUnstored.cls y_J_dropUnstored y_J_dropUnstored ∈ fr_ws := (fr_in (List.mem_append_right _ (List.mem_append_left _ (List.mem_of_getElem? (i := 175) (by decide +kernel)))) rfl)
theorem mv_F_106 : fr_mv R_F 106 y_J_dropUnstored c_J_dropUnstored 2 (some .int) 0 := ⟨⟨(fr_in (List.mem_append_right _ (List.mem_append_left _ (List.mem_of_getElem? (i := 173) (by decide +kernel)))) rfl), wi_0, wc_J_dropUnstored, by decide, by decide, by decide +kernel⟩, wn_J_dropUnstored, wl_J_dropUnstored⟩
theorem wc_F_findFlows : Cond.code y_F_findFlows c_F_findFlows 3 none ∈ fr_ws := (fr_in (List.mem_append_right _ (List.mem_append_left _ (List.mem_of_getElem? (i := 90) rfl))) rfl)
theorem wn_F_findFlows : Cond.instanceMethod y_F_findFlows ∈ fr_ws := (fr_in (List.mem_append_right _ (List.mem_append_left _ (List.mem_of_getElem? (i := 89) (by decide +kernel)))) rfl)
theorem wl_F_findFlows : Cond.selects y_F_findFlows.cls y_F_findFlows y_F_findFlows ∈ fr_ws := fr_inp (y := y_F_findFlows) (n := 6) (List.mem_append_left _ (List.mem_of_getElem? (i := 6) rfl))
theorem mv_F_110 : fr_mv R_F 110 y_F_findFlows c_F_findFlows 3 none 0 := ⟨⟨(fr_in (List.mem_append_right _ (List.mem_append_left _ (List.mem_of_getElem? (i := 87) (by decide +kernel)))) rfl), wi_1, wc_F_findFlows, by decide, by decide, by decide +kernel⟩, wn_F_findFlows, wl_F_findFlows⟩
theorem wc_B_bits : Cond.code y_B_bits c_B_bits 2 (some .int) ∈ fr_ws := (fr_in (List.mem_append_right _ (List.mem_append_left _ (List.mem_of_getElem? (i := 192) rfl))) rfl)
theorem wn_B_bits : Cond.instanceMethod y_B_bits ∈ fr_ws := (fr_in (List.mem_append_right _ (List.mem_append_left _ (List.mem_of_getElem? (i := 190) (by decide +kernel)))) rfl)
theorem wl_B_bits : Cond.selects y_B_bits.cls y_B_bits y_B_bits ∈ fr_ws := (fr_in (List.mem_append_right _ (List.mem_append_left _ (List.mem_of_getElem? (i := 191) (by decide +kernel)))) rfl)
theorem mv_F_113 : fr_mv R_F 113 y_B_bits c_B_bits 2 (some .int) 0 := ⟨⟨(fr_in (List.mem_append_right _ (List.mem_append_left _ (List.mem_of_getElem? (i := 189) (by decide +kernel)))) rfl), wi_4, wc_B_bits, by decide, by decide, by decide +kernel⟩, wn_B_bits, wl_B_bits⟩
theorem fl_F_116 : fr_fl R_F 116 3 6 .boolean false := ⟨fr_q3, ty_M, rfl, cf_M, by decide, (fr_in (List.mem_append_left _ (List.mem_of_getElem? (i := 94) (by decide +kernel))) rfl), rfl, rfl, rfl⟩
theorem wc_F_isBlocked : Cond.code y_F_isBlocked c_F_isBlocked 3 (some .boolean) ∈ fr_ws := (fr_in (List.mem_append_right _ (List.mem_append_left _ (List.mem_of_getElem? (i := 135) rfl))) rfl)
theorem wn_F_isBlocked : Cond.instanceMethod y_F_isBlocked ∈ fr_ws := (fr_in (List.mem_append_right _ (List.mem_append_left _ (List.mem_of_getElem? (i := 134) (by decide +kernel)))) rfl)
theorem wl_F_isBlocked : Cond.selects y_F_isBlocked.cls y_F_isBlocked y_F_isBlocked ∈ fr_ws := fr_inp (y := y_F_isBlocked) (n := 6) (List.mem_append_left _ (List.mem_of_getElem? (i := 12) rfl))
theorem mv_F_119 : fr_mv R_F 119 y_F_isBlocked c_F_isBlocked 3 (some .boolean) 1 := ⟨⟨(fr_in (List.mem_append_right _ (List.mem_append_left _ (List.mem_of_getElem? (i := 132) (by decide +kernel)))) rfl), wi_1, wc_F_isBlocked, by decide, by decide, by decide +kernel⟩, wn_F_isBlocked, wl_F_isBlocked⟩
theorem fl_F_122 : fr_fl R_F 122 3 7 .long false := ⟨fr_q3, ty_M, rfl, cf_M, by decide, (fr_in (List.mem_append_left _ (List.mem_of_getElem? (i := 96) (by decide +kernel))) rfl), rfl, rfl, rfl⟩
theorem lc_F_126 : Cond.constantLong R_F 126 (-1) ∈ fr_ws := (fr_in (List.mem_append_right _ (List.mem_append_left _ (List.mem_of_getElem? (i := 197) (by decide +kernel)))) rfl)
theorem fl_F_128 : fr_fl R_F 128 4 5 .int false := ⟨fr_q4, ty_B, rfl, cf_B, by decide, (fr_in (List.mem_append_left _ (List.mem_of_getElem? (i := 131) (by decide +kernel))) rfl), rfl, rfl, rfl⟩
theorem fl_F_131 : fr_fl R_F 131 5 4 .int false := ⟨fr_q5, ty_W, rfl, cf_W, by decide, (fr_in (List.mem_append_left _ (List.mem_of_getElem? (i := 172) (by decide +kernel))) rfl), rfl, rfl, rfl⟩
theorem fl_F_134 : fr_fl R_F 134 2 0 .int true := ⟨fr_q2, ty_R, rfl, cf_R, by decide, (fr_in (List.mem_append_left _ (List.mem_of_getElem? (i := 198) (by decide +kernel))) rfl), rfl, rfl, rfl⟩
theorem fl_F_137 : fr_fl R_F 137 5 5 .int false := ⟨fr_q5, ty_W, rfl, cf_W, by decide, (fr_in (List.mem_append_left _ (List.mem_of_getElem? (i := 174) (by decide +kernel))) rfl), rfl, rfl, rfl⟩
theorem fl_F_140 : fr_fl R_F 140 3 5 .int false := ⟨fr_q3, ty_M, rfl, cf_M, by decide, (fr_in (List.mem_append_left _ (List.mem_of_getElem? (i := 92) (by decide +kernel))) rfl), rfl, rfl, rfl⟩
theorem fl_F_143 : fr_fl R_F 143 1 2 .int false := ⟨fr_q1, ty_J, rfl, cf_J, by decide, (fr_in (List.mem_append_left _ (List.mem_of_getElem? (i := 31) (by decide +kernel))) rfl), rfl, rfl, rfl⟩
theorem wc_J_has : Cond.code y_J_has c_J_has 2 (some .boolean) ∈ fr_ws := (fr_in (List.mem_append_right _ (List.mem_append_left _ (List.mem_of_getElem? (i := 225) rfl))) rfl)
theorem wn_J_has : Cond.instanceMethod y_J_has ∈ fr_ws := (fr_in (List.mem_append_right _ (List.mem_append_left _ (List.mem_of_getElem? (i := 223) (by decide +kernel)))) rfl)
theorem wl_J_has : Cond.selects y_J_has.cls y_J_has y_J_has ∈ fr_ws := (fr_in (List.mem_append_right _ (List.mem_append_left _ (List.mem_of_getElem? (i := 224) (by decide +kernel)))) rfl)
theorem mv_F_146 : fr_mv R_F 146 y_J_has c_J_has 2 (some .boolean) 1 := ⟨⟨(fr_in (List.mem_append_right _ (List.mem_append_left _ (List.mem_of_getElem? (i := 222) (by decide +kernel)))) rfl), wi_0, wc_J_has, by decide, by decide, by decide +kernel⟩, wn_J_has, wl_J_has⟩
theorem fl_F_149 : fr_fl R_F 149 1 0 (.array .int) true := ⟨fr_q1, ty_J, rfl, cf_J, by decide, (fr_in (List.mem_append_left _ (List.mem_of_getElem? (i := 27) (by decide +kernel))) rfl), rfl, rfl, rfl⟩
theorem fl_F_152 : fr_fl R_F 152 1 1 (.array .int) true := ⟨fr_q1, ty_J, rfl, cf_J, by decide, (fr_in (List.mem_append_left _ (List.mem_of_getElem? (i := 29) (by decide +kernel))) rfl), rfl, rfl, rfl⟩
theorem wc_W_deliver : Cond.code y_W_deliver c_W_deliver 4 none ∈ fr_ws := (fr_in (List.mem_append_right _ (List.mem_append_left _ (List.mem_of_getElem? (i := 40) rfl))) rfl)
theorem wn_W_deliver : Cond.instanceMethod y_W_deliver ∈ fr_ws := (fr_in (List.mem_append_right _ (List.mem_append_left _ (List.mem_of_getElem? (i := 38) (by decide +kernel)))) rfl)
theorem wl_W_deliver : Cond.selects y_W_deliver.cls y_W_deliver y_W_deliver ∈ fr_ws := (fr_in (List.mem_append_right _ (List.mem_append_left _ (List.mem_of_getElem? (i := 39) (by decide +kernel)))) rfl)
theorem mv_F_155 : fr_mv R_F 155 y_W_deliver c_W_deliver 4 none 1 := ⟨⟨(fr_in (List.mem_append_right _ (List.mem_append_left _ (List.mem_of_getElem? (i := 37) (by decide +kernel)))) rfl), wi_5, wc_W_deliver, by decide, by decide, by decide +kernel⟩, wn_W_deliver, wl_W_deliver⟩
theorem wc_F_moveBreaker : Cond.code y_F_moveBreaker c_F_moveBreaker 4 none ∈ fr_ws := (fr_in (List.mem_append_right _ (List.mem_append_left _ (List.mem_of_getElem? (i := 51) rfl))) rfl)
theorem wn_F_moveBreaker : Cond.instanceMethod y_F_moveBreaker ∈ fr_ws := (fr_in (List.mem_append_right _ (List.mem_append_left _ (List.mem_of_getElem? (i := 50) (by decide +kernel)))) rfl)
theorem wl_F_moveBreaker : Cond.selects y_F_moveBreaker.cls y_F_moveBreaker y_F_moveBreaker ∈ fr_ws := fr_inp (y := y_F_moveBreaker) (n := 6) (List.mem_append_left _ (List.mem_of_getElem? (i := 4) rfl))
theorem mv_F_158 : fr_mv R_F 158 y_F_moveBreaker c_F_moveBreaker 4 none 1 := ⟨⟨(fr_in (List.mem_append_right _ (List.mem_append_left _ (List.mem_of_getElem? (i := 48) (by decide +kernel)))) rfl), wi_1, wc_F_moveBreaker, by decide, by decide, by decide +kernel⟩, wn_F_moveBreaker, wl_F_moveBreaker⟩
theorem wc_F_measureAll : Cond.code y_F_measureAll c_F_measureAll 4 none ∈ fr_ws := (fr_in (List.mem_append_right _ (List.mem_append_left _ (List.mem_of_getElem? (i := 86) rfl))) rfl)
theorem wn_F_measureAll : Cond.instanceMethod y_F_measureAll ∈ fr_ws := (fr_in (List.mem_append_right _ (List.mem_append_left _ (List.mem_of_getElem? (i := 85) (by decide +kernel)))) rfl)
theorem wl_F_measureAll : Cond.selects y_F_measureAll.cls y_F_measureAll y_F_measureAll ∈ fr_ws := fr_inp (y := y_F_measureAll) (n := 6) (List.mem_append_left _ (List.mem_of_getElem? (i := 5) rfl))
theorem mv_F_161 : fr_mv R_F 161 y_F_measureAll c_F_measureAll 4 none 0 := ⟨⟨(fr_in (List.mem_append_right _ (List.mem_append_left _ (List.mem_of_getElem? (i := 83) (by decide +kernel)))) rfl), wi_1, wc_F_measureAll, by decide, by decide, by decide +kernel⟩, wn_F_measureAll, wl_F_measureAll⟩
theorem wc_F_tripIfDue : Cond.code y_F_tripIfDue c_F_tripIfDue 3 none ∈ fr_ws := (fr_in (List.mem_append_right _ (List.mem_append_left _ (List.mem_of_getElem? (i := 119) rfl))) rfl)
theorem wn_F_tripIfDue : Cond.instanceMethod y_F_tripIfDue ∈ fr_ws := (fr_in (List.mem_append_right _ (List.mem_append_left _ (List.mem_of_getElem? (i := 118) (by decide +kernel)))) rfl)
theorem wl_F_tripIfDue : Cond.selects y_F_tripIfDue.cls y_F_tripIfDue y_F_tripIfDue ∈ fr_ws := fr_inp (y := y_F_tripIfDue) (n := 6) (List.mem_append_left _ (List.mem_of_getElem? (i := 10) rfl))
theorem mv_F_164 : fr_mv R_F 164 y_F_tripIfDue c_F_tripIfDue 3 none 1 := ⟨⟨(fr_in (List.mem_append_right _ (List.mem_append_left _ (List.mem_of_getElem? (i := 116) (by decide +kernel)))) rfl), wi_1, wc_F_tripIfDue, by decide, by decide, by decide +kernel⟩, wn_F_tripIfDue, wl_F_tripIfDue⟩
theorem wc_F_failIfDue : Cond.code y_F_failIfDue c_F_failIfDue 4 none ∈ fr_ws := (fr_in (List.mem_append_right _ (List.mem_append_left _ (List.mem_of_getElem? (i := 147) rfl))) rfl)
theorem wn_F_failIfDue : Cond.instanceMethod y_F_failIfDue ∈ fr_ws := (fr_in (List.mem_append_right _ (List.mem_append_left _ (List.mem_of_getElem? (i := 146) (by decide +kernel)))) rfl)
theorem wl_F_failIfDue : Cond.selects y_F_failIfDue.cls y_F_failIfDue y_F_failIfDue ∈ fr_ws := fr_inp (y := y_F_failIfDue) (n := 6) (List.mem_append_left _ (List.mem_of_getElem? (i := 13) rfl))
theorem mv_F_167 : fr_mv R_F 167 y_F_failIfDue c_F_failIfDue 4 none 1 := ⟨⟨(fr_in (List.mem_append_right _ (List.mem_append_left _ (List.mem_of_getElem? (i := 144) (by decide +kernel)))) rfl), wi_1, wc_F_failIfDue, by decide, by decide, by decide +kernel⟩, wn_F_failIfDue, wl_F_failIfDue⟩
theorem wc_J_store : Cond.code y_J_store c_J_store 1 none ∈ fr_ws := (fr_in (List.mem_append_right _ (List.mem_append_left _ (List.mem_of_getElem? (i := 155) rfl))) rfl)
theorem wn_J_store : Cond.instanceMethod y_J_store ∈ fr_ws := (fr_in (List.mem_append_right _ (List.mem_append_left _ (List.mem_of_getElem? (i := 153) (by decide +kernel)))) rfl)
theorem wl_J_store : Cond.selects y_J_store.cls y_J_store y_J_store ∈ fr_ws := (fr_in (List.mem_append_right _ (List.mem_append_left _ (List.mem_of_getElem? (i := 154) (by decide +kernel)))) rfl)
theorem mv_F_170 : fr_mv R_F 170 y_J_store c_J_store 1 none 0 := ⟨⟨(fr_in (List.mem_append_right _ (List.mem_append_left _ (List.mem_of_getElem? (i := 152) (by decide +kernel)))) rfl), wi_0, wc_J_store, by decide, by decide, by decide +kernel⟩, wn_J_store, wl_J_store⟩
theorem wc_B_mustOpen : Cond.code y_B_mustOpen c_B_mustOpen 2 (some .boolean) ∈ fr_ws := (fr_in (List.mem_append_right _ (List.mem_append_left _ (List.mem_of_getElem? (i := 55) rfl))) rfl)
theorem wn_B_mustOpen : Cond.instanceMethod y_B_mustOpen ∈ fr_ws := (fr_in (List.mem_append_right _ (List.mem_append_left _ (List.mem_of_getElem? (i := 53) (by decide +kernel)))) rfl)
theorem wl_B_mustOpen : Cond.selects y_B_mustOpen.cls y_B_mustOpen y_B_mustOpen ∈ fr_ws := (fr_in (List.mem_append_right _ (List.mem_append_left _ (List.mem_of_getElem? (i := 54) (by decide +kernel)))) rfl)
theorem mv_F_173 : fr_mv R_F 173 y_B_mustOpen c_B_mustOpen 2 (some .boolean) 1 := ⟨⟨(fr_in (List.mem_append_right _ (List.mem_append_left _ (List.mem_of_getElem? (i := 52) (by decide +kernel)))) rfl), wi_4, wc_B_mustOpen, by decide, by decide, by decide +kernel⟩, wn_B_mustOpen, wl_B_mustOpen⟩
theorem fl_F_176 : fr_fl R_F 176 4 4 .boolean false := ⟨fr_q4, ty_B, rfl, cf_B, by decide, (fr_in (List.mem_append_left _ (List.mem_of_getElem? (i := 129) (by decide +kernel))) rfl), rfl, rfl, rfl⟩
theorem wc_B_open : Cond.code y_B_open c_B_open 1 none ∈ fr_ws := (fr_in (List.mem_append_right _ (List.mem_append_left _ (List.mem_of_getElem? (i := 59) rfl))) rfl)
theorem wn_B_open : Cond.instanceMethod y_B_open ∈ fr_ws := (fr_in (List.mem_append_right _ (List.mem_append_left _ (List.mem_of_getElem? (i := 57) (by decide +kernel)))) rfl)
theorem wl_B_open : Cond.selects y_B_open.cls y_B_open y_B_open ∈ fr_ws := (fr_in (List.mem_append_right _ (List.mem_append_left _ (List.mem_of_getElem? (i := 58) (by decide +kernel)))) rfl)
theorem mv_F_179 : fr_mv R_F 179 y_B_open c_B_open 1 none 0 := ⟨⟨(fr_in (List.mem_append_right _ (List.mem_append_left _ (List.mem_of_getElem? (i := 56) (by decide +kernel)))) rfl), wi_4, wc_B_open, by decide, by decide, by decide +kernel⟩, wn_B_open, wl_B_open⟩
theorem wc_J_add : Cond.code y_J_add c_J_add 4 none ∈ fr_ws := (fr_in (List.mem_append_right _ (List.mem_append_left _ (List.mem_of_getElem? (i := 63) rfl))) rfl)
theorem wn_J_add : Cond.instanceMethod y_J_add ∈ fr_ws := (fr_in (List.mem_append_right _ (List.mem_append_left _ (List.mem_of_getElem? (i := 61) (by decide +kernel)))) rfl)
theorem wl_J_add : Cond.selects y_J_add.cls y_J_add y_J_add ∈ fr_ws := (fr_in (List.mem_append_right _ (List.mem_append_left _ (List.mem_of_getElem? (i := 62) (by decide +kernel)))) rfl)
theorem mv_F_182 : fr_mv R_F 182 y_J_add c_J_add 4 none 3 := ⟨⟨(fr_in (List.mem_append_right _ (List.mem_append_left _ (List.mem_of_getElem? (i := 60) (by decide +kernel)))) rfl), wi_0, wc_J_add, by decide, by decide, by decide +kernel⟩, wn_J_add, wl_J_add⟩
theorem wc_B_awaitClosing : Cond.code y_B_awaitClosing c_B_awaitClosing 2 none ∈ fr_ws := (fr_in (List.mem_append_right _ (List.mem_append_left _ (List.mem_of_getElem? (i := 67) rfl))) rfl)
theorem wn_B_awaitClosing : Cond.instanceMethod y_B_awaitClosing ∈ fr_ws := (fr_in (List.mem_append_right _ (List.mem_append_left _ (List.mem_of_getElem? (i := 65) (by decide +kernel)))) rfl)
theorem wl_B_awaitClosing : Cond.selects y_B_awaitClosing.cls y_B_awaitClosing y_B_awaitClosing ∈ fr_ws := (fr_in (List.mem_append_right _ (List.mem_append_left _ (List.mem_of_getElem? (i := 66) (by decide +kernel)))) rfl)
theorem mv_F_185 : fr_mv R_F 185 y_B_awaitClosing c_B_awaitClosing 2 none 1 := ⟨⟨(fr_in (List.mem_append_right _ (List.mem_append_left _ (List.mem_of_getElem? (i := 64) (by decide +kernel)))) rfl), wi_4, wc_B_awaitClosing, by decide, by decide, by decide +kernel⟩, wn_B_awaitClosing, wl_B_awaitClosing⟩
theorem fl_F_188 : fr_fl R_F 188 4 2 .boolean false := ⟨fr_q4, ty_B, rfl, cf_B, by decide, (fr_in (List.mem_append_left _ (List.mem_of_getElem? (i := 125) (by decide +kernel))) rfl), rfl, rfl, rfl⟩
theorem wc_B_mustClose : Cond.code y_B_mustClose c_B_mustClose 2 (some .boolean) ∈ fr_ws := (fr_in (List.mem_append_right _ (List.mem_append_left _ (List.mem_of_getElem? (i := 74) rfl))) rfl)
theorem wn_B_mustClose : Cond.instanceMethod y_B_mustClose ∈ fr_ws := (fr_in (List.mem_append_right _ (List.mem_append_left _ (List.mem_of_getElem? (i := 72) (by decide +kernel)))) rfl)
theorem wl_B_mustClose : Cond.selects y_B_mustClose.cls y_B_mustClose y_B_mustClose ∈ fr_ws := (fr_in (List.mem_append_right _ (List.mem_append_left _ (List.mem_of_getElem? (i := 73) (by decide +kernel)))) rfl)
theorem mv_F_191 : fr_mv R_F 191 y_B_mustClose c_B_mustClose 2 (some .boolean) 1 := ⟨⟨(fr_in (List.mem_append_right _ (List.mem_append_left _ (List.mem_of_getElem? (i := 71) (by decide +kernel)))) rfl), wi_4, wc_B_mustClose, by decide, by decide, by decide +kernel⟩, wn_B_mustClose, wl_B_mustClose⟩
theorem wc_B_closeAgain : Cond.code y_B_closeAgain c_B_closeAgain 2 none ∈ fr_ws := (fr_in (List.mem_append_right _ (List.mem_append_left _ (List.mem_of_getElem? (i := 78) rfl))) rfl)
theorem wn_B_closeAgain : Cond.instanceMethod y_B_closeAgain ∈ fr_ws := (fr_in (List.mem_append_right _ (List.mem_append_left _ (List.mem_of_getElem? (i := 76) (by decide +kernel)))) rfl)
theorem wl_B_closeAgain : Cond.selects y_B_closeAgain.cls y_B_closeAgain y_B_closeAgain ∈ fr_ws := (fr_in (List.mem_append_right _ (List.mem_append_left _ (List.mem_of_getElem? (i := 77) (by decide +kernel)))) rfl)
theorem mv_F_194 : fr_mv R_F 194 y_B_closeAgain c_B_closeAgain 2 none 1 := ⟨⟨(fr_in (List.mem_append_right _ (List.mem_append_left _ (List.mem_of_getElem? (i := 75) (by decide +kernel)))) rfl), wi_4, wc_B_closeAgain, by decide, by decide, by decide +kernel⟩, wn_B_closeAgain, wl_B_closeAgain⟩
theorem wc_B_mustReclaim : Cond.code y_B_mustReclaim c_B_mustReclaim 2 (some .boolean) ∈ fr_ws := (fr_in (List.mem_append_right _ (List.mem_append_left _ (List.mem_of_getElem? (i := 82) rfl))) rfl)
theorem wn_B_mustReclaim : Cond.instanceMethod y_B_mustReclaim ∈ fr_ws := (fr_in (List.mem_append_right _ (List.mem_append_left _ (List.mem_of_getElem? (i := 80) (by decide +kernel)))) rfl)
theorem wl_B_mustReclaim : Cond.selects y_B_mustReclaim.cls y_B_mustReclaim y_B_mustReclaim ∈ fr_ws := (fr_in (List.mem_append_right _ (List.mem_append_left _ (List.mem_of_getElem? (i := 81) (by decide +kernel)))) rfl)
theorem mv_F_197 : fr_mv R_F 197 y_B_mustReclaim c_B_mustReclaim 2 (some .boolean) 1 := ⟨⟨(fr_in (List.mem_append_right _ (List.mem_append_left _ (List.mem_of_getElem? (i := 79) (by decide +kernel)))) rfl), wi_4, wc_B_mustReclaim, by decide, by decide, by decide +kernel⟩, wn_B_mustReclaim, wl_B_mustReclaim⟩
theorem wc_M_measure : Cond.code y_M_measure c_M_measure 2 none ∈ fr_ws := (fr_in (List.mem_append_right _ (List.mem_append_left _ (List.mem_of_getElem? (i := 94) rfl))) rfl)
theorem wn_M_measure : Cond.instanceMethod y_M_measure ∈ fr_ws := (fr_in (List.mem_append_right _ (List.mem_append_left _ (List.mem_of_getElem? (i := 92) (by decide +kernel)))) rfl)
theorem wl_M_measure : Cond.selects y_M_measure.cls y_M_measure y_M_measure ∈ fr_ws := (fr_in (List.mem_append_right _ (List.mem_append_left _ (List.mem_of_getElem? (i := 93) (by decide +kernel)))) rfl)
theorem mv_F_200 : fr_mv R_F 200 y_M_measure c_M_measure 2 none 1 := ⟨⟨(fr_in (List.mem_append_right _ (List.mem_append_left _ (List.mem_of_getElem? (i := 91) (by decide +kernel)))) rfl), wi_3, wc_M_measure, by decide, by decide, by decide +kernel⟩, wn_M_measure, wl_M_measure⟩
theorem wc_W_report : Cond.code y_W_report c_W_report 4 none ∈ fr_ws := (fr_in (List.mem_append_right _ (List.mem_append_left _ (List.mem_of_getElem? (i := 108) rfl))) rfl)
theorem wn_W_report : Cond.instanceMethod y_W_report ∈ fr_ws := (fr_in (List.mem_append_right _ (List.mem_append_left _ (List.mem_of_getElem? (i := 106) (by decide +kernel)))) rfl)
theorem wl_W_report : Cond.selects y_W_report.cls y_W_report y_W_report ∈ fr_ws := (fr_in (List.mem_append_right _ (List.mem_append_left _ (List.mem_of_getElem? (i := 107) (by decide +kernel)))) rfl)
theorem mv_F_203 : fr_mv R_F 203 y_W_report c_W_report 4 none 3 := ⟨⟨(fr_in (List.mem_append_right _ (List.mem_append_left _ (List.mem_of_getElem? (i := 105) (by decide +kernel)))) rfl), wi_5, wc_W_report, by decide, by decide, by decide +kernel⟩, wn_W_report, wl_W_report⟩
theorem wc_M_isOverLimit : Cond.code y_M_isOverLimit c_M_isOverLimit 1 (some .boolean) ∈ fr_ws := (fr_in (List.mem_append_right _ (List.mem_append_left _ (List.mem_of_getElem? (i := 123) rfl))) rfl)
theorem wn_M_isOverLimit : Cond.instanceMethod y_M_isOverLimit ∈ fr_ws := (fr_in (List.mem_append_right _ (List.mem_append_left _ (List.mem_of_getElem? (i := 121) (by decide +kernel)))) rfl)
theorem wl_M_isOverLimit : Cond.selects y_M_isOverLimit.cls y_M_isOverLimit y_M_isOverLimit ∈ fr_ws := (fr_in (List.mem_append_right _ (List.mem_append_left _ (List.mem_of_getElem? (i := 122) (by decide +kernel)))) rfl)
theorem mv_F_207 : fr_mv R_F 207 y_M_isOverLimit c_M_isOverLimit 1 (some .boolean) 0 := ⟨⟨(fr_in (List.mem_append_right _ (List.mem_append_left _ (List.mem_of_getElem? (i := 120) (by decide +kernel)))) rfl), wi_3, wc_M_isOverLimit, by decide, by decide, by decide +kernel⟩, wn_M_isOverLimit, wl_M_isOverLimit⟩
theorem wc_B_takesOrder : Cond.code y_B_takesOrder c_B_takesOrder 1 (some .boolean) ∈ fr_ws := (fr_in (List.mem_append_right _ (List.mem_append_left _ (List.mem_of_getElem? (i := 131) rfl))) rfl)
theorem wn_B_takesOrder : Cond.instanceMethod y_B_takesOrder ∈ fr_ws := (fr_in (List.mem_append_right _ (List.mem_append_left _ (List.mem_of_getElem? (i := 129) (by decide +kernel)))) rfl)
theorem wl_B_takesOrder : Cond.selects y_B_takesOrder.cls y_B_takesOrder y_B_takesOrder ∈ fr_ws := (fr_in (List.mem_append_right _ (List.mem_append_left _ (List.mem_of_getElem? (i := 130) (by decide +kernel)))) rfl)
theorem mv_F_211 : fr_mv R_F 211 y_B_takesOrder c_B_takesOrder 1 (some .boolean) 0 := ⟨⟨(fr_in (List.mem_append_right _ (List.mem_append_left _ (List.mem_of_getElem? (i := 128) (by decide +kernel)))) rfl), wi_4, wc_B_takesOrder, by decide, by decide, by decide +kernel⟩, wn_B_takesOrder, wl_B_takesOrder⟩
theorem wc_B_giveOrder : Cond.code y_B_giveOrder c_B_giveOrder 3 none ∈ fr_ws := (fr_in (List.mem_append_right _ (List.mem_append_left _ (List.mem_of_getElem? (i := 143) rfl))) rfl)
theorem wn_B_giveOrder : Cond.instanceMethod y_B_giveOrder ∈ fr_ws := (fr_in (List.mem_append_right _ (List.mem_append_left _ (List.mem_of_getElem? (i := 141) (by decide +kernel)))) rfl)
theorem wl_B_giveOrder : Cond.selects y_B_giveOrder.cls y_B_giveOrder y_B_giveOrder ∈ fr_ws := (fr_in (List.mem_append_right _ (List.mem_append_left _ (List.mem_of_getElem? (i := 142) (by decide +kernel)))) rfl)
theorem mv_F_214 : fr_mv R_F 214 y_B_giveOrder c_B_giveOrder 3 none 2 := ⟨⟨(fr_in (List.mem_append_right _ (List.mem_append_left _ (List.mem_of_getElem? (i := 140) (by decide +kernel)))) rfl), wi_4, wc_B_giveOrder, by decide, by decide, by decide +kernel⟩, wn_B_giveOrder, wl_B_giveOrder⟩
theorem wc_B_isOverdue : Cond.code y_B_isOverdue c_B_isOverdue 3 (some .boolean) ∈ fr_ws := (fr_in (List.mem_append_right _ (List.mem_append_left _ (List.mem_of_getElem? (i := 151) rfl))) rfl)
theorem wn_B_isOverdue : Cond.instanceMethod y_B_isOverdue ∈ fr_ws := (fr_in (List.mem_append_right _ (List.mem_append_left _ (List.mem_of_getElem? (i := 149) (by decide +kernel)))) rfl)
theorem wl_B_isOverdue : Cond.selects y_B_isOverdue.cls y_B_isOverdue y_B_isOverdue ∈ fr_ws := (fr_in (List.mem_append_right _ (List.mem_append_left _ (List.mem_of_getElem? (i := 150) (by decide +kernel)))) rfl)
theorem mv_F_218 : fr_mv R_F 218 y_B_isOverdue c_B_isOverdue 3 (some .boolean) 2 := ⟨⟨(fr_in (List.mem_append_right _ (List.mem_append_left _ (List.mem_of_getElem? (i := 148) (by decide +kernel)))) rfl), wi_4, wc_B_isOverdue, by decide, by decide, by decide +kernel⟩, wn_B_isOverdue, wl_B_isOverdue⟩
theorem fl_F_222 : fr_fl R_F 222 4 3 .boolean false := ⟨fr_q4, ty_B, rfl, cf_B, by decide, (fr_in (List.mem_append_left _ (List.mem_of_getElem? (i := 127) (by decide +kernel))) rfl), rfl, rfl, rfl⟩
theorem wc_W_holdsBack : Cond.code y_W_holdsBack c_W_holdsBack 2 (some .boolean) ∈ fr_ws := (fr_in (List.mem_append_right _ (List.mem_append_left _ (List.mem_of_getElem? (i := 139) rfl))) rfl)
theorem wn_W_holdsBack : Cond.instanceMethod y_W_holdsBack ∈ fr_ws := (fr_in (List.mem_append_right _ (List.mem_append_left _ (List.mem_of_getElem? (i := 137) (by decide +kernel)))) rfl)
theorem wl_W_holdsBack : Cond.selects y_W_holdsBack.cls y_W_holdsBack y_W_holdsBack ∈ fr_ws := (fr_in (List.mem_append_right _ (List.mem_append_left _ (List.mem_of_getElem? (i := 138) (by decide +kernel)))) rfl)
theorem mv_F_225 : fr_mv R_F 225 y_W_holdsBack c_W_holdsBack 2 (some .boolean) 1 := ⟨⟨(fr_in (List.mem_append_right _ (List.mem_append_left _ (List.mem_of_getElem? (i := 136) (by decide +kernel)))) rfl), wi_5, wc_W_holdsBack, by decide, by decide, by decide +kernel⟩, wn_W_holdsBack, wl_W_holdsBack⟩
theorem ml_O_1 : Cond.methodLink R_O 1 objectInit ∈ fr_ws := (fr_in (List.mem_append_right _ (List.mem_append_left _ (List.mem_of_getElem? (i := 235) (by decide +kernel)))) rfl)
theorem fl_O_7 : fr_fl R_O 7 6 2 (.array .int) false := ⟨fr_q6, ty_O, rfl, cf_O, by decide, (fr_in (List.mem_append_right _ (List.mem_append_left _ (List.mem_of_getElem? (i := 238) (by decide +kernel)))) rfl), rfl, rfl, rfl⟩
theorem fl_O_13 : fr_fl R_O 13 6 3 (.array .boolean) false := ⟨fr_q6, ty_O, rfl, cf_O, by decide, (fr_in (List.mem_append_right _ (List.mem_append_left _ (List.mem_of_getElem? (i := 239) (by decide +kernel)))) rfl), rfl, rfl, rfl⟩
theorem fl_O_17 : fr_fl R_O 17 6 4 (.array .boolean) false := ⟨fr_q6, ty_O, rfl, cf_O, by decide, (fr_in (List.mem_append_right _ (List.mem_append_right _ (List.mem_append_left _ (List.mem_of_getElem? (i := 0) (by decide +kernel))))) rfl), rfl, rfl, rfl⟩
theorem fl_O_20 : fr_fl R_O 20 6 5 (.array .int) false := ⟨fr_q6, ty_O, rfl, cf_O, by decide, (fr_in (List.mem_append_right _ (List.mem_append_right _ (List.mem_append_left _ (List.mem_of_getElem? (i := 1) (by decide +kernel))))) rfl), rfl, rfl, rfl⟩
theorem fl_O_23 : fr_fl R_O 23 6 6 (.array .int) false := ⟨fr_q6, ty_O, rfl, cf_O, by decide, (fr_in (List.mem_append_right _ (List.mem_append_right _ (List.mem_append_left _ (List.mem_of_getElem? (i := 2) (by decide +kernel))))) rfl), rfl, rfl, rfl⟩
theorem fl_O_26 : fr_fl R_O 26 6 7 (.array .int) false := ⟨fr_q6, ty_O, rfl, cf_O, by decide, (fr_in (List.mem_append_right _ (List.mem_append_right _ (List.mem_append_left _ (List.mem_of_getElem? (i := 3) (by decide +kernel))))) rfl), rfl, rfl, rfl⟩
theorem fl_O_29 : fr_fl R_O 29 6 8 (.array .int) false := ⟨fr_q6, ty_O, rfl, cf_O, by decide, (fr_in (List.mem_append_right _ (List.mem_append_right _ (List.mem_append_left _ (List.mem_of_getElem? (i := 4) (by decide +kernel))))) rfl), rfl, rfl, rfl⟩
theorem fl_O_32 : fr_fl R_O 32 6 9 (.array .int) false := ⟨fr_q6, ty_O, rfl, cf_O, by decide, (fr_in (List.mem_append_right _ (List.mem_append_right _ (List.mem_append_left _ (List.mem_of_getElem? (i := 5) (by decide +kernel))))) rfl), rfl, rfl, rfl⟩
theorem fl_O_35 : fr_fl R_O 35 6 10 (.array .boolean) false := ⟨fr_q6, ty_O, rfl, cf_O, by decide, (fr_in (List.mem_append_right _ (List.mem_append_right _ (List.mem_append_left _ (List.mem_of_getElem? (i := 6) (by decide +kernel))))) rfl), rfl, rfl, rfl⟩
theorem fl_O_38 : fr_fl R_O 38 6 11 (.array .int) false := ⟨fr_q6, ty_O, rfl, cf_O, by decide, (fr_in (List.mem_append_right _ (List.mem_append_right _ (List.mem_append_left _ (List.mem_of_getElem? (i := 7) (by decide +kernel))))) rfl), rfl, rfl, rfl⟩
theorem fl_O_41 : fr_fl R_O 41 6 12 (.array .int) false := ⟨fr_q6, ty_O, rfl, cf_O, by decide, (fr_in (List.mem_append_right _ (List.mem_append_right _ (List.mem_append_left _ (List.mem_of_getElem? (i := 8) (by decide +kernel))))) rfl), rfl, rfl, rfl⟩
theorem fl_O_44 : fr_fl R_O 44 6 13 (.array .int) false := ⟨fr_q6, ty_O, rfl, cf_O, by decide, (fr_in (List.mem_append_right _ (List.mem_append_right _ (List.mem_append_left _ (List.mem_of_getElem? (i := 9) (by decide +kernel))))) rfl), rfl, rfl, rfl⟩
theorem fl_O_47 : fr_fl R_O 47 6 14 (.array .int) false := ⟨fr_q6, ty_O, rfl, cf_O, by decide, (fr_in (List.mem_append_right _ (List.mem_append_right _ (List.mem_append_left _ (List.mem_of_getElem? (i := 10) (by decide +kernel))))) rfl), rfl, rfl, rfl⟩
theorem fl_O_50 : fr_fl R_O 50 6 15 (.array .long) false := ⟨fr_q6, ty_O, rfl, cf_O, by decide, (fr_in (List.mem_append_right _ (List.mem_append_right _ (List.mem_append_left _ (List.mem_of_getElem? (i := 11) (by decide +kernel))))) rfl), rfl, rfl, rfl⟩
theorem fl_O_54 : fr_fl R_O 54 6 16 (.array .boolean) false := ⟨fr_q6, ty_O, rfl, cf_O, by decide, (fr_in (List.mem_append_right _ (List.mem_append_right _ (List.mem_append_left _ (List.mem_of_getElem? (i := 12) (by decide +kernel))))) rfl), rfl, rfl, rfl⟩
theorem fl_O_57 : fr_fl R_O 57 6 17 (.array .int) false := ⟨fr_q6, ty_O, rfl, cf_O, by decide, (fr_in (List.mem_append_right _ (List.mem_append_right _ (List.mem_append_left _ (List.mem_of_getElem? (i := 13) (by decide +kernel))))) rfl), rfl, rfl, rfl⟩
theorem fl_O_60 : fr_fl R_O 60 6 18 (.array .int) false := ⟨fr_q6, ty_O, rfl, cf_O, by decide, (fr_in (List.mem_append_right _ (List.mem_append_right _ (List.mem_append_left _ (List.mem_of_getElem? (i := 14) (by decide +kernel))))) rfl), rfl, rfl, rfl⟩
theorem fl_O_63 : fr_fl R_O 63 6 19 (.array .int) false := ⟨fr_q6, ty_O, rfl, cf_O, by decide, (fr_in (List.mem_append_right _ (List.mem_append_right _ (List.mem_append_left _ (List.mem_of_getElem? (i := 15) (by decide +kernel))))) rfl), rfl, rfl, rfl⟩
theorem fl_O_66 : fr_fl R_O 66 6 20 (.array .int) false := ⟨fr_q6, ty_O, rfl, cf_O, by decide, (fr_in (List.mem_append_right _ (List.mem_append_right _ (List.mem_append_left _ (List.mem_of_getElem? (i := 16) (by decide +kernel))))) rfl), rfl, rfl, rfl⟩
theorem fl_O_69 : fr_fl R_O 69 6 21 (.array .int) false := ⟨fr_q6, ty_O, rfl, cf_O, by decide, (fr_in (List.mem_append_right _ (List.mem_append_right _ (List.mem_append_left _ (List.mem_of_getElem? (i := 17) (by decide +kernel))))) rfl), rfl, rfl, rfl⟩
theorem fl_O_72 : fr_fl R_O 72 6 22 (.array .boolean) false := ⟨fr_q6, ty_O, rfl, cf_O, by decide, (fr_in (List.mem_append_right _ (List.mem_append_right _ (List.mem_append_left _ (List.mem_of_getElem? (i := 18) (by decide +kernel))))) rfl), rfl, rfl, rfl⟩
theorem fl_O_75 : fr_fl R_O 75 6 23 (.array .boolean) false := ⟨fr_q6, ty_O, rfl, cf_O, by decide, (fr_in (List.mem_append_right _ (List.mem_append_right _ (List.mem_append_left _ (List.mem_of_getElem? (i := 19) (by decide +kernel))))) rfl), rfl, rfl, rfl⟩
theorem fl_O_78 : fr_fl R_O 78 6 24 (.array .int) false := ⟨fr_q6, ty_O, rfl, cf_O, by decide, (fr_in (List.mem_append_right _ (List.mem_append_right _ (List.mem_append_left _ (List.mem_of_getElem? (i := 20) (by decide +kernel))))) rfl), rfl, rfl, rfl⟩
theorem fl_O_81 : fr_fl R_O 81 6 25 (.array .boolean) false := ⟨fr_q6, ty_O, rfl, cf_O, by decide, (fr_in (List.mem_append_right _ (List.mem_append_right _ (List.mem_append_left _ (List.mem_of_getElem? (i := 21) (by decide +kernel))))) rfl), rfl, rfl, rfl⟩
theorem fl_O_84 : fr_fl R_O 84 6 26 (.array .int) false := ⟨fr_q6, ty_O, rfl, cf_O, by decide, (fr_in (List.mem_append_right _ (List.mem_append_right _ (List.mem_append_left _ (List.mem_of_getElem? (i := 22) (by decide +kernel))))) rfl), rfl, rfl, rfl⟩
theorem fl_O_87 : fr_fl R_O 87 6 27 (.array .int) false := ⟨fr_q6, ty_O, rfl, cf_O, by decide, (fr_in (List.mem_append_right _ (List.mem_append_right _ (List.mem_append_left _ (List.mem_of_getElem? (i := 23) (by decide +kernel))))) rfl), rfl, rfl, rfl⟩
theorem fl_O_90 : fr_fl R_O 90 6 28 (.array .int) false := ⟨fr_q6, ty_O, rfl, cf_O, by decide, (fr_in (List.mem_append_right _ (List.mem_append_right _ (List.mem_append_left _ (List.mem_of_getElem? (i := 24) (by decide +kernel))))) rfl), rfl, rfl, rfl⟩
theorem fl_O_93 : fr_fl R_O 93 6 29 (.array .int) false := ⟨fr_q6, ty_O, rfl, cf_O, by decide, (fr_in (List.mem_append_right _ (List.mem_append_right _ (List.mem_append_left _ (List.mem_of_getElem? (i := 25) (by decide +kernel))))) rfl), rfl, rfl, rfl⟩
theorem fl_O_96 : fr_fl R_O 96 6 30 (.array .int) false := ⟨fr_q6, ty_O, rfl, cf_O, by decide, (fr_in (List.mem_append_right _ (List.mem_append_right _ (List.mem_append_left _ (List.mem_of_getElem? (i := 26) (by decide +kernel))))) rfl), rfl, rfl, rfl⟩
theorem fl_O_99 : fr_fl R_O 99 6 31 (.array .int) false := ⟨fr_q6, ty_O, rfl, cf_O, by decide, (fr_in (List.mem_append_right _ (List.mem_append_right _ (List.mem_append_left _ (List.mem_of_getElem? (i := 27) (by decide +kernel))))) rfl), rfl, rfl, rfl⟩
theorem fl_O_102 : fr_fl R_O 102 6 32 (.array .int) false := ⟨fr_q6, ty_O, rfl, cf_O, by decide, (fr_in (List.mem_append_right _ (List.mem_append_right _ (List.mem_append_left _ (List.mem_of_getElem? (i := 28) (by decide +kernel))))) rfl), rfl, rfl, rfl⟩
theorem fl_O_105 : fr_fl R_O 105 6 35 (.array .int) false := ⟨fr_q6, ty_O, rfl, cf_O, by decide, (fr_in (List.mem_append_right _ (List.mem_append_right _ (List.mem_append_left _ (List.mem_of_getElem? (i := 31) (by decide +kernel))))) rfl), rfl, rfl, rfl⟩
theorem fl_O_108 : fr_fl R_O 108 6 36 (.array .int) false := ⟨fr_q6, ty_O, rfl, cf_O, by decide, (fr_in (List.mem_append_right _ (List.mem_append_right _ (List.mem_append_left _ (List.mem_of_getElem? (i := 32) (by decide +kernel))))) rfl), rfl, rfl, rfl⟩
theorem fl_O_111 : fr_fl R_O 111 6 0 .int false := ⟨fr_q6, ty_O, rfl, cf_O, by decide, (fr_in (List.mem_append_right _ (List.mem_append_left _ (List.mem_of_getElem? (i := 236) (by decide +kernel)))) rfl), rfl, rfl, rfl⟩
theorem fl_O_115 : fr_fl R_O 115 6 1 .int false := ⟨fr_q6, ty_O, rfl, cf_O, by decide, (fr_in (List.mem_append_right _ (List.mem_append_left _ (List.mem_of_getElem? (i := 237) (by decide +kernel)))) rfl), rfl, rfl, rfl⟩
theorem wi_6 : Cond.initialized "FeederRelaysModel" ∈ fr_ws := (fr_in (List.mem_append_left _ (List.mem_of_getElem? (i := 3) (by decide +kernel))) rfl)
theorem wc_O_none : Cond.code y_O_none c_O_none 2 (some .boolean) ∈ fr_ws := (fr_in (List.mem_append_right _ (List.mem_append_right _ (List.mem_append_left _ (List.mem_of_getElem? (i := 116) rfl)))) rfl)
theorem wn_O_none : Cond.instanceMethod y_O_none ∈ fr_ws := (fr_in (List.mem_append_right _ (List.mem_append_right _ (List.mem_append_left _ (List.mem_of_getElem? (i := 115) (by decide +kernel))))) rfl)
theorem wl_O_none : Cond.selects y_O_none.cls y_O_none y_O_none ∈ fr_ws := fr_inp (y := y_O_none) (n := 37) (List.mem_append_left _ (List.mem_of_getElem? (i := 14) rfl))
theorem mv_O_118 : fr_mv R_O 118 y_O_none c_O_none 2 (some .boolean) 1 := ⟨⟨(fr_in (List.mem_append_right _ (List.mem_append_right _ (List.mem_append_left _ (List.mem_of_getElem? (i := 113) (by decide +kernel))))) rfl), wi_6, wc_O_none, by decide, by decide, by decide +kernel⟩, wn_O_none, wl_O_none⟩
theorem lc_O_122 : Cond.constantLong R_O 122 1048576 ∈ fr_ws := (fr_in (List.mem_append_right _ (List.mem_append_right _ (List.mem_append_left _ (List.mem_of_getElem? (i := 177) (by decide +kernel))))) rfl)
theorem lc_O_124 : Cond.constantLong R_O 124 4 ∈ fr_ws := (fr_in (List.mem_append_right _ (List.mem_append_right _ (List.mem_append_left _ (List.mem_of_getElem? (i := 178) (by decide +kernel))))) rfl)
theorem lc_O_126 : Cond.constantLong R_O 126 2 ∈ fr_ws := (fr_in (List.mem_append_right _ (List.mem_append_right _ (List.mem_append_left _ (List.mem_of_getElem? (i := 179) (by decide +kernel))))) rfl)
theorem fl_O_128 : fr_fl R_O 128 6 33 .int false := ⟨fr_q6, ty_O, rfl, cf_O, by decide, (fr_in (List.mem_append_right _ (List.mem_append_right _ (List.mem_append_left _ (List.mem_of_getElem? (i := 29) (by decide +kernel))))) rfl), rfl, rfl, rfl⟩
theorem wc_O_note : Cond.code y_O_note c_O_note 3 none ∈ fr_ws := (fr_in (List.mem_append_right _ (List.mem_append_right _ (List.mem_append_left _ (List.mem_of_getElem? (i := 164) rfl)))) rfl)
theorem wn_O_note : Cond.instanceMethod y_O_note ∈ fr_ws := (fr_in (List.mem_append_right _ (List.mem_append_right _ (List.mem_append_left _ (List.mem_of_getElem? (i := 163) (by decide +kernel))))) rfl)
theorem wl_O_note : Cond.selects y_O_note.cls y_O_note y_O_note ∈ fr_ws := fr_inp (y := y_O_note) (n := 37) (List.mem_append_right _ (List.mem_of_getElem? (i := 2) rfl))
theorem mv_O_131 : fr_mv R_O 131 y_O_note c_O_note 3 none 2 := ⟨⟨(fr_in (List.mem_append_right _ (List.mem_append_right _ (List.mem_append_left _ (List.mem_of_getElem? (i := 161) (by decide +kernel))))) rfl), wi_6, wc_O_note, by decide, by decide, by decide +kernel⟩, wn_O_note, wl_O_note⟩
theorem wc_O_flow : Cond.code y_O_flow c_O_flow 8 (some .int) ∈ fr_ws := (fr_in (List.mem_append_right _ (List.mem_append_right _ (List.mem_append_left _ (List.mem_of_getElem? (i := 172) rfl)))) rfl)
theorem wn_O_flow : Cond.instanceMethod y_O_flow ∈ fr_ws := (fr_in (List.mem_append_right _ (List.mem_append_right _ (List.mem_append_left _ (List.mem_of_getElem? (i := 171) (by decide +kernel))))) rfl)
theorem wl_O_flow : Cond.selects y_O_flow.cls y_O_flow y_O_flow ∈ fr_ws := fr_inp (y := y_O_flow) (n := 37) (List.mem_append_right _ (List.mem_of_getElem? (i := 4) rfl))
theorem mv_O_135 : fr_mv R_O 135 y_O_flow c_O_flow 8 (some .int) 1 := ⟨⟨(fr_in (List.mem_append_right _ (List.mem_append_right _ (List.mem_append_left _ (List.mem_of_getElem? (i := 169) (by decide +kernel))))) rfl), wi_6, wc_O_flow, by decide, by decide, by decide +kernel⟩, wn_O_flow, wl_O_flow⟩
theorem wc_O_root : Cond.code y_O_root c_O_root 10 (some .int) ∈ fr_ws := (fr_in (List.mem_append_right _ (List.mem_append_right _ (List.mem_append_left _ (List.mem_of_getElem? (i := 176) rfl)))) rfl)
theorem wn_O_root : Cond.instanceMethod y_O_root ∈ fr_ws := (fr_in (List.mem_append_right _ (List.mem_append_right _ (List.mem_append_left _ (List.mem_of_getElem? (i := 175) (by decide +kernel))))) rfl)
theorem wl_O_root : Cond.selects y_O_root.cls y_O_root y_O_root ∈ fr_ws := fr_inp (y := y_O_root) (n := 37) (List.mem_append_right _ (List.mem_of_getElem? (i := 5) rfl))
theorem mv_O_139 : fr_mv R_O 139 y_O_root c_O_root 10 (some .int) 1 := ⟨⟨(fr_in (List.mem_append_right _ (List.mem_append_right _ (List.mem_append_left _ (List.mem_of_getElem? (i := 173) (by decide +kernel))))) rfl), wi_6, wc_O_root, by decide, by decide, by decide +kernel⟩, wn_O_root, wl_O_root⟩
theorem wc_O_send : Cond.code y_O_send c_O_send 3 none ∈ fr_ws := (fr_in (List.mem_append_right _ (List.mem_append_right _ (List.mem_append_left _ (List.mem_of_getElem? (i := 183) rfl)))) rfl)
theorem wn_O_send : Cond.instanceMethod y_O_send ∈ fr_ws := (fr_in (List.mem_append_right _ (List.mem_append_right _ (List.mem_append_left _ (List.mem_of_getElem? (i := 182) (by decide +kernel))))) rfl)
theorem wl_O_send : Cond.selects y_O_send.cls y_O_send y_O_send ∈ fr_ws := fr_inp (y := y_O_send) (n := 37) (List.mem_append_right _ (List.mem_of_getElem? (i := 6) rfl))
theorem mv_O_142 : fr_mv R_O 142 y_O_send c_O_send 3 none 1 := ⟨⟨(fr_in (List.mem_append_right _ (List.mem_append_right _ (List.mem_append_left _ (List.mem_of_getElem? (i := 180) (by decide +kernel))))) rfl), wi_6, wc_O_send, by decide, by decide, by decide +kernel⟩, wn_O_send, wl_O_send⟩
theorem wc_O_blocked : Cond.code y_O_blocked c_O_blocked 4 (some .boolean) ∈ fr_ws := (fr_in (List.mem_append_right _ (List.mem_append_right _ (List.mem_append_left _ (List.mem_of_getElem? (i := 191) rfl)))) rfl)
theorem wn_O_blocked : Cond.instanceMethod y_O_blocked ∈ fr_ws := (fr_in (List.mem_append_right _ (List.mem_append_right _ (List.mem_append_left _ (List.mem_of_getElem? (i := 190) (by decide +kernel))))) rfl)
theorem wl_O_blocked : Cond.selects y_O_blocked.cls y_O_blocked y_O_blocked ∈ fr_ws := fr_inp (y := y_O_blocked) (n := 37) (List.mem_append_right _ (List.mem_of_getElem? (i := 8) rfl))
theorem mv_O_146 : fr_mv R_O 146 y_O_blocked c_O_blocked 4 (some .boolean) 1 := ⟨⟨(fr_in (List.mem_append_right _ (List.mem_append_right _ (List.mem_append_left _ (List.mem_of_getElem? (i := 188) (by decide +kernel))))) rfl), wi_6, wc_O_blocked, by decide, by decide, by decide +kernel⟩, wn_O_blocked, wl_O_blocked⟩
theorem wc_O_give : Cond.code y_O_give c_O_give 3 none ∈ fr_ws := (fr_in (List.mem_append_right _ (List.mem_append_right _ (List.mem_append_left _ (List.mem_of_getElem? (i := 195) rfl)))) rfl)
theorem wn_O_give : Cond.instanceMethod y_O_give ∈ fr_ws := (fr_in (List.mem_append_right _ (List.mem_append_right _ (List.mem_append_left _ (List.mem_of_getElem? (i := 194) (by decide +kernel))))) rfl)
theorem wl_O_give : Cond.selects y_O_give.cls y_O_give y_O_give ∈ fr_ws := fr_inp (y := y_O_give) (n := 37) (List.mem_append_right _ (List.mem_of_getElem? (i := 9) rfl))
theorem mv_O_149 : fr_mv R_O 149 y_O_give c_O_give 3 none 2 := ⟨⟨(fr_in (List.mem_append_right _ (List.mem_append_right _ (List.mem_append_left _ (List.mem_of_getElem? (i := 192) (by decide +kernel))))) rfl), wi_6, wc_O_give, by decide, by decide, by decide +kernel⟩, wn_O_give, wl_O_give⟩
theorem wc_O_receive : Cond.code y_O_receive c_O_receive 4 none ∈ fr_ws := (fr_in (List.mem_append_right _ (List.mem_append_right _ (List.mem_append_left _ (List.mem_of_getElem? (i := 156) rfl)))) rfl)
theorem wn_O_receive : Cond.instanceMethod y_O_receive ∈ fr_ws := (fr_in (List.mem_append_right _ (List.mem_append_right _ (List.mem_append_left _ (List.mem_of_getElem? (i := 155) (by decide +kernel))))) rfl)
theorem wl_O_receive : Cond.selects y_O_receive.cls y_O_receive y_O_receive ∈ fr_ws := fr_inp (y := y_O_receive) (n := 37) (List.mem_append_right _ (List.mem_of_getElem? (i := 0) rfl))
theorem mv_O_152 : fr_mv R_O 152 y_O_receive c_O_receive 4 none 1 := ⟨⟨(fr_in (List.mem_append_right _ (List.mem_append_right _ (List.mem_append_left _ (List.mem_of_getElem? (i := 153) (by decide +kernel))))) rfl), wi_6, wc_O_receive, by decide, by decide, by decide +kernel⟩, wn_O_receive, wl_O_receive⟩
theorem wc_O_breaker : Cond.code y_O_breaker c_O_breaker 3 none ∈ fr_ws := (fr_in (List.mem_append_right _ (List.mem_append_right _ (List.mem_append_left _ (List.mem_of_getElem? (i := 160) rfl)))) rfl)
theorem wn_O_breaker : Cond.instanceMethod y_O_breaker ∈ fr_ws := (fr_in (List.mem_append_right _ (List.mem_append_right _ (List.mem_append_left _ (List.mem_of_getElem? (i := 159) (by decide +kernel))))) rfl)
theorem wl_O_breaker : Cond.selects y_O_breaker.cls y_O_breaker y_O_breaker ∈ fr_ws := fr_inp (y := y_O_breaker) (n := 37) (List.mem_append_right _ (List.mem_of_getElem? (i := 1) rfl))
theorem mv_O_155 : fr_mv R_O 155 y_O_breaker c_O_breaker 3 none 1 := ⟨⟨(fr_in (List.mem_append_right _ (List.mem_append_right _ (List.mem_append_left _ (List.mem_of_getElem? (i := 157) (by decide +kernel))))) rfl), wi_6, wc_O_breaker, by decide, by decide, by decide +kernel⟩, wn_O_breaker, wl_O_breaker⟩
theorem wc_O_measure : Cond.code y_O_measure c_O_measure 7 none ∈ fr_ws := (fr_in (List.mem_append_right _ (List.mem_append_right _ (List.mem_append_left _ (List.mem_of_getElem? (i := 168) rfl)))) rfl)
theorem wn_O_measure : Cond.instanceMethod y_O_measure ∈ fr_ws := (fr_in (List.mem_append_right _ (List.mem_append_right _ (List.mem_append_left _ (List.mem_of_getElem? (i := 167) (by decide +kernel))))) rfl)
theorem wl_O_measure : Cond.selects y_O_measure.cls y_O_measure y_O_measure ∈ fr_ws := fr_inp (y := y_O_measure) (n := 37) (List.mem_append_right _ (List.mem_of_getElem? (i := 3) rfl))
theorem mv_O_158 : fr_mv R_O 158 y_O_measure c_O_measure 7 none 1 := ⟨⟨(fr_in (List.mem_append_right _ (List.mem_append_right _ (List.mem_append_left _ (List.mem_of_getElem? (i := 165) (by decide +kernel))))) rfl), wi_6, wc_O_measure, by decide, by decide, by decide +kernel⟩, wn_O_measure, wl_O_measure⟩
theorem wc_O_trip : Cond.code y_O_trip c_O_trip 4 none ∈ fr_ws := (fr_in (List.mem_append_right _ (List.mem_append_right _ (List.mem_append_left _ (List.mem_of_getElem? (i := 187) rfl)))) rfl)
theorem wn_O_trip : Cond.instanceMethod y_O_trip ∈ fr_ws := (fr_in (List.mem_append_right _ (List.mem_append_right _ (List.mem_append_left _ (List.mem_of_getElem? (i := 186) (by decide +kernel))))) rfl)
theorem wl_O_trip : Cond.selects y_O_trip.cls y_O_trip y_O_trip ∈ fr_ws := fr_inp (y := y_O_trip) (n := 37) (List.mem_append_right _ (List.mem_of_getElem? (i := 7) rfl))
theorem mv_O_161 : fr_mv R_O 161 y_O_trip c_O_trip 4 none 1 := ⟨⟨(fr_in (List.mem_append_right _ (List.mem_append_right _ (List.mem_append_left _ (List.mem_of_getElem? (i := 184) (by decide +kernel))))) rfl), wi_6, wc_O_trip, by decide, by decide, by decide +kernel⟩, wn_O_trip, wl_O_trip⟩
theorem wc_O_fail : Cond.code y_O_fail c_O_fail 3 none ∈ fr_ws := (fr_in (List.mem_append_right _ (List.mem_append_right _ (List.mem_append_left _ (List.mem_of_getElem? (i := 199) rfl)))) rfl)
theorem wn_O_fail : Cond.instanceMethod y_O_fail ∈ fr_ws := (fr_in (List.mem_append_right _ (List.mem_append_right _ (List.mem_append_left _ (List.mem_of_getElem? (i := 198) (by decide +kernel))))) rfl)
theorem wl_O_fail : Cond.selects y_O_fail.cls y_O_fail y_O_fail ∈ fr_ws := fr_inp (y := y_O_fail) (n := 37) (List.mem_append_right _ (List.mem_of_getElem? (i := 10) rfl))
theorem mv_O_164 : fr_mv R_O 164 y_O_fail c_O_fail 3 none 1 := ⟨⟨(fr_in (List.mem_append_right _ (List.mem_append_right _ (List.mem_append_left _ (List.mem_of_getElem? (i := 196) (by decide +kernel))))) rfl), wi_6, wc_O_fail, by decide, by decide, by decide +kernel⟩, wn_O_fail, wl_O_fail⟩
theorem fl_O_167 : fr_fl R_O 167 6 34 .int false := ⟨fr_q6, ty_O, rfl, cf_O, by decide, (fr_in (List.mem_append_right _ (List.mem_append_right _ (List.mem_append_left _ (List.mem_of_getElem? (i := 30) (by decide +kernel))))) rfl), rfl, rfl, rfl⟩
theorem wc_O_tick : Cond.code y_O_tick c_O_tick 2 none ∈ fr_ws := (fr_in (List.mem_append_right _ (List.mem_append_right _ (List.mem_append_left _ (List.mem_of_getElem? (i := 152) rfl)))) rfl)
theorem wn_O_tick : Cond.instanceMethod y_O_tick ∈ fr_ws := (fr_in (List.mem_append_right _ (List.mem_append_right _ (List.mem_append_left _ (List.mem_of_getElem? (i := 151) (by decide +kernel))))) rfl)
theorem wl_O_tick : Cond.selects y_O_tick.cls y_O_tick y_O_tick ∈ fr_ws := fr_inp (y := y_O_tick) (n := 37) (List.mem_append_left _ (List.mem_of_getElem? (i := 15) rfl))
theorem mv_O_170 : fr_mv R_O 170 y_O_tick c_O_tick 2 none 0 := ⟨⟨(fr_in (List.mem_append_right _ (List.mem_append_right _ (List.mem_append_left _ (List.mem_of_getElem? (i := 149) (by decide +kernel))))) rfl), wi_6, wc_O_tick, by decide, by decide, by decide +kernel⟩, wn_O_tick, wl_O_tick⟩
theorem lc_O_173 : Cond.constantLong R_O 173 (-1) ∈ fr_ws := (fr_in (List.mem_append_right _ (List.mem_append_right _ (List.mem_append_left _ (List.mem_of_getElem? (i := 220) (by decide +kernel))))) rfl)
theorem ml_B_1 : Cond.methodLink R_B 1 objectInit ∈ fr_ws := (fr_in (List.mem_append_left _ (List.mem_of_getElem? (i := 119) (by decide +kernel))) rfl)
theorem fl_B_7 : fr_fl R_B 7 4 0 .boolean false := ⟨fr_q4, ty_B, rfl, cf_B, by decide, (fr_in (List.mem_append_left _ (List.mem_of_getElem? (i := 120) (by decide +kernel))) rfl), rfl, rfl, rfl⟩
theorem fl_B_13 : fr_fl R_B 13 4 6 .boolean false := ⟨fr_q4, ty_B, rfl, cf_B, by decide, (fr_in (List.mem_append_left _ (List.mem_of_getElem? (i := 132) (by decide +kernel))) rfl), rfl, rfl, rfl⟩
theorem fl_B_16 : fr_fl R_B 16 4 4 .boolean false := ⟨fr_q4, ty_B, rfl, cf_B, by decide, (fr_in (List.mem_append_left _ (List.mem_of_getElem? (i := 128) (by decide +kernel))) rfl), rfl, rfl, rfl⟩
theorem fl_B_19 : fr_fl R_B 19 4 7 .int false := ⟨fr_q4, ty_B, rfl, cf_B, by decide, (fr_in (List.mem_append_left _ (List.mem_of_getElem? (i := 133) (by decide +kernel))) rfl), rfl, rfl, rfl⟩
theorem fl_B_23 : fr_fl R_B 23 4 3 .boolean false := ⟨fr_q4, ty_B, rfl, cf_B, by decide, (fr_in (List.mem_append_left _ (List.mem_of_getElem? (i := 126) (by decide +kernel))) rfl), rfl, rfl, rfl⟩
theorem fl_B_26 : fr_fl R_B 26 4 1 .boolean false := ⟨fr_q4, ty_B, rfl, cf_B, by decide, (fr_in (List.mem_append_left _ (List.mem_of_getElem? (i := 122) (by decide +kernel))) rfl), rfl, rfl, rfl⟩
theorem fl_B_29 : fr_fl R_B 29 4 8 .boolean false := ⟨fr_q4, ty_B, rfl, cf_B, by decide, (fr_in (List.mem_append_left _ (List.mem_of_getElem? (i := 134) (by decide +kernel))) rfl), rfl, rfl, rfl⟩
theorem fl_B_32 : fr_fl R_B 32 4 5 .int false := ⟨fr_q4, ty_B, rfl, cf_B, by decide, (fr_in (List.mem_append_left _ (List.mem_of_getElem? (i := 130) (by decide +kernel))) rfl), rfl, rfl, rfl⟩
theorem wc_B_pauseAfter : Cond.code y_B_pauseAfter c_B_pauseAfter 1 (some .int) ∈ fr_ws := (fr_in (List.mem_append_right _ (List.mem_append_left _ (List.mem_of_getElem? (i := 70) rfl))) rfl)
theorem ms_B_35 : fr_ms R_B 35 y_B_pauseAfter c_B_pauseAfter 1 (some .int) 1 := ⟨⟨(fr_in (List.mem_append_right _ (List.mem_append_left _ (List.mem_of_getElem? (i := 68) (by decide +kernel)))) rfl), wi_4, wc_B_pauseAfter, by decide, by decide, by decide +kernel⟩, (fr_in (List.mem_append_right _ (List.mem_append_left _ (List.mem_of_getElem? (i := 69) (by decide +kernel)))) rfl)⟩
theorem fl_B_39 : fr_fl R_B 39 4 9 .int false := ⟨fr_q4, ty_B, rfl, cf_B, by decide, (fr_in (List.mem_append_left _ (List.mem_of_getElem? (i := 135) (by decide +kernel))) rfl), rfl, rfl, rfl⟩
theorem fl_B_42 : fr_fl R_B 42 4 10 .int false := ⟨fr_q4, ty_B, rfl, cf_B, by decide, (fr_in (List.mem_append_left _ (List.mem_of_getElem? (i := 136) (by decide +kernel))) rfl), rfl, rfl, rfl⟩
theorem fl_B_45 : fr_fl R_B 45 4 2 .boolean false := ⟨fr_q4, ty_B, rfl, cf_B, by decide, (fr_in (List.mem_append_left _ (List.mem_of_getElem? (i := 124) (by decide +kernel))) rfl), rfl, rfl, rfl⟩
theorem ml_J_1 : Cond.methodLink R_J 1 objectInit ∈ fr_ws := (fr_in (List.mem_append_left _ (List.mem_of_getElem? (i := 25) (by decide +kernel))) rfl)
theorem fl_J_9 : fr_fl R_J 9 1 0 (.array .int) true := ⟨fr_q1, ty_J, rfl, cf_J, by decide, (fr_in (List.mem_append_left _ (List.mem_of_getElem? (i := 26) (by decide +kernel))) rfl), rfl, rfl, rfl⟩
theorem fl_J_13 : fr_fl R_J 13 1 1 (.array .int) true := ⟨fr_q1, ty_J, rfl, cf_J, by decide, (fr_in (List.mem_append_left _ (List.mem_of_getElem? (i := 28) (by decide +kernel))) rfl), rfl, rfl, rfl⟩
theorem fl_J_16 : fr_fl R_J 16 1 2 .int false := ⟨fr_q1, ty_J, rfl, cf_J, by decide, (fr_in (List.mem_append_left _ (List.mem_of_getElem? (i := 30) (by decide +kernel))) rfl), rfl, rfl, rfl⟩
theorem fl_J_20 : fr_fl R_J 20 1 3 .int false := ⟨fr_q1, ty_J, rfl, cf_J, by decide, (fr_in (List.mem_append_left _ (List.mem_of_getElem? (i := 32) (by decide +kernel))) rfl), rfl, rfl, rfl⟩
theorem ml_J_23 : Cond.methodLink R_J 23 Lib.Math.min.name ∈ fr_ws := (fr_in (List.mem_append_right _ (List.mem_append_left _ (List.mem_of_getElem? (i := 156) (by decide +kernel)))) rfl)
theorem ml_M_1 : Cond.methodLink R_M 1 objectInit ∈ fr_ws := (fr_in (List.mem_append_left _ (List.mem_of_getElem? (i := 85) (by decide +kernel))) rfl)
theorem fl_M_9 : fr_fl R_M 9 3 0 (.array .int) true := ⟨fr_q3, ty_M, rfl, cf_M, by decide, (fr_in (List.mem_append_left _ (List.mem_of_getElem? (i := 86) (by decide +kernel))) rfl), rfl, rfl, rfl⟩
theorem fl_M_13 : fr_fl R_M 13 3 3 .int false := ⟨fr_q3, ty_M, rfl, cf_M, by decide, (fr_in (List.mem_append_left _ (List.mem_of_getElem? (i := 89) (by decide +kernel))) rfl), rfl, rfl, rfl⟩
theorem fl_M_17 : fr_fl R_M 17 3 4 .int false := ⟨fr_q3, ty_M, rfl, cf_M, by decide, (fr_in (List.mem_append_left _ (List.mem_of_getElem? (i := 90) (by decide +kernel))) rfl), rfl, rfl, rfl⟩
theorem fl_M_20 : fr_fl R_M 20 3 2 .int false := ⟨fr_q3, ty_M, rfl, cf_M, by decide, (fr_in (List.mem_append_left _ (List.mem_of_getElem? (i := 88) (by decide +kernel))) rfl), rfl, rfl, rfl⟩
theorem fl_M_23 : fr_fl R_M 23 3 1 .int false := ⟨fr_q3, ty_M, rfl, cf_M, by decide, (fr_in (List.mem_append_left _ (List.mem_of_getElem? (i := 87) (by decide +kernel))) rfl), rfl, rfl, rfl⟩
theorem wc_M_rootOfMeanSquare : Cond.code y_M_rootOfMeanSquare c_M_rootOfMeanSquare 9 (some .int) ∈ fr_ws := (fr_in (List.mem_append_right _ (List.mem_append_left _ (List.mem_of_getElem? (i := 98) rfl))) rfl)
theorem wn_M_rootOfMeanSquare : Cond.instanceMethod y_M_rootOfMeanSquare ∈ fr_ws := (fr_in (List.mem_append_right _ (List.mem_append_left _ (List.mem_of_getElem? (i := 97) (by decide +kernel)))) rfl)
theorem wl_M_rootOfMeanSquare : Cond.selects y_M_rootOfMeanSquare.cls y_M_rootOfMeanSquare y_M_rootOfMeanSquare ∈ fr_ws := fr_inp (y := y_M_rootOfMeanSquare) (n := 8) (List.mem_append_left _ (List.mem_of_getElem? (i := 7) rfl))
theorem mv_M_26 : fr_mv R_M 26 y_M_rootOfMeanSquare c_M_rootOfMeanSquare 9 (some .int) 0 := ⟨⟨(fr_in (List.mem_append_right _ (List.mem_append_left _ (List.mem_of_getElem? (i := 95) (by decide +kernel)))) rfl), wi_3, wc_M_rootOfMeanSquare, by decide, by decide, by decide +kernel⟩, wn_M_rootOfMeanSquare, wl_M_rootOfMeanSquare⟩
theorem fl_M_30 : fr_fl R_M 30 3 5 .int false := ⟨fr_q3, ty_M, rfl, cf_M, by decide, (fr_in (List.mem_append_left _ (List.mem_of_getElem? (i := 91) (by decide +kernel))) rfl), rfl, rfl, rfl⟩
theorem fl_M_33 : fr_fl R_M 33 3 6 .boolean false := ⟨fr_q3, ty_M, rfl, cf_M, by decide, (fr_in (List.mem_append_left _ (List.mem_of_getElem? (i := 93) (by decide +kernel))) rfl), rfl, rfl, rfl⟩
theorem fl_M_37 : fr_fl R_M 37 3 7 .long false := ⟨fr_q3, ty_M, rfl, cf_M, by decide, (fr_in (List.mem_append_left _ (List.mem_of_getElem? (i := 95) (by decide +kernel))) rfl), rfl, rfl, rfl⟩
theorem wc_M_growth : Cond.code y_M_growth c_M_growth 1 (some .long) ∈ fr_ws := (fr_in (List.mem_append_right _ (List.mem_append_left _ (List.mem_of_getElem? (i := 104) rfl))) rfl)
theorem wn_M_growth : Cond.instanceMethod y_M_growth ∈ fr_ws := (fr_in (List.mem_append_right _ (List.mem_append_left _ (List.mem_of_getElem? (i := 103) (by decide +kernel)))) rfl)
theorem wl_M_growth : Cond.selects y_M_growth.cls y_M_growth y_M_growth ∈ fr_ws := fr_inp (y := y_M_growth) (n := 8) (List.mem_append_left _ (List.mem_of_getElem? (i := 8) rfl))
theorem mv_M_41 : fr_mv R_M 41 y_M_growth c_M_growth 1 (some .long) 0 := ⟨⟨(fr_in (List.mem_append_right _ (List.mem_append_left _ (List.mem_of_getElem? (i := 101) (by decide +kernel)))) rfl), wi_3, wc_M_growth, by decide, by decide, by decide +kernel⟩, wn_M_growth, wl_M_growth⟩
theorem wc_M_limit : Cond.code y_M_limit c_M_limit 1 (some .long) ∈ fr_ws := (fr_in (List.mem_append_right _ (List.mem_append_left _ (List.mem_of_getElem? (i := 127) rfl))) rfl)
theorem wn_M_limit : Cond.instanceMethod y_M_limit ∈ fr_ws := (fr_in (List.mem_append_right _ (List.mem_append_left _ (List.mem_of_getElem? (i := 126) (by decide +kernel)))) rfl)
theorem wl_M_limit : Cond.selects y_M_limit.cls y_M_limit y_M_limit ∈ fr_ws := fr_inp (y := y_M_limit) (n := 8) (List.mem_append_left _ (List.mem_of_getElem? (i := 11) rfl))
theorem mv_M_45 : fr_mv R_M 45 y_M_limit c_M_limit 1 (some .long) 0 := ⟨⟨(fr_in (List.mem_append_right _ (List.mem_append_left _ (List.mem_of_getElem? (i := 124) (by decide +kernel)))) rfl), wi_3, wc_M_limit, by decide, by decide, by decide +kernel⟩, wn_M_limit, wl_M_limit⟩
theorem wi_7 : Cond.initialized "java/util/Arrays" ∈ fr_ws := (fr_in (List.mem_append_left _ (List.mem_of_getElem? (i := 9) (by decide +kernel))) rfl)
theorem wc_A_fill : Cond.code y_A_fill c_A_fill 4 none ∈ fr_ws := (fr_in (List.mem_append_right _ (List.mem_append_left _ (List.mem_of_getElem? (i := 167) rfl))) rfl)
theorem ms_M_48 : fr_ms R_M 48 y_A_fill c_A_fill 4 none 2 := ⟨⟨(fr_in (List.mem_append_right _ (List.mem_append_left _ (List.mem_of_getElem? (i := 165) (by decide +kernel)))) rfl), wi_7, wc_A_fill, by decide, by decide, by decide +kernel⟩, (fr_in (List.mem_append_right _ (List.mem_append_left _ (List.mem_of_getElem? (i := 166) (by decide +kernel)))) rfl)⟩
theorem lc_M_54 : Cond.constantLong R_M 54 4 ∈ fr_ws := (fr_in (List.mem_append_right _ (List.mem_append_left _ (List.mem_of_getElem? (i := 99) (by decide +kernel)))) rfl)
theorem lc_M_56 : Cond.constant R_M 56 131072 ∈ fr_ws := (fr_in (List.mem_append_right _ (List.mem_append_left _ (List.mem_of_getElem? (i := 100) (by decide +kernel)))) rfl)
theorem ml_R_3 : Cond.methodLink R_R 3 objectInit ∈ fr_ws := (fr_in (List.mem_append_left _ (List.mem_of_getElem? (i := 79) (by decide +kernel))) rfl)
theorem nc_R_9 : fr_nc R_R 9 3 fr_q3 ty_M := ⟨(fr_in (List.mem_append_left _ (List.mem_of_getElem? (i := 80) (by decide +kernel))) rfl), (fr_in (List.mem_append_left _ (List.mem_of_getElem? (i := 81) (by decide +kernel))) rfl), wi_3, rfl, cf_M⟩
theorem wc_M_init : Cond.code y_M_init c_M_init 1 none ∈ fr_ws := (fr_in (List.mem_append_left _ (List.mem_of_getElem? (i := 84) rfl)) rfl)
theorem wn_M_init : Cond.instanceMethod y_M_init ∈ fr_ws := (fr_in (List.mem_append_left _ (List.mem_of_getElem? (i := 83) (by decide +kernel))) rfl)
theorem mn_R_11 : fr_mn R_R 11 y_M_init R_F c_M_init 1 0 := ⟨List.mem_of_getElem? (i := 1) rfl, wi_3, wc_M_init, ⟨by decide, by decide, by decide +kernel⟩, wn_M_init, rfl⟩
theorem fl_R_12 : fr_fl R_R 12 2 1 (.object "FeederRelays$Meter") true := ⟨fr_q2, ty_R, rfl, cf_R, by decide, (fr_in (List.mem_append_left _ (List.mem_of_getElem? (i := 199) (by decide +kernel))) rfl), rfl, rfl, rfl⟩
theorem nc_R_18 : fr_nc R_R 18 4 fr_q4 ty_B := ⟨(fr_in (List.mem_append_left _ (List.mem_of_getElem? (i := 114) (by decide +kernel))) rfl), (fr_in (List.mem_append_left _ (List.mem_of_getElem? (i := 115) (by decide +kernel))) rfl), wi_4, rfl, cf_B⟩
theorem wc_B_init : Cond.code y_B_init c_B_init 1 none ∈ fr_ws := (fr_in (List.mem_append_left _ (List.mem_of_getElem? (i := 118) rfl)) rfl)
theorem wn_B_init : Cond.instanceMethod y_B_init ∈ fr_ws := (fr_in (List.mem_append_left _ (List.mem_of_getElem? (i := 117) (by decide +kernel))) rfl)
theorem mn_R_20 : fr_mn R_R 20 y_B_init R_F c_B_init 1 0 := ⟨List.mem_of_getElem? (i := 2) rfl, wi_4, wc_B_init, ⟨by decide, by decide, by decide +kernel⟩, wn_B_init, rfl⟩
theorem fl_R_21 : fr_fl R_R 21 2 2 (.object "FeederRelays$Breaker") true := ⟨fr_q2, ty_R, rfl, cf_R, by decide, (fr_in (List.mem_append_left _ (List.mem_of_getElem? (i := 201) (by decide +kernel))) rfl), rfl, rfl, rfl⟩
theorem fl_R_25 : fr_fl R_R 25 2 6 .int false := ⟨fr_q2, ty_R, rfl, cf_R, by decide, (fr_in (List.mem_append_left _ (List.mem_of_getElem? (i := 207) (by decide +kernel))) rfl), rfl, rfl, rfl⟩
theorem fl_R_29 : fr_fl R_R 29 2 0 .int true := ⟨fr_q2, ty_R, rfl, cf_R, by decide, (fr_in (List.mem_append_left _ (List.mem_of_getElem? (i := 197) (by decide +kernel))) rfl), rfl, rfl, rfl⟩
theorem nc_R_32 : fr_nc R_R 32 5 fr_q5 ty_W := ⟨(fr_in (List.mem_append_left _ (List.mem_of_getElem? (i := 160) (by decide +kernel))) rfl), (fr_in (List.mem_append_left _ (List.mem_of_getElem? (i := 161) (by decide +kernel))) rfl), wi_5, rfl, cf_W⟩
theorem wc_W_init : Cond.code y_W_init c_W_init 2 none ∈ fr_ws := (fr_in (List.mem_append_left _ (List.mem_of_getElem? (i := 164) rfl)) rfl)
theorem wn_W_init : Cond.instanceMethod y_W_init ∈ fr_ws := (fr_in (List.mem_append_left _ (List.mem_of_getElem? (i := 163) (by decide +kernel))) rfl)
theorem mi_R_34 : fr_mi R_R 34 y_W_init c_W_init 2 1 := ⟨⟨(fr_in (List.mem_append_left _ (List.mem_of_getElem? (i := 162) (by decide +kernel))) rfl), wi_5, wc_W_init, by decide, by decide, by decide +kernel⟩, wn_W_init, rfl⟩
theorem fl_R_37 : fr_fl R_R 37 2 3 (.object "FeederRelays$Wire") true := ⟨fr_q2, ty_R, rfl, cf_R, by decide, (fr_in (List.mem_append_left _ (List.mem_of_getElem? (i := 203) (by decide +kernel))) rfl), rfl, rfl, rfl⟩
theorem ml_W_1 : Cond.methodLink R_W 1 objectInit ∈ fr_ws := (fr_in (List.mem_append_left _ (List.mem_of_getElem? (i := 165) (by decide +kernel))) rfl)
theorem fl_W_9 : fr_fl R_W 9 5 1 (.array .int) true := ⟨fr_q5, ty_W, rfl, cf_W, by decide, (fr_in (List.mem_append_left _ (List.mem_of_getElem? (i := 167) (by decide +kernel))) rfl), rfl, rfl, rfl⟩
theorem fl_W_13 : fr_fl R_W 13 5 2 (.array .int) true := ⟨fr_q5, ty_W, rfl, cf_W, by decide, (fr_in (List.mem_append_left _ (List.mem_of_getElem? (i := 168) (by decide +kernel))) rfl), rfl, rfl, rfl⟩
theorem fl_W_16 : fr_fl R_W 16 5 3 .int false := ⟨fr_q5, ty_W, rfl, cf_W, by decide, (fr_in (List.mem_append_left _ (List.mem_of_getElem? (i := 169) (by decide +kernel))) rfl), rfl, rfl, rfl⟩
theorem fl_W_20 : fr_fl R_W 20 5 8 .int false := ⟨fr_q5, ty_W, rfl, cf_W, by decide, (fr_in (List.mem_append_left _ (List.mem_of_getElem? (i := 177) (by decide +kernel))) rfl), rfl, rfl, rfl⟩
theorem fl_W_23 : fr_fl R_W 23 5 0 .boolean true := ⟨fr_q5, ty_W, rfl, cf_W, by decide, (fr_in (List.mem_append_left _ (List.mem_of_getElem? (i := 166) (by decide +kernel))) rfl), rfl, rfl, rfl⟩
theorem wc_W_placeOf : Cond.code y_W_placeOf c_W_placeOf 1 (some .int) ∈ fr_ws := (fr_in (List.mem_append_right _ (List.mem_append_left _ (List.mem_of_getElem? (i := 43) rfl))) rfl)
theorem ms_W_27 : fr_ms R_W 27 y_W_placeOf c_W_placeOf 1 (some .int) 1 := ⟨⟨(fr_in (List.mem_append_right _ (List.mem_append_left _ (List.mem_of_getElem? (i := 41) (by decide +kernel)))) rfl), wi_5, wc_W_placeOf, by decide, by decide, by decide +kernel⟩, (fr_in (List.mem_append_right _ (List.mem_append_left _ (List.mem_of_getElem? (i := 42) (by decide +kernel)))) rfl)⟩
theorem wc_W_learn : Cond.code y_W_learn c_W_learn 3 none ∈ fr_ws := (fr_in (List.mem_append_right _ (List.mem_append_left _ (List.mem_of_getElem? (i := 47) rfl))) rfl)
theorem wn_W_learn : Cond.instanceMethod y_W_learn ∈ fr_ws := (fr_in (List.mem_append_right _ (List.mem_append_left _ (List.mem_of_getElem? (i := 46) (by decide +kernel)))) rfl)
theorem wl_W_learn : Cond.selects y_W_learn.cls y_W_learn y_W_learn ∈ fr_ws := fr_inp (y := y_W_learn) (n := 9) (List.mem_append_left _ (List.mem_of_getElem? (i := 3) rfl))
theorem mv_W_31 : fr_mv R_W 31 y_W_learn c_W_learn 3 none 2 := ⟨⟨(fr_in (List.mem_append_right _ (List.mem_append_left _ (List.mem_of_getElem? (i := 44) (by decide +kernel)))) rfl), wi_5, wc_W_learn, by decide, by decide, by decide +kernel⟩, wn_W_learn, wl_W_learn⟩
theorem fl_W_35 : fr_fl R_W 35 5 4 .int false := ⟨fr_q5, ty_W, rfl, cf_W, by decide, (fr_in (List.mem_append_left _ (List.mem_of_getElem? (i := 171) (by decide +kernel))) rfl), rfl, rfl, rfl⟩
theorem fl_W_38 : fr_fl R_W 38 5 7 .int false := ⟨fr_q5, ty_W, rfl, cf_W, by decide, (fr_in (List.mem_append_left _ (List.mem_of_getElem? (i := 176) (by decide +kernel))) rfl), rfl, rfl, rfl⟩
theorem ml_W_41 : Cond.methodLink R_W 41 Lib.Math.min.name ∈ fr_ws := (fr_in (List.mem_append_right _ (List.mem_append_left _ (List.mem_of_getElem? (i := 109) (by decide +kernel)))) rfl)
theorem wc_W_send : Cond.code y_W_send c_W_send 4 none ∈ fr_ws := (fr_in (List.mem_append_right _ (List.mem_append_left _ (List.mem_of_getElem? (i := 115) rfl))) rfl)
theorem wn_W_send : Cond.instanceMethod y_W_send ∈ fr_ws := (fr_in (List.mem_append_right _ (List.mem_append_left _ (List.mem_of_getElem? (i := 114) (by decide +kernel)))) rfl)
theorem wl_W_send : Cond.selects y_W_send.cls y_W_send y_W_send ∈ fr_ws := fr_inp (y := y_W_send) (n := 9) (List.mem_append_left _ (List.mem_of_getElem? (i := 9) rfl))
theorem mv_W_47 : fr_mv R_W 47 y_W_send c_W_send 4 none 2 := ⟨⟨(fr_in (List.mem_append_right _ (List.mem_append_left _ (List.mem_of_getElem? (i := 112) (by decide +kernel)))) rfl), wi_5, wc_W_send, by decide, by decide, by decide +kernel⟩, wn_W_send, wl_W_send⟩
theorem fl_W_50 : fr_fl R_W 50 5 5 .int false := ⟨fr_q5, ty_W, rfl, cf_W, by decide, (fr_in (List.mem_append_left _ (List.mem_of_getElem? (i := 173) (by decide +kernel))) rfl), rfl, rfl, rfl⟩
theorem fl_W_53 : fr_fl R_W 53 5 6 .int false := ⟨fr_q5, ty_W, rfl, cf_W, by decide, (fr_in (List.mem_append_left _ (List.mem_of_getElem? (i := 175) (by decide +kernel))) rfl), rfl, rfl, rfl⟩
theorem ms_W_56 : fr_ms R_W 56 y_A_fill c_A_fill 4 none 2 := ⟨⟨(fr_in (List.mem_append_right _ (List.mem_append_left _ (List.mem_of_getElem? (i := 172) (by decide +kernel)))) rfl), wi_7, wc_A_fill, by decide, by decide, by decide +kernel⟩, (fr_in (List.mem_append_right _ (List.mem_append_left _ (List.mem_of_getElem? (i := 166) (by decide +kernel)))) rfl)⟩
theorem nc_L_7 : fr_nc R_L 7 0 fr_q0 ty_F := ⟨(fr_in (List.mem_append_left _ (List.mem_of_getElem? (i := 10) (by decide +kernel))) rfl), (fr_in (List.mem_append_left _ (List.mem_of_getElem? (i := 11) (by decide +kernel))) rfl), wi_1, rfl, cf_F⟩
theorem wc_F_init : Cond.code y_F_init c_F_init 1 none ∈ fr_ws := (fr_in (List.mem_append_left _ (List.mem_of_getElem? (i := 14) rfl)) rfl)
theorem wn_F_init : Cond.instanceMethod y_F_init ∈ fr_ws := (fr_in (List.mem_append_left _ (List.mem_of_getElem? (i := 13) (by decide +kernel))) rfl)
theorem mi_L_9 : fr_mi R_L 9 y_F_init c_F_init 1 0 := ⟨⟨(fr_in (List.mem_append_left _ (List.mem_of_getElem? (i := 12) (by decide +kernel))) rfl), wi_1, wc_F_init, by decide, by decide, by decide +kernel⟩, wn_F_init, rfl⟩
theorem nc_L_10 : fr_nc R_L 10 6 fr_q6 ty_O := ⟨(fr_in (List.mem_append_right _ (List.mem_append_left _ (List.mem_of_getElem? (i := 230) (by decide +kernel)))) rfl), (fr_in (List.mem_append_right _ (List.mem_append_left _ (List.mem_of_getElem? (i := 231) (by decide +kernel)))) rfl), wi_6, rfl, cf_O⟩
theorem wc_O_init : Cond.code y_O_init c_O_init 1 none ∈ fr_ws := (fr_in (List.mem_append_right _ (List.mem_append_left _ (List.mem_of_getElem? (i := 234) rfl))) rfl)
theorem wn_O_init : Cond.instanceMethod y_O_init ∈ fr_ws := (fr_in (List.mem_append_right _ (List.mem_append_left _ (List.mem_of_getElem? (i := 233) (by decide +kernel)))) rfl)
theorem mi_L_12 : fr_mi R_L 12 y_O_init c_O_init 1 0 := ⟨⟨(fr_in (List.mem_append_right _ (List.mem_append_left _ (List.mem_of_getElem? (i := 232) (by decide +kernel)))) rfl), wi_6, wc_O_init, by decide, by decide, by decide +kernel⟩, wn_O_init, rfl⟩
theorem wc_F_relay : Cond.code y_F_relay c_F_relay 2 (some .int) ∈ fr_ws := (fr_in (List.mem_append_left _ (List.mem_of_getElem? (i := 66) rfl)) rfl)
theorem wn_F_relay : Cond.instanceMethod y_F_relay ∈ fr_ws := (fr_in (List.mem_append_left _ (List.mem_of_getElem? (i := 64) (by decide +kernel))) rfl)
theorem wl_F_relay : Cond.selects y_F_relay.cls y_F_relay y_F_relay ∈ fr_ws := (fr_in (List.mem_append_left _ (List.mem_of_getElem? (i := 65) (by decide +kernel))) rfl)
theorem mv_L_13 : fr_mv R_L 13 y_F_relay c_F_relay 2 (some .int) 1 := ⟨⟨(fr_in (List.mem_append_left _ (List.mem_of_getElem? (i := 63) (by decide +kernel))) rfl), wi_1, wc_F_relay, by decide, by decide, by decide +kernel⟩, wn_F_relay, wl_F_relay⟩
theorem wc_O_relay : Cond.code y_O_relay c_O_relay 2 (some .int) ∈ fr_ws := (fr_in (List.mem_append_right _ (List.mem_append_right _ (List.mem_append_left _ (List.mem_of_getElem? (i := 112) rfl)))) rfl)
theorem wn_O_relay : Cond.instanceMethod y_O_relay ∈ fr_ws := (fr_in (List.mem_append_right _ (List.mem_append_right _ (List.mem_append_left _ (List.mem_of_getElem? (i := 110) (by decide +kernel))))) rfl)
theorem wl_O_relay : Cond.selects y_O_relay.cls y_O_relay y_O_relay ∈ fr_ws := (fr_in (List.mem_append_right _ (List.mem_append_right _ (List.mem_append_left _ (List.mem_of_getElem? (i := 111) (by decide +kernel))))) rfl)
theorem mv_L_17 : fr_mv R_L 17 y_O_relay c_O_relay 2 (some .int) 1 := ⟨⟨(fr_in (List.mem_append_right _ (List.mem_append_right _ (List.mem_append_left _ (List.mem_of_getElem? (i := 109) (by decide +kernel))))) rfl), wi_6, wc_O_relay, by decide, by decide, by decide +kernel⟩, wn_O_relay, wl_O_relay⟩
theorem wc_F_settings : Cond.code y_F_settings c_F_settings 5 (some .boolean) ∈ fr_ws := (fr_in (List.mem_append_left _ (List.mem_of_getElem? (i := 233) rfl)) rfl)
theorem wn_F_settings : Cond.instanceMethod y_F_settings ∈ fr_ws := (fr_in (List.mem_append_left _ (List.mem_of_getElem? (i := 231) (by decide +kernel))) rfl)
theorem wl_F_settings : Cond.selects y_F_settings.cls y_F_settings y_F_settings ∈ fr_ws := (fr_in (List.mem_append_left _ (List.mem_of_getElem? (i := 232) (by decide +kernel))) rfl)
theorem mv_L_18 : fr_mv R_L 18 y_F_settings c_F_settings 5 (some .boolean) 4 := ⟨⟨(fr_in (List.mem_append_left _ (List.mem_of_getElem? (i := 230) (by decide +kernel))) rfl), wi_1, wc_F_settings, by decide, by decide, by decide +kernel⟩, wn_F_settings, wl_F_settings⟩
theorem wc_O_settings : Cond.code y_O_settings c_O_settings 5 (some .boolean) ∈ fr_ws := (fr_in (List.mem_append_right _ (List.mem_append_right _ (List.mem_append_left _ (List.mem_of_getElem? (i := 120) rfl)))) rfl)
theorem wn_O_settings : Cond.instanceMethod y_O_settings ∈ fr_ws := (fr_in (List.mem_append_right _ (List.mem_append_right _ (List.mem_append_left _ (List.mem_of_getElem? (i := 118) (by decide +kernel))))) rfl)
theorem wl_O_settings : Cond.selects y_O_settings.cls y_O_settings y_O_settings ∈ fr_ws := (fr_in (List.mem_append_right _ (List.mem_append_right _ (List.mem_append_left _ (List.mem_of_getElem? (i := 119) (by decide +kernel))))) rfl)
theorem mv_L_22 : fr_mv R_L 22 y_O_settings c_O_settings 5 (some .boolean) 4 := ⟨⟨(fr_in (List.mem_append_right _ (List.mem_append_right _ (List.mem_append_left _ (List.mem_of_getElem? (i := 117) (by decide +kernel))))) rfl), wi_6, wc_O_settings, by decide, by decide, by decide +kernel⟩, wn_O_settings, wl_O_settings⟩
theorem wc_F_options : Cond.code y_F_options c_F_options 6 (some .boolean) ∈ fr_ws := (fr_in (List.mem_append_right _ (List.mem_append_left _ (List.mem_of_getElem? (i := 4) rfl))) rfl)
theorem wn_F_options : Cond.instanceMethod y_F_options ∈ fr_ws := (fr_in (List.mem_append_right _ (List.mem_append_left _ (List.mem_of_getElem? (i := 2) (by decide +kernel)))) rfl)
theorem wl_F_options : Cond.selects y_F_options.cls y_F_options y_F_options ∈ fr_ws := (fr_in (List.mem_append_right _ (List.mem_append_left _ (List.mem_of_getElem? (i := 3) (by decide +kernel)))) rfl)
theorem mv_L_23 : fr_mv R_L 23 y_F_options c_F_options 6 (some .boolean) 4 := ⟨⟨(fr_in (List.mem_append_right _ (List.mem_append_left _ (List.mem_of_getElem? (i := 1) (by decide +kernel)))) rfl), wi_1, wc_F_options, by decide, by decide, by decide +kernel⟩, wn_F_options, wl_F_options⟩
theorem wc_O_options : Cond.code y_O_options c_O_options 5 (some .boolean) ∈ fr_ws := (fr_in (List.mem_append_right _ (List.mem_append_right _ (List.mem_append_left _ (List.mem_of_getElem? (i := 124) rfl)))) rfl)
theorem wn_O_options : Cond.instanceMethod y_O_options ∈ fr_ws := (fr_in (List.mem_append_right _ (List.mem_append_right _ (List.mem_append_left _ (List.mem_of_getElem? (i := 122) (by decide +kernel))))) rfl)
theorem wl_O_options : Cond.selects y_O_options.cls y_O_options y_O_options ∈ fr_ws := (fr_in (List.mem_append_right _ (List.mem_append_right _ (List.mem_append_left _ (List.mem_of_getElem? (i := 123) (by decide +kernel))))) rfl)
theorem mv_L_27 : fr_mv R_L 27 y_O_options c_O_options 5 (some .boolean) 4 := ⟨⟨(fr_in (List.mem_append_right _ (List.mem_append_right _ (List.mem_append_left _ (List.mem_of_getElem? (i := 121) (by decide +kernel))))) rfl), wi_6, wc_O_options, by decide, by decide, by decide +kernel⟩, wn_O_options, wl_O_options⟩
theorem wc_F_load : Cond.code y_F_load c_F_load 3 (some .boolean) ∈ fr_ws := (fr_in (List.mem_append_right _ (List.mem_append_left _ (List.mem_of_getElem? (i := 8) rfl))) rfl)
theorem wn_F_load : Cond.instanceMethod y_F_load ∈ fr_ws := (fr_in (List.mem_append_right _ (List.mem_append_left _ (List.mem_of_getElem? (i := 6) (by decide +kernel)))) rfl)
theorem wl_F_load : Cond.selects y_F_load.cls y_F_load y_F_load ∈ fr_ws := (fr_in (List.mem_append_right _ (List.mem_append_left _ (List.mem_of_getElem? (i := 7) (by decide +kernel)))) rfl)
theorem mv_L_28 : fr_mv R_L 28 y_F_load c_F_load 3 (some .boolean) 2 := ⟨⟨(fr_in (List.mem_append_right _ (List.mem_append_left _ (List.mem_of_getElem? (i := 5) (by decide +kernel)))) rfl), wi_1, wc_F_load, by decide, by decide, by decide +kernel⟩, wn_F_load, wl_F_load⟩
theorem wc_O_load : Cond.code y_O_load c_O_load 3 (some .boolean) ∈ fr_ws := (fr_in (List.mem_append_right _ (List.mem_append_right _ (List.mem_append_left _ (List.mem_of_getElem? (i := 128) rfl)))) rfl)
theorem wn_O_load : Cond.instanceMethod y_O_load ∈ fr_ws := (fr_in (List.mem_append_right _ (List.mem_append_right _ (List.mem_append_left _ (List.mem_of_getElem? (i := 126) (by decide +kernel))))) rfl)
theorem wl_O_load : Cond.selects y_O_load.cls y_O_load y_O_load ∈ fr_ws := (fr_in (List.mem_append_right _ (List.mem_append_right _ (List.mem_append_left _ (List.mem_of_getElem? (i := 127) (by decide +kernel))))) rfl)
theorem mv_L_32 : fr_mv R_L 32 y_O_load c_O_load 3 (some .boolean) 2 := ⟨⟨(fr_in (List.mem_append_right _ (List.mem_append_right _ (List.mem_append_left _ (List.mem_of_getElem? (i := 125) (by decide +kernel))))) rfl), wi_6, wc_O_load, by decide, by decide, by decide +kernel⟩, wn_O_load, wl_O_load⟩
theorem wc_F_fault : Cond.code y_F_fault c_F_fault 3 (some .boolean) ∈ fr_ws := (fr_in (List.mem_append_right _ (List.mem_append_left _ (List.mem_of_getElem? (i := 12) rfl))) rfl)
theorem wn_F_fault : Cond.instanceMethod y_F_fault ∈ fr_ws := (fr_in (List.mem_append_right _ (List.mem_append_left _ (List.mem_of_getElem? (i := 10) (by decide +kernel)))) rfl)
theorem wl_F_fault : Cond.selects y_F_fault.cls y_F_fault y_F_fault ∈ fr_ws := (fr_in (List.mem_append_right _ (List.mem_append_left _ (List.mem_of_getElem? (i := 11) (by decide +kernel)))) rfl)
theorem mv_L_33 : fr_mv R_L 33 y_F_fault c_F_fault 3 (some .boolean) 2 := ⟨⟨(fr_in (List.mem_append_right _ (List.mem_append_left _ (List.mem_of_getElem? (i := 9) (by decide +kernel)))) rfl), wi_1, wc_F_fault, by decide, by decide, by decide +kernel⟩, wn_F_fault, wl_F_fault⟩
theorem wc_O_fault : Cond.code y_O_fault c_O_fault 3 (some .boolean) ∈ fr_ws := (fr_in (List.mem_append_right _ (List.mem_append_right _ (List.mem_append_left _ (List.mem_of_getElem? (i := 132) rfl)))) rfl)
theorem wn_O_fault : Cond.instanceMethod y_O_fault ∈ fr_ws := (fr_in (List.mem_append_right _ (List.mem_append_right _ (List.mem_append_left _ (List.mem_of_getElem? (i := 130) (by decide +kernel))))) rfl)
theorem wl_O_fault : Cond.selects y_O_fault.cls y_O_fault y_O_fault ∈ fr_ws := (fr_in (List.mem_append_right _ (List.mem_append_right _ (List.mem_append_left _ (List.mem_of_getElem? (i := 131) (by decide +kernel))))) rfl)
theorem mv_L_36 : fr_mv R_L 36 y_O_fault c_O_fault 3 (some .boolean) 2 := ⟨⟨(fr_in (List.mem_append_right _ (List.mem_append_right _ (List.mem_append_left _ (List.mem_of_getElem? (i := 129) (by decide +kernel))))) rfl), wi_6, wc_O_fault, by decide, by decide, by decide +kernel⟩, wn_O_fault, wl_O_fault⟩
theorem wc_F_jam : Cond.code y_F_jam c_F_jam 3 (some .boolean) ∈ fr_ws := (fr_in (List.mem_append_right _ (List.mem_append_left _ (List.mem_of_getElem? (i := 16) rfl))) rfl)
theorem wn_F_jam : Cond.instanceMethod y_F_jam ∈ fr_ws := (fr_in (List.mem_append_right _ (List.mem_append_left _ (List.mem_of_getElem? (i := 14) (by decide +kernel)))) rfl)
theorem wl_F_jam : Cond.selects y_F_jam.cls y_F_jam y_F_jam ∈ fr_ws := (fr_in (List.mem_append_right _ (List.mem_append_left _ (List.mem_of_getElem? (i := 15) (by decide +kernel)))) rfl)
theorem mv_L_37 : fr_mv R_L 37 y_F_jam c_F_jam 3 (some .boolean) 2 := ⟨⟨(fr_in (List.mem_append_right _ (List.mem_append_left _ (List.mem_of_getElem? (i := 13) (by decide +kernel)))) rfl), wi_1, wc_F_jam, by decide, by decide, by decide +kernel⟩, wn_F_jam, wl_F_jam⟩
theorem wc_O_jam : Cond.code y_O_jam c_O_jam 3 (some .boolean) ∈ fr_ws := (fr_in (List.mem_append_right _ (List.mem_append_right _ (List.mem_append_left _ (List.mem_of_getElem? (i := 136) rfl)))) rfl)
theorem wn_O_jam : Cond.instanceMethod y_O_jam ∈ fr_ws := (fr_in (List.mem_append_right _ (List.mem_append_right _ (List.mem_append_left _ (List.mem_of_getElem? (i := 134) (by decide +kernel))))) rfl)
theorem wl_O_jam : Cond.selects y_O_jam.cls y_O_jam y_O_jam ∈ fr_ws := (fr_in (List.mem_append_right _ (List.mem_append_right _ (List.mem_append_left _ (List.mem_of_getElem? (i := 135) (by decide +kernel))))) rfl)
theorem mv_L_41 : fr_mv R_L 41 y_O_jam c_O_jam 3 (some .boolean) 2 := ⟨⟨(fr_in (List.mem_append_right _ (List.mem_append_right _ (List.mem_append_left _ (List.mem_of_getElem? (i := 133) (by decide +kernel))))) rfl), wi_6, wc_O_jam, by decide, by decide, by decide +kernel⟩, wn_O_jam, wl_O_jam⟩
theorem wc_F_line : Cond.code y_F_line c_F_line 3 (some .boolean) ∈ fr_ws := (fr_in (List.mem_append_right _ (List.mem_append_left _ (List.mem_of_getElem? (i := 20) rfl))) rfl)
theorem wn_F_line : Cond.instanceMethod y_F_line ∈ fr_ws := (fr_in (List.mem_append_right _ (List.mem_append_left _ (List.mem_of_getElem? (i := 18) (by decide +kernel)))) rfl)
theorem wl_F_line : Cond.selects y_F_line.cls y_F_line y_F_line ∈ fr_ws := (fr_in (List.mem_append_right _ (List.mem_append_left _ (List.mem_of_getElem? (i := 19) (by decide +kernel)))) rfl)
theorem mv_L_42 : fr_mv R_L 42 y_F_line c_F_line 3 (some .boolean) 2 := ⟨⟨(fr_in (List.mem_append_right _ (List.mem_append_left _ (List.mem_of_getElem? (i := 17) (by decide +kernel)))) rfl), wi_1, wc_F_line, by decide, by decide, by decide +kernel⟩, wn_F_line, wl_F_line⟩
theorem wc_O_line : Cond.code y_O_line c_O_line 3 (some .boolean) ∈ fr_ws := (fr_in (List.mem_append_right _ (List.mem_append_right _ (List.mem_append_left _ (List.mem_of_getElem? (i := 140) rfl)))) rfl)
theorem wn_O_line : Cond.instanceMethod y_O_line ∈ fr_ws := (fr_in (List.mem_append_right _ (List.mem_append_right _ (List.mem_append_left _ (List.mem_of_getElem? (i := 138) (by decide +kernel))))) rfl)
theorem wl_O_line : Cond.selects y_O_line.cls y_O_line y_O_line ∈ fr_ws := (fr_in (List.mem_append_right _ (List.mem_append_right _ (List.mem_append_left _ (List.mem_of_getElem? (i := 139) (by decide +kernel))))) rfl)
theorem mv_L_45 : fr_mv R_L 45 y_O_line c_O_line 3 (some .boolean) 2 := ⟨⟨(fr_in (List.mem_append_right _ (List.mem_append_right _ (List.mem_append_left _ (List.mem_of_getElem? (i := 137) (by decide +kernel))))) rfl), wi_6, wc_O_line, by decide, by decide, by decide +kernel⟩, wn_O_line, wl_O_line⟩
theorem wc_F_operate : Cond.code y_F_operate c_F_operate 3 (some .boolean) ∈ fr_ws := (fr_in (List.mem_append_right _ (List.mem_append_left _ (List.mem_of_getElem? (i := 24) rfl))) rfl)
theorem wn_F_operate : Cond.instanceMethod y_F_operate ∈ fr_ws := (fr_in (List.mem_append_right _ (List.mem_append_left _ (List.mem_of_getElem? (i := 22) (by decide +kernel)))) rfl)
theorem wl_F_operate : Cond.selects y_F_operate.cls y_F_operate y_F_operate ∈ fr_ws := (fr_in (List.mem_append_right _ (List.mem_append_left _ (List.mem_of_getElem? (i := 23) (by decide +kernel)))) rfl)
theorem mv_L_46 : fr_mv R_L 46 y_F_operate c_F_operate 3 (some .boolean) 2 := ⟨⟨(fr_in (List.mem_append_right _ (List.mem_append_left _ (List.mem_of_getElem? (i := 21) (by decide +kernel)))) rfl), wi_1, wc_F_operate, by decide, by decide, by decide +kernel⟩, wn_F_operate, wl_F_operate⟩
theorem wc_O_operate : Cond.code y_O_operate c_O_operate 3 (some .boolean) ∈ fr_ws := (fr_in (List.mem_append_right _ (List.mem_append_right _ (List.mem_append_left _ (List.mem_of_getElem? (i := 144) rfl)))) rfl)
theorem wn_O_operate : Cond.instanceMethod y_O_operate ∈ fr_ws := (fr_in (List.mem_append_right _ (List.mem_append_right _ (List.mem_append_left _ (List.mem_of_getElem? (i := 142) (by decide +kernel))))) rfl)
theorem wl_O_operate : Cond.selects y_O_operate.cls y_O_operate y_O_operate ∈ fr_ws := (fr_in (List.mem_append_right _ (List.mem_append_right _ (List.mem_append_left _ (List.mem_of_getElem? (i := 143) (by decide +kernel))))) rfl)
theorem mv_L_49 : fr_mv R_L 49 y_O_operate c_O_operate 3 (some .boolean) 2 := ⟨⟨(fr_in (List.mem_append_right _ (List.mem_append_right _ (List.mem_append_left _ (List.mem_of_getElem? (i := 141) (by decide +kernel))))) rfl), wi_6, wc_O_operate, by decide, by decide, by decide +kernel⟩, wn_O_operate, wl_O_operate⟩
theorem wc_F_run : Cond.code y_F_run c_F_run 3 (some .int) ∈ fr_ws := (fr_in (List.mem_append_right _ (List.mem_append_left _ (List.mem_of_getElem? (i := 32) rfl))) rfl)
theorem wn_F_run : Cond.instanceMethod y_F_run ∈ fr_ws := (fr_in (List.mem_append_right _ (List.mem_append_left _ (List.mem_of_getElem? (i := 30) (by decide +kernel)))) rfl)
theorem wl_F_run : Cond.selects y_F_run.cls y_F_run y_F_run ∈ fr_ws := (fr_in (List.mem_append_right _ (List.mem_append_left _ (List.mem_of_getElem? (i := 31) (by decide +kernel)))) rfl)
theorem mv_L_50 : fr_mv R_L 50 y_F_run c_F_run 3 (some .int) 1 := ⟨⟨(fr_in (List.mem_append_right _ (List.mem_append_left _ (List.mem_of_getElem? (i := 29) (by decide +kernel)))) rfl), wi_1, wc_F_run, by decide, by decide, by decide +kernel⟩, wn_F_run, wl_F_run⟩
theorem wc_O_run : Cond.code y_O_run c_O_run 3 (some .int) ∈ fr_ws := (fr_in (List.mem_append_right _ (List.mem_append_right _ (List.mem_append_left _ (List.mem_of_getElem? (i := 148) rfl)))) rfl)
theorem wn_O_run : Cond.instanceMethod y_O_run ∈ fr_ws := (fr_in (List.mem_append_right _ (List.mem_append_right _ (List.mem_append_left _ (List.mem_of_getElem? (i := 146) (by decide +kernel))))) rfl)
theorem wl_O_run : Cond.selects y_O_run.cls y_O_run y_O_run ∈ fr_ws := (fr_in (List.mem_append_right _ (List.mem_append_right _ (List.mem_append_left _ (List.mem_of_getElem? (i := 147) (by decide +kernel))))) rfl)
theorem mv_L_53 : fr_mv R_L 53 y_O_run c_O_run 3 (some .int) 1 := ⟨⟨(fr_in (List.mem_append_right _ (List.mem_append_right _ (List.mem_append_left _ (List.mem_of_getElem? (i := 145) (by decide +kernel))))) rfl), wi_6, wc_O_run, by decide, by decide, by decide +kernel⟩, wn_O_run, wl_O_run⟩
theorem wc_F_crash : Cond.code y_F_crash c_F_crash 2 (some .int) ∈ fr_ws := (fr_in (List.mem_append_right _ (List.mem_append_left _ (List.mem_of_getElem? (i := 160) rfl))) rfl)
theorem wn_F_crash : Cond.instanceMethod y_F_crash ∈ fr_ws := (fr_in (List.mem_append_right _ (List.mem_append_left _ (List.mem_of_getElem? (i := 158) (by decide +kernel)))) rfl)
theorem wl_F_crash : Cond.selects y_F_crash.cls y_F_crash y_F_crash ∈ fr_ws := (fr_in (List.mem_append_right _ (List.mem_append_left _ (List.mem_of_getElem? (i := 159) (by decide +kernel)))) rfl)
theorem mv_L_54 : fr_mv R_L 54 y_F_crash c_F_crash 2 (some .int) 0 := ⟨⟨(fr_in (List.mem_append_right _ (List.mem_append_left _ (List.mem_of_getElem? (i := 157) (by decide +kernel)))) rfl), wi_1, wc_F_crash, by decide, by decide, by decide +kernel⟩, wn_F_crash, wl_F_crash⟩
theorem wc_O_crash : Cond.code y_O_crash c_O_crash 4 (some .int) ∈ fr_ws := (fr_in (List.mem_append_right _ (List.mem_append_right _ (List.mem_append_left _ (List.mem_of_getElem? (i := 203) rfl)))) rfl)
theorem wn_O_crash : Cond.instanceMethod y_O_crash ∈ fr_ws := (fr_in (List.mem_append_right _ (List.mem_append_right _ (List.mem_append_left _ (List.mem_of_getElem? (i := 201) (by decide +kernel))))) rfl)
theorem wl_O_crash : Cond.selects y_O_crash.cls y_O_crash y_O_crash ∈ fr_ws := (fr_in (List.mem_append_right _ (List.mem_append_right _ (List.mem_append_left _ (List.mem_of_getElem? (i := 202) (by decide +kernel))))) rfl)
theorem mv_L_58 : fr_mv R_L 58 y_O_crash c_O_crash 4 (some .int) 0 := ⟨⟨(fr_in (List.mem_append_right _ (List.mem_append_right _ (List.mem_append_left _ (List.mem_of_getElem? (i := 200) (by decide +kernel))))) rfl), wi_6, wc_O_crash, by decide, by decide, by decide +kernel⟩, wn_O_crash, wl_O_crash⟩
theorem wc_F_time : Cond.code y_F_time c_F_time 1 (some .int) ∈ fr_ws := (fr_in (List.mem_append_right _ (List.mem_append_left _ (List.mem_of_getElem? (i := 180) rfl))) rfl)
theorem wn_F_time : Cond.instanceMethod y_F_time ∈ fr_ws := (fr_in (List.mem_append_right _ (List.mem_append_left _ (List.mem_of_getElem? (i := 178) (by decide +kernel)))) rfl)
theorem wl_F_time : Cond.selects y_F_time.cls y_F_time y_F_time ∈ fr_ws := (fr_in (List.mem_append_right _ (List.mem_append_left _ (List.mem_of_getElem? (i := 179) (by decide +kernel)))) rfl)
theorem mv_L_59 : fr_mv R_L 59 y_F_time c_F_time 1 (some .int) 0 := ⟨⟨(fr_in (List.mem_append_right _ (List.mem_append_left _ (List.mem_of_getElem? (i := 177) (by decide +kernel)))) rfl), wi_1, wc_F_time, by decide, by decide, by decide +kernel⟩, wn_F_time, wl_F_time⟩
theorem wc_O_time : Cond.code y_O_time c_O_time 1 (some .int) ∈ fr_ws := (fr_in (List.mem_append_right _ (List.mem_append_right _ (List.mem_append_left _ (List.mem_of_getElem? (i := 207) rfl)))) rfl)
theorem wn_O_time : Cond.instanceMethod y_O_time ∈ fr_ws := (fr_in (List.mem_append_right _ (List.mem_append_right _ (List.mem_append_left _ (List.mem_of_getElem? (i := 205) (by decide +kernel))))) rfl)
theorem wl_O_time : Cond.selects y_O_time.cls y_O_time y_O_time ∈ fr_ws := (fr_in (List.mem_append_right _ (List.mem_append_right _ (List.mem_append_left _ (List.mem_of_getElem? (i := 206) (by decide +kernel))))) rfl)
theorem mv_L_62 : fr_mv R_L 62 y_O_time c_O_time 1 (some .int) 0 := ⟨⟨(fr_in (List.mem_append_right _ (List.mem_append_right _ (List.mem_append_left _ (List.mem_of_getElem? (i := 204) (by decide +kernel))))) rfl), wi_6, wc_O_time, by decide, by decide, by decide +kernel⟩, wn_O_time, wl_O_time⟩
theorem wc_F_current : Cond.code y_F_current c_F_current 2 (some .int) ∈ fr_ws := (fr_in (List.mem_append_right _ (List.mem_append_left _ (List.mem_of_getElem? (i := 184) rfl))) rfl)
theorem wn_F_current : Cond.instanceMethod y_F_current ∈ fr_ws := (fr_in (List.mem_append_right _ (List.mem_append_left _ (List.mem_of_getElem? (i := 182) (by decide +kernel)))) rfl)
theorem wl_F_current : Cond.selects y_F_current.cls y_F_current y_F_current ∈ fr_ws := (fr_in (List.mem_append_right _ (List.mem_append_left _ (List.mem_of_getElem? (i := 183) (by decide +kernel)))) rfl)
theorem mv_L_63 : fr_mv R_L 63 y_F_current c_F_current 2 (some .int) 1 := ⟨⟨(fr_in (List.mem_append_right _ (List.mem_append_left _ (List.mem_of_getElem? (i := 181) (by decide +kernel)))) rfl), wi_1, wc_F_current, by decide, by decide, by decide +kernel⟩, wn_F_current, wl_F_current⟩
theorem wc_O_current : Cond.code y_O_current c_O_current 2 (some .int) ∈ fr_ws := (fr_in (List.mem_append_right _ (List.mem_append_right _ (List.mem_append_left _ (List.mem_of_getElem? (i := 211) rfl)))) rfl)
theorem wn_O_current : Cond.instanceMethod y_O_current ∈ fr_ws := (fr_in (List.mem_append_right _ (List.mem_append_right _ (List.mem_append_left _ (List.mem_of_getElem? (i := 209) (by decide +kernel))))) rfl)
theorem wl_O_current : Cond.selects y_O_current.cls y_O_current y_O_current ∈ fr_ws := (fr_in (List.mem_append_right _ (List.mem_append_right _ (List.mem_append_left _ (List.mem_of_getElem? (i := 210) (by decide +kernel))))) rfl)
theorem mv_L_66 : fr_mv R_L 66 y_O_current c_O_current 2 (some .int) 1 := ⟨⟨(fr_in (List.mem_append_right _ (List.mem_append_right _ (List.mem_append_left _ (List.mem_of_getElem? (i := 208) (by decide +kernel))))) rfl), wi_6, wc_O_current, by decide, by decide, by decide +kernel⟩, wn_O_current, wl_O_current⟩
theorem wc_F_state : Cond.code y_F_state c_F_state 3 (some .int) ∈ fr_ws := (fr_in (List.mem_append_right _ (List.mem_append_left _ (List.mem_of_getElem? (i := 188) rfl))) rfl)
theorem wn_F_state : Cond.instanceMethod y_F_state ∈ fr_ws := (fr_in (List.mem_append_right _ (List.mem_append_left _ (List.mem_of_getElem? (i := 186) (by decide +kernel)))) rfl)
theorem wl_F_state : Cond.selects y_F_state.cls y_F_state y_F_state ∈ fr_ws := (fr_in (List.mem_append_right _ (List.mem_append_left _ (List.mem_of_getElem? (i := 187) (by decide +kernel)))) rfl)
theorem mv_L_67 : fr_mv R_L 67 y_F_state c_F_state 3 (some .int) 1 := ⟨⟨(fr_in (List.mem_append_right _ (List.mem_append_left _ (List.mem_of_getElem? (i := 185) (by decide +kernel)))) rfl), wi_1, wc_F_state, by decide, by decide, by decide +kernel⟩, wn_F_state, wl_F_state⟩
theorem wc_O_state : Cond.code y_O_state c_O_state 4 (some .int) ∈ fr_ws := (fr_in (List.mem_append_right _ (List.mem_append_right _ (List.mem_append_left _ (List.mem_of_getElem? (i := 215) rfl)))) rfl)
theorem wn_O_state : Cond.instanceMethod y_O_state ∈ fr_ws := (fr_in (List.mem_append_right _ (List.mem_append_right _ (List.mem_append_left _ (List.mem_of_getElem? (i := 213) (by decide +kernel))))) rfl)
theorem wl_O_state : Cond.selects y_O_state.cls y_O_state y_O_state ∈ fr_ws := (fr_in (List.mem_append_right _ (List.mem_append_right _ (List.mem_append_left _ (List.mem_of_getElem? (i := 214) (by decide +kernel))))) rfl)
theorem mv_L_70 : fr_mv R_L 70 y_O_state c_O_state 4 (some .int) 1 := ⟨⟨(fr_in (List.mem_append_right _ (List.mem_append_right _ (List.mem_append_left _ (List.mem_of_getElem? (i := 212) (by decide +kernel))))) rfl), wi_6, wc_O_state, by decide, by decide, by decide +kernel⟩, wn_O_state, wl_O_state⟩
theorem wc_F_sum : Cond.code y_F_sum c_F_sum 2 (some .long) ∈ fr_ws := (fr_in (List.mem_append_right _ (List.mem_append_left _ (List.mem_of_getElem? (i := 196) rfl))) rfl)
theorem wn_F_sum : Cond.instanceMethod y_F_sum ∈ fr_ws := (fr_in (List.mem_append_right _ (List.mem_append_left _ (List.mem_of_getElem? (i := 194) (by decide +kernel)))) rfl)
theorem wl_F_sum : Cond.selects y_F_sum.cls y_F_sum y_F_sum ∈ fr_ws := (fr_in (List.mem_append_right _ (List.mem_append_left _ (List.mem_of_getElem? (i := 195) (by decide +kernel)))) rfl)
theorem mv_L_71 : fr_mv R_L 71 y_F_sum c_F_sum 2 (some .long) 1 := ⟨⟨(fr_in (List.mem_append_right _ (List.mem_append_left _ (List.mem_of_getElem? (i := 193) (by decide +kernel)))) rfl), wi_1, wc_F_sum, by decide, by decide, by decide +kernel⟩, wn_F_sum, wl_F_sum⟩
theorem wc_O_sum : Cond.code y_O_sum c_O_sum 2 (some .long) ∈ fr_ws := (fr_in (List.mem_append_right _ (List.mem_append_right _ (List.mem_append_left _ (List.mem_of_getElem? (i := 219) rfl)))) rfl)
theorem wn_O_sum : Cond.instanceMethod y_O_sum ∈ fr_ws := (fr_in (List.mem_append_right _ (List.mem_append_right _ (List.mem_append_left _ (List.mem_of_getElem? (i := 217) (by decide +kernel))))) rfl)
theorem wl_O_sum : Cond.selects y_O_sum.cls y_O_sum y_O_sum ∈ fr_ws := (fr_in (List.mem_append_right _ (List.mem_append_right _ (List.mem_append_left _ (List.mem_of_getElem? (i := 218) (by decide +kernel))))) rfl)
theorem mv_L_75 : fr_mv R_L 75 y_O_sum c_O_sum 2 (some .long) 1 := ⟨⟨(fr_in (List.mem_append_right _ (List.mem_append_right _ (List.mem_append_left _ (List.mem_of_getElem? (i := 216) (by decide +kernel))))) rfl), wi_6, wc_O_sum, by decide, by decide, by decide +kernel⟩, wn_O_sum, wl_O_sum⟩
theorem wc_F_used : Cond.code y_F_used c_F_used 2 (some .int) ∈ fr_ws := (fr_in (List.mem_append_right _ (List.mem_append_left _ (List.mem_of_getElem? (i := 201) rfl))) rfl)
theorem wn_F_used : Cond.instanceMethod y_F_used ∈ fr_ws := (fr_in (List.mem_append_right _ (List.mem_append_left _ (List.mem_of_getElem? (i := 199) (by decide +kernel)))) rfl)
theorem wl_F_used : Cond.selects y_F_used.cls y_F_used y_F_used ∈ fr_ws := (fr_in (List.mem_append_right _ (List.mem_append_left _ (List.mem_of_getElem? (i := 200) (by decide +kernel)))) rfl)
theorem mv_L_76 : fr_mv R_L 76 y_F_used c_F_used 2 (some .int) 1 := ⟨⟨(fr_in (List.mem_append_right _ (List.mem_append_left _ (List.mem_of_getElem? (i := 198) (by decide +kernel)))) rfl), wi_1, wc_F_used, by decide, by decide, by decide +kernel⟩, wn_F_used, wl_F_used⟩
theorem wc_O_used : Cond.code y_O_used c_O_used 2 (some .int) ∈ fr_ws := (fr_in (List.mem_append_right _ (List.mem_append_right _ (List.mem_append_left _ (List.mem_of_getElem? (i := 224) rfl)))) rfl)
theorem wn_O_used : Cond.instanceMethod y_O_used ∈ fr_ws := (fr_in (List.mem_append_right _ (List.mem_append_right _ (List.mem_append_left _ (List.mem_of_getElem? (i := 222) (by decide +kernel))))) rfl)
theorem wl_O_used : Cond.selects y_O_used.cls y_O_used y_O_used ∈ fr_ws := (fr_in (List.mem_append_right _ (List.mem_append_right _ (List.mem_append_left _ (List.mem_of_getElem? (i := 223) (by decide +kernel))))) rfl)
theorem mv_L_79 : fr_mv R_L 79 y_O_used c_O_used 2 (some .int) 1 := ⟨⟨(fr_in (List.mem_append_right _ (List.mem_append_right _ (List.mem_append_left _ (List.mem_of_getElem? (i := 221) (by decide +kernel))))) rfl), wi_6, wc_O_used, by decide, by decide, by decide +kernel⟩, wn_O_used, wl_O_used⟩
theorem wc_F_changes : Cond.code y_F_changes c_F_changes 2 (some .int) ∈ fr_ws := (fr_in (List.mem_append_right _ (List.mem_append_left _ (List.mem_of_getElem? (i := 205) rfl))) rfl)
theorem wn_F_changes : Cond.instanceMethod y_F_changes ∈ fr_ws := (fr_in (List.mem_append_right _ (List.mem_append_left _ (List.mem_of_getElem? (i := 203) (by decide +kernel)))) rfl)
theorem wl_F_changes : Cond.selects y_F_changes.cls y_F_changes y_F_changes ∈ fr_ws := (fr_in (List.mem_append_right _ (List.mem_append_left _ (List.mem_of_getElem? (i := 204) (by decide +kernel)))) rfl)
theorem mv_L_80 : fr_mv R_L 80 y_F_changes c_F_changes 2 (some .int) 1 := ⟨⟨(fr_in (List.mem_append_right _ (List.mem_append_left _ (List.mem_of_getElem? (i := 202) (by decide +kernel)))) rfl), wi_1, wc_F_changes, by decide, by decide, by decide +kernel⟩, wn_F_changes, wl_F_changes⟩
theorem wc_O_changes : Cond.code y_O_changes c_O_changes 2 (some .int) ∈ fr_ws := (fr_in (List.mem_append_right _ (List.mem_append_right _ (List.mem_append_left _ (List.mem_of_getElem? (i := 228) rfl)))) rfl)
theorem wn_O_changes : Cond.instanceMethod y_O_changes ∈ fr_ws := (fr_in (List.mem_append_right _ (List.mem_append_right _ (List.mem_append_left _ (List.mem_of_getElem? (i := 226) (by decide +kernel))))) rfl)
theorem wl_O_changes : Cond.selects y_O_changes.cls y_O_changes y_O_changes ∈ fr_ws := (fr_in (List.mem_append_right _ (List.mem_append_right _ (List.mem_append_left _ (List.mem_of_getElem? (i := 227) (by decide +kernel))))) rfl)
theorem mv_L_83 : fr_mv R_L 83 y_O_changes c_O_changes 2 (some .int) 1 := ⟨⟨(fr_in (List.mem_append_right _ (List.mem_append_right _ (List.mem_append_left _ (List.mem_of_getElem? (i := 225) (by decide +kernel))))) rfl), wi_6, wc_O_changes, by decide, by decide, by decide +kernel⟩, wn_O_changes, wl_O_changes⟩
theorem wc_F_known : Cond.code y_F_known c_F_known 2 (some .int) ∈ fr_ws := (fr_in (List.mem_append_right _ (List.mem_append_left _ (List.mem_of_getElem? (i := 209) rfl))) rfl)
theorem wn_F_known : Cond.instanceMethod y_F_known ∈ fr_ws := (fr_in (List.mem_append_right _ (List.mem_append_left _ (List.mem_of_getElem? (i := 207) (by decide +kernel)))) rfl)
theorem wl_F_known : Cond.selects y_F_known.cls y_F_known y_F_known ∈ fr_ws := (fr_in (List.mem_append_right _ (List.mem_append_left _ (List.mem_of_getElem? (i := 208) (by decide +kernel)))) rfl)
theorem mv_L_84 : fr_mv R_L 84 y_F_known c_F_known 2 (some .int) 1 := ⟨⟨(fr_in (List.mem_append_right _ (List.mem_append_left _ (List.mem_of_getElem? (i := 206) (by decide +kernel)))) rfl), wi_1, wc_F_known, by decide, by decide, by decide +kernel⟩, wn_F_known, wl_F_known⟩
theorem wc_O_known : Cond.code y_O_known c_O_known 2 (some .int) ∈ fr_ws := (fr_in (List.mem_append_right _ (List.mem_append_right _ (List.mem_append_left _ (List.mem_of_getElem? (i := 232) rfl)))) rfl)
theorem wn_O_known : Cond.instanceMethod y_O_known ∈ fr_ws := (fr_in (List.mem_append_right _ (List.mem_append_right _ (List.mem_append_left _ (List.mem_of_getElem? (i := 230) (by decide +kernel))))) rfl)
theorem wl_O_known : Cond.selects y_O_known.cls y_O_known y_O_known ∈ fr_ws := (fr_in (List.mem_append_right _ (List.mem_append_right _ (List.mem_append_left _ (List.mem_of_getElem? (i := 231) (by decide +kernel))))) rfl)
theorem mv_L_87 : fr_mv R_L 87 y_O_known c_O_known 2 (some .int) 1 := ⟨⟨(fr_in (List.mem_append_right _ (List.mem_append_right _ (List.mem_append_left _ (List.mem_of_getElem? (i := 229) (by decide +kernel))))) rfl), wi_6, wc_O_known, by decide, by decide, by decide +kernel⟩, wn_O_known, wl_O_known⟩
theorem wc_F_effective : Cond.code y_F_effective c_F_effective 2 (some .int) ∈ fr_ws := (fr_in (List.mem_append_right _ (List.mem_append_left _ (List.mem_of_getElem? (i := 213) rfl))) rfl)
theorem wn_F_effective : Cond.instanceMethod y_F_effective ∈ fr_ws := (fr_in (List.mem_append_right _ (List.mem_append_left _ (List.mem_of_getElem? (i := 211) (by decide +kernel)))) rfl)
theorem wl_F_effective : Cond.selects y_F_effective.cls y_F_effective y_F_effective ∈ fr_ws := (fr_in (List.mem_append_right _ (List.mem_append_left _ (List.mem_of_getElem? (i := 212) (by decide +kernel)))) rfl)
theorem mv_L_88 : fr_mv R_L 88 y_F_effective c_F_effective 2 (some .int) 1 := ⟨⟨(fr_in (List.mem_append_right _ (List.mem_append_left _ (List.mem_of_getElem? (i := 210) (by decide +kernel)))) rfl), wi_1, wc_F_effective, by decide, by decide, by decide +kernel⟩, wn_F_effective, wl_F_effective⟩
theorem wc_O_effective : Cond.code y_O_effective c_O_effective 2 (some .int) ∈ fr_ws := (fr_in (List.mem_append_right _ (List.mem_append_right _ (List.mem_append_left _ (List.mem_of_getElem? (i := 236) rfl)))) rfl)
theorem wn_O_effective : Cond.instanceMethod y_O_effective ∈ fr_ws := (fr_in (List.mem_append_right _ (List.mem_append_right _ (List.mem_append_left _ (List.mem_of_getElem? (i := 234) (by decide +kernel))))) rfl)
theorem wl_O_effective : Cond.selects y_O_effective.cls y_O_effective y_O_effective ∈ fr_ws := (fr_in (List.mem_append_right _ (List.mem_append_right _ (List.mem_append_left _ (List.mem_of_getElem? (i := 235) (by decide +kernel))))) rfl)
theorem mv_L_91 : fr_mv R_L 91 y_O_effective c_O_effective 2 (some .int) 1 := ⟨⟨(fr_in (List.mem_append_right _ (List.mem_append_right _ (List.mem_append_left _ (List.mem_of_getElem? (i := 233) (by decide +kernel))))) rfl), wi_6, wc_O_effective, by decide, by decide, by decide +kernel⟩, wn_O_effective, wl_O_effective⟩
theorem wc_F_events : Cond.code y_F_events c_F_events 1 (some .int) ∈ fr_ws := (fr_in (List.mem_append_right _ (List.mem_append_left _ (List.mem_of_getElem? (i := 217) rfl))) rfl)
theorem wn_F_events : Cond.instanceMethod y_F_events ∈ fr_ws := (fr_in (List.mem_append_right _ (List.mem_append_left _ (List.mem_of_getElem? (i := 215) (by decide +kernel)))) rfl)
theorem wl_F_events : Cond.selects y_F_events.cls y_F_events y_F_events ∈ fr_ws := (fr_in (List.mem_append_right _ (List.mem_append_left _ (List.mem_of_getElem? (i := 216) (by decide +kernel)))) rfl)
theorem mv_L_92 : fr_mv R_L 92 y_F_events c_F_events 1 (some .int) 0 := ⟨⟨(fr_in (List.mem_append_right _ (List.mem_append_left _ (List.mem_of_getElem? (i := 214) (by decide +kernel)))) rfl), wi_1, wc_F_events, by decide, by decide, by decide +kernel⟩, wn_F_events, wl_F_events⟩
theorem wc_O_events : Cond.code y_O_events c_O_events 1 (some .int) ∈ fr_ws := (fr_in (List.mem_append_right _ (List.mem_append_right _ (List.mem_append_right _ (List.mem_of_getElem? (i := 0) rfl)))) rfl)
theorem wn_O_events : Cond.instanceMethod y_O_events ∈ fr_ws := (fr_in (List.mem_append_right _ (List.mem_append_right _ (List.mem_append_left _ (List.mem_of_getElem? (i := 238) (by decide +kernel))))) rfl)
theorem wl_O_events : Cond.selects y_O_events.cls y_O_events y_O_events ∈ fr_ws := (fr_in (List.mem_append_right _ (List.mem_append_right _ (List.mem_append_left _ (List.mem_of_getElem? (i := 239) (by decide +kernel))))) rfl)
theorem mv_L_95 : fr_mv R_L 95 y_O_events c_O_events 1 (some .int) 0 := ⟨⟨(fr_in (List.mem_append_right _ (List.mem_append_right _ (List.mem_append_left _ (List.mem_of_getElem? (i := 237) (by decide +kernel))))) rfl), wi_6, wc_O_events, by decide, by decide, by decide +kernel⟩, wn_O_events, wl_O_events⟩
theorem wc_F_event : Cond.code y_F_event c_F_event 2 (some .int) ∈ fr_ws := (fr_in (List.mem_append_right _ (List.mem_append_left _ (List.mem_of_getElem? (i := 221) rfl))) rfl)
theorem wn_F_event : Cond.instanceMethod y_F_event ∈ fr_ws := (fr_in (List.mem_append_right _ (List.mem_append_left _ (List.mem_of_getElem? (i := 219) (by decide +kernel)))) rfl)
theorem wl_F_event : Cond.selects y_F_event.cls y_F_event y_F_event ∈ fr_ws := (fr_in (List.mem_append_right _ (List.mem_append_left _ (List.mem_of_getElem? (i := 220) (by decide +kernel)))) rfl)
theorem mv_L_96 : fr_mv R_L 96 y_F_event c_F_event 2 (some .int) 1 := ⟨⟨(fr_in (List.mem_append_right _ (List.mem_append_left _ (List.mem_of_getElem? (i := 218) (by decide +kernel)))) rfl), wi_1, wc_F_event, by decide, by decide, by decide +kernel⟩, wn_F_event, wl_F_event⟩
theorem wc_O_event : Cond.code y_O_event c_O_event 2 (some .int) ∈ fr_ws := (fr_in (List.mem_append_right _ (List.mem_append_right _ (List.mem_append_right _ (List.mem_of_getElem? (i := 4) rfl)))) rfl)
theorem wn_O_event : Cond.instanceMethod y_O_event ∈ fr_ws := (fr_in (List.mem_append_right _ (List.mem_append_right _ (List.mem_append_right _ (List.mem_of_getElem? (i := 2) (by decide +kernel))))) rfl)
theorem wl_O_event : Cond.selects y_O_event.cls y_O_event y_O_event ∈ fr_ws := (fr_in (List.mem_append_right _ (List.mem_append_right _ (List.mem_append_right _ (List.mem_of_getElem? (i := 3) (by decide +kernel))))) rfl)
theorem mv_L_99 : fr_mv R_L 99 y_O_event c_O_event 2 (some .int) 1 := ⟨⟨(fr_in (List.mem_append_right _ (List.mem_append_right _ (List.mem_append_right _ (List.mem_of_getElem? (i := 1) (by decide +kernel))))) rfl), wi_6, wc_O_event, by decide, by decide, by decide +kernel⟩, wn_O_event, wl_O_event⟩
theorem wc_F_when : Cond.code y_F_when c_F_when 2 (some .int) ∈ fr_ws := (fr_in (List.mem_append_right _ (List.mem_append_left _ (List.mem_of_getElem? (i := 229) rfl))) rfl)
theorem wn_F_when : Cond.instanceMethod y_F_when ∈ fr_ws := (fr_in (List.mem_append_right _ (List.mem_append_left _ (List.mem_of_getElem? (i := 227) (by decide +kernel)))) rfl)
theorem wl_F_when : Cond.selects y_F_when.cls y_F_when y_F_when ∈ fr_ws := (fr_in (List.mem_append_right _ (List.mem_append_left _ (List.mem_of_getElem? (i := 228) (by decide +kernel)))) rfl)
theorem mv_L_100 : fr_mv R_L 100 y_F_when c_F_when 2 (some .int) 1 := ⟨⟨(fr_in (List.mem_append_right _ (List.mem_append_left _ (List.mem_of_getElem? (i := 226) (by decide +kernel)))) rfl), wi_1, wc_F_when, by decide, by decide, by decide +kernel⟩, wn_F_when, wl_F_when⟩
theorem wc_O_when : Cond.code y_O_when c_O_when 2 (some .int) ∈ fr_ws := (fr_in (List.mem_append_right _ (List.mem_append_right _ (List.mem_append_right _ (List.mem_of_getElem? (i := 8) rfl)))) rfl)
theorem wn_O_when : Cond.instanceMethod y_O_when ∈ fr_ws := (fr_in (List.mem_append_right _ (List.mem_append_right _ (List.mem_append_right _ (List.mem_of_getElem? (i := 6) (by decide +kernel))))) rfl)
theorem wl_O_when : Cond.selects y_O_when.cls y_O_when y_O_when ∈ fr_ws := (fr_in (List.mem_append_right _ (List.mem_append_right _ (List.mem_append_right _ (List.mem_of_getElem? (i := 7) (by decide +kernel))))) rfl)
theorem mv_L_103 : fr_mv R_L 103 y_O_when c_O_when 2 (some .int) 1 := ⟨⟨(fr_in (List.mem_append_right _ (List.mem_append_right _ (List.mem_append_right _ (List.mem_of_getElem? (i := 5) (by decide +kernel))))) rfl), wi_6, wc_O_when, by decide, by decide, by decide +kernel⟩, wn_O_when, wl_O_when⟩
end
section
-- the abstract memory: cells have a kind k and a number r; their slots j hold an int, a long or a reference to a cell
abbrev fr_I : Type := Nat → Nat → Nat → Int32
abbrev fr_J : Type := Nat → Nat → Nat → Int64
abbrev fr_P : Type := Nat → Nat → Nat → Option (Nat × Nat)
-- references, which cells live, the heap's size
abbrev fr_Z : Type := fr_P × (Nat → Nat → Prop) × Nat
-- the launch, class numbers and slots, the addresses, the first address that is ours
abbrev fr_X : Type := Launch × va_G × (Nat → Nat → Nat) × Nat
abbrev fr_E : Type := Program × Env × State × MethodId × Array Value × List Frame × Method × Code
def fr_ad (X : fr_X) (k r : Nat) : Nat := X.2.2.1 k r
def fr_ui (I : fr_I) (k r j : Nat) (v : Int32) : fr_I := fun a b c => if a = k ∧ b = r ∧ c = j then v else I a b c
def fr_uj (J : fr_J) (k r j : Nat) (v : Int64) : fr_J := fun a b c => if a = k ∧ b = r ∧ c = j then v else J a b c
def fr_up (P : fr_P) (k r j : Nat) (v : Option (Nat × Nat)) : fr_P := fun a b c => if a = k ∧ b = r ∧ c = j then v else P a b c
def fr_zi (I : fr_I) (k r : Nat) : fr_I := fun a b c => if a = k ∧ b = r then 0 else I a b c
def fr_zj (J : fr_J) (k r : Nat) : fr_J := fun a b c => if a = k ∧ b = r then 0 else J a b c
def fr_zp (P : fr_P) (k r : Nat) : fr_P := fun a b c => if a = k ∧ b = r then none else P a b c
def fr_vl (X : fr_X) (P : fr_P) (I : fr_I) (J : fr_J) (k r j : Nat) : Value := match fr_so k j with
  | 0 => .int (I k r j)
  | 1 => .long (J k r j)
  | _ => va_rf ((P k r j).map (fun q => fr_ad X q.1 q.2))
theorem fr_vl0 {X : fr_X} {P : fr_P} {I : fr_I} {J : fr_J} {k r j : Nat} (hs : fr_so k j = 0) : fr_vl X P I J k r j = .int (I k r j) := by
  unfold fr_vl; simp only [hs]
theorem fr_vl1 {X : fr_X} {P : fr_P} {I : fr_I} {J : fr_J} {k r j : Nat} (hs : fr_so k j = 1) : fr_vl X P I J k r j = .long (J k r j) := by
  unfold fr_vl; simp only [hs]
theorem fr_vl2 {X : fr_X} {P : fr_P} {I : fr_I} {J : fr_J} {k r j : Nat} (hs : fr_so k j = 2) : fr_vl X P I J k r j = va_rf ((P k r j).map (fun q => fr_ad X q.1 q.2)) := by
  unfold fr_vl; simp only [hs]
theorem fr_vl_eq {X : fr_X} {P P1 : fr_P} {I I1 : fr_I} {J J1 : fr_J} {k r j : Nat} (hi : I1 k r j = I k r j) (hj : J1 k r j = J k r j) (hp : P1 k r j = P k r j) : fr_vl X P1 I1 J1 k r j = fr_vl X P I J k r j := by
  unfold fr_vl; rw [hi, hj, hp]
theorem fr_ui_s {I : fr_I} {k r j : Nat} {v : Int32} : fr_ui I k r j v k r j = v := if_pos ⟨rfl, rfl, rfl⟩
theorem fr_uj_s {I : fr_J} {k r j : Nat} {v : Int64} : fr_uj I k r j v k r j = v := if_pos ⟨rfl, rfl, rfl⟩
theorem fr_up_s {I : fr_P} {k r j : Nat} {v : Option (Nat × Nat)} : fr_up I k r j v k r j = v := if_pos ⟨rfl, rfl, rfl⟩
theorem fr_ui_n {I : fr_I} {k r j a b c : Nat} {v : Int32} (h : ¬ (a = k ∧ b = r ∧ c = j)) : fr_ui I k r j v a b c = I a b c := if_neg h
theorem fr_uj_n {I : fr_J} {k r j a b c : Nat} {v : Int64} (h : ¬ (a = k ∧ b = r ∧ c = j)) : fr_uj I k r j v a b c = I a b c := if_neg h
theorem fr_up_n {I : fr_P} {k r j a b c : Nat} {v : Option (Nat × Nat)} (h : ¬ (a = k ∧ b = r ∧ c = j)) : fr_up I k r j v a b c = I a b c := if_neg h
/-- a cell of the abstract memory lies in the heap: an object, or an array -/
def fr_ce (X : fr_X) (P : fr_P) (I : fr_I) (J : fr_J) (U : State) (H : Heap) (k r : Nat) : Prop := match fr_kd k with
  | .inl ci => ∃ q : vw_C, fr_cl[ci]? = some q ∧ t_OB (fr_ad X k r) (X.2.1.1 ci) q.2.2 (X.2.1.2 ci) H (fr_vl X P I J k r)
  | .inr t => ∃ cA : ClassId, ArrOfT U cA t.1 ∧ va_RA U cA t.1 ∧ H[fr_ad X k r]? = some (arrV cA t.2 (fr_vl X P I J k r))
theorem fr_ce_o {X : fr_X} {P : fr_P} {I : fr_I} {J : fr_J} {U : State} {H : Heap} {k r ci : Nat} (hk : fr_kd k = .inl ci) : fr_ce X P I J U H k r ↔ ∃ q : vw_C, fr_cl[ci]? = some q ∧ t_OB (fr_ad X k r) (X.2.1.1 ci) q.2.2 (X.2.1.2 ci) H (fr_vl X P I J k r) := by
  unfold fr_ce; simp only [hk]
theorem fr_ce_a {X : fr_X} {P : fr_P} {I : fr_I} {J : fr_J} {U : State} {H : Heap} {k r N : Nat} {ty : FieldType} (hk : fr_kd k = .inr (ty, N)) : fr_ce X P I J U H k r ↔ ∃ cA : ClassId, ArrOfT U cA ty ∧ va_RA U cA ty ∧ H[fr_ad X k r]? = some (arrV cA N (fr_vl X P I J k r)) := by
  unfold fr_ce; simp only [hk]
theorem fr_ce.kept {X : fr_X} {P P1 : fr_P} {I I1 : fr_I} {J J1 : fr_J} {U : State} {H H1 : Heap} {k r : Nat} (h : fr_ce X P I J U H k r) (hq : H1[fr_ad X k r]? = H[fr_ad X k r]?) (hv : ∀ j, fr_vl X P1 I1 J1 k r j = fr_vl X P I J k r j) : fr_ce X P1 I1 J1 U H1 k r := by
  have e : fr_vl X P1 I1 J1 k r = fr_vl X P I J k r := funext hv
  rcases hk : fr_kd k with ci | ⟨ty, N⟩
  · obtain ⟨q, h1, h2⟩ := (fr_ce_o hk).mp h
    exact (fr_ce_o hk).mpr ⟨q, h1, by rw [e]; exact h2.kept hq⟩
  · obtain ⟨cA, h1, h2, h3⟩ := (fr_ce_a hk).mp h
    exact (fr_ce_a hk).mpr ⟨cA, h1, h2, by rw [e, hq]; exact h3⟩
theorem fr_ce.moved {X : fr_X} {P : fr_P} {I : fr_I} {J : fr_J} {U V : State} {H : Heap} {k r : Nat} (hvm : U.vm.Alike V.vm) (h : fr_ce X P I J U H k r) : fr_ce X P I J V H k r := by
  rcases hk : fr_kd k with ci | ⟨ty, N⟩
  · exact (fr_ce_o hk).mpr ((fr_ce_o hk).mp h)
  · obtain ⟨cA, h1, h2, h3⟩ := (fr_ce_a hk).mp h
    exact (fr_ce_a hk).mpr ⟨cA, arrOfT_moved hvm h1, h2.moved hvm, h3⟩
theorem fr_ce.lt {X : fr_X} {P : fr_P} {I : fr_I} {J : fr_J} {U : State} {H : Heap} {k r : Nat} (h : fr_ce X P I J U H k r) : fr_ad X k r < H.size := by
  rcases hk : fr_kd k with ci | ⟨ty, N⟩
  · obtain ⟨q, h1, cell, h2, -⟩ := (fr_ce_o hk).mp h
    exact (Array.getElem?_eq_some_iff.mp h2).1
  · obtain ⟨cA, h1, h2, h3⟩ := (fr_ce_a hk).mp h
    exact (Array.getElem?_eq_some_iff.mp h3).1
def fr_ok (X : fr_X) (Z : fr_Z) (I : fr_I) (J : fr_J) (U : State) (H : Heap) : Prop :=
  (∀ k r, Z.2.1 k r → fr_ce X Z.1 I J U H k r) ∧ (∀ k r k' r', Z.2.1 k r → Z.2.1 k' r' → fr_ad X k r = fr_ad X k' r' → k = k' ∧ r = r') ∧ ∀ k r, Z.2.1 k r → X.2.2.2 ≤ fr_ad X k r
theorem fr_ok.moved {X : fr_X} {Z : fr_Z} {I : fr_I} {J : fr_J} {U V : State} {H : Heap} (hvm : U.vm.Alike V.vm) (h : fr_ok X Z I J U H) : fr_ok X Z I J V H := ⟨fun k r hl => (h.1 k r hl).moved hvm, h.2⟩
theorem fr_ok.set {X : fr_X} {Z : fr_Z} {P1 : fr_P} {I I1 : fr_I} {J J1 : fr_J} {U : State} {H H1 : Heap} {k r : Nat} (h : fr_ok X Z I J U H) (hl : Z.2.1 k r) (hc : fr_ce X P1 I1 J1 U H1 k r) (ho : ∀ q, q ≠ fr_ad X k r → H1[q]? = H[q]?)
    (hv : ∀ k' r' j', ¬ (k' = k ∧ r' = r) → fr_vl X P1 I1 J1 k' r' j' = fr_vl X Z.1 I J k' r' j') : fr_ok X (P1, Z.2) I1 J1 U H1 := by
  refine ⟨fun k' r' hl' => ?_, h.2.1, h.2.2⟩
  by_cases e : k' = k ∧ r' = r
  · obtain ⟨rfl, rfl⟩ := e
    exact hc
  · exact (h.1 k' r' hl').kept (ho _ (fun q => e (h.2.1 k' r' k r hl' hl q))) (fun j' => hv k' r' j' e)
/-- what holds while a method of ours runs -/
def fr_Cx (X : fr_X) (E : fr_E) (own nm : String) (cc : ByteArray) (nL : Nat) (ret : Option FieldType) : Prop :=
  E.1.tables.exec = Jvm.exec ∧ E.2.2.2.2.2.2.2.code = cc ∧ E.2.2.2.2.2.2.2.maxLocals = nL ∧ E.2.2.1.vm.findClass own = some E.2.2.2.1.cls ∧ (∀ w ∈ fr_ws, w.before E.2.2.2.2.1 E.2.2.1 = true) ∧ va_K X.2.1 fr_cl [] E.2.2.1 ∧ ((∀ q ∈ fr_nw, va_Nw (.methodLinkNest q.1 q.2.1 q.2.2.1 q.2.2.2) E.2.2.1) ∧ va_AO fr_aC E.2.2.1) ∧ E.2.2.2.2.2.2.1.sig.returnType = ret ∧ E.2.2.2.2.2.2.1.locks = false ∧ E.2.2.2.2.2.2.1.name = nm ∧ X.2.2.2 ≤ E.2.2.1.heap.size
def fr_Ev (X : fr_X) (E : fr_E) (own nm : String) (cc : ByteArray) (nL : Nat) (ret : Option FieldType) (R : Room) (Q : State → Prop) (cs sl : Nat) (Z : fr_Z) (pc : Nat) (L : List (Nat × Value)) (st : List Value) (I : fr_I) (J : fr_J) : Prop :=
  fr_Cx X E own nm cc nL ret → ∀ (H : Heap) (locs : List Loc) (ls : Array Slot), H.size = Z.2.2 → fr_ok X Z I J E.2.2.1 H → va_S (fun q => X.2.2.2 ≤ q) E.2.2.1.heap H locs → lv_has ls nL L →
    W E.1 X.1 E.2.1 R E.2.2.1 E.2.2.2.1 E.2.2.2.2.1 E.2.2.2.2.2.1 E.2.2.2.2.2.2.1 E.2.2.2.2.2.2.2 H locs cs sl Q (F0 E.2.2.2.1 pc ls st)
def fr_lk : List (Nat × Value) → Nat → Option Value
  | [], _ => none
  | q :: t, i => if q.1 = i then some q.2 else fr_lk t i
theorem fr_lk_at {ls : Array Slot} {nL i : Nat} {v : Value} {L : List (Nat × Value)} (h : lv_has ls nL L) (hk : fr_lk L i = some v) : ls[i]? = some (.val v) := by
  have key : ∀ L : List (Nat × Value), fr_lk L i = some v → (i, v) ∈ L := by
    intro L
    induction L with
    | nil => intro h; cases h
    | cons q t ih =>
      intro h
      unfold fr_lk at h
      split at h
      · rename_i e
        cases h
        rw [← e]
        exact List.mem_cons_self
      · exact List.mem_cons_of_mem _ (ih h)
  exact h.2.2 (i, v) (key L hk)
theorem fr_ok.conv {X : fr_X} {Z Z2 : fr_Z} {I I2 : fr_I} {J J2 : fr_J} {U : State} {H : Heap} (h : fr_ok X Z I J U H) (hl : ∀ k r, Z2.2.1 k r → Z.2.1 k r) (he : ∀ k r j, Z2.2.1 k r → Z2.1 k r j = Z.1 k r j ∧ I2 k r j = I k r j ∧ J2 k r j = J k r j) : fr_ok X Z2 I2 J2 U H :=
  ⟨fun k r q => (h.1 k r (hl k r q)).kept rfl (fun j => fr_vl_eq (he k r j q).2.1 (he k r j q).2.2 (he k r j q).1), fun k r k' r' q q' => h.2.1 k r k' r' (hl _ _ q) (hl _ _ q'), fun k r q => h.2.2 k r (hl _ _ q)⟩
theorem fr_ok.grow {X : fr_X} {Z : fr_Z} {P1 : fr_P} {I I1 : fr_I} {J J1 : fr_J} {U : State} {H H1 : Heap} {k r : Nat} (h : fr_ok X Z I J U H) (ha : fr_ad X k r = H.size) (hc : fr_ce X P1 I1 J1 U H1 k r) (ho : ∀ q, q < H.size → H1[q]? = H[q]?) (hb : X.2.2.2 ≤ H.size)
    (hv : ∀ k' r' j', ¬ (k' = k ∧ r' = r) → fr_vl X P1 I1 J1 k' r' j' = fr_vl X Z.1 I J k' r' j') : fr_ok X (P1, (fun a b => Z.2.1 a b ∨ (a = k ∧ b = r)), Z.2.2 + 1) I1 J1 U H1 := by
  refine ⟨fun k' r' hl => ?_, fun k1 r1 k2 r2 h1 h2 e => ?_, fun k' r' hl => ?_⟩
  · by_cases e : k' = k ∧ r' = r
    · obtain ⟨rfl, rfl⟩ := e
      exact hc
    · rcases hl with hl | hl
      · exact (h.1 k' r' hl).kept (ho _ (h.1 k' r' hl).lt) (fun j' => hv k' r' j' e)
      · exact absurd hl e
  · rcases h1 with h1 | h1 <;> rcases h2 with h2 | h2
    · exact h.2.1 _ _ _ _ h1 h2 e
    · have := (h.1 k1 r1 h1).lt
      rw [h2.1, h2.2] at e
      omega
    · have := (h.1 k2 r2 h2).lt
      rw [h1.1, h1.2] at e
      omega
    · exact ⟨h1.1.trans h2.1.symm, h1.2.trans h2.2.symm⟩
  · rcases hl with hl | ⟨rfl, rfl⟩
    · exact h.2.2 k' r' hl
    · rw [ha]; exact hb
end
section
section FRrows
variable {X : fr_X} {E : fr_E} {own nm : String} {cc : ByteArray} {nL : Nat} {ret : Option FieldType} {R : Room} {Q : State → Prop} {cs sl : Nat} {Z : fr_Z} {pc : Nat} {L : List (Nat × Value)} {st : List Value} {I : fr_I} {J : fr_J}
theorem fr_iconst {n : Int} {v : Int32} (d : decode cc pc = .ok (.iconst n, 1)) (hv : Int32.ofInt n = v) (kk : fr_Ev X E own nm cc nL ret R Q cs sl Z (pc + 1) L (.int v :: st) I J) : fr_Ev X E own nm cc nL ret R Q cs sl Z pc L st I J := fun C H locs ls hz hm hS hl => lv_iconst C.1 C.2.1 d hv (kk C H locs ls hz hm hS hl)
theorem fr_bipush {n : Int} {v : Int32} (d : decode cc pc = .ok (.bipush n, 2)) (hv : (Int8.ofInt n).toInt32 = v) (kk : fr_Ev X E own nm cc nL ret R Q cs sl Z (pc + 2) L (.int v :: st) I J) : fr_Ev X E own nm cc nL ret R Q cs sl Z pc L st I J := fun C H locs ls hz hm hS hl => lv_bipush C.1 C.2.1 d hv (kk C H locs ls hz hm hS hl)
theorem fr_sipush {n : Int} {v : Int32} (d : decode cc pc = .ok (.sipush n, 3)) (hv : (Int16.ofInt n).toInt32 = v) (kk : fr_Ev X E own nm cc nL ret R Q cs sl Z (pc + 3) L (.int v :: st) I J) : fr_Ev X E own nm cc nL ret R Q cs sl Z pc L st I J := fun C H locs ls hz hm hS hl => lv_sipush C.1 C.2.1 d hv (kk C H locs ls hz hm hS hl)
theorem fr_lconst {n : Fin 2} {v : Int64} (d : decode cc pc = .ok (.lconst n, 1)) (hv : Int64.ofNat (n : Nat) = v) (kk : fr_Ev X E own nm cc nL ret R Q cs sl Z (pc + 1) L (.long v :: st) I J) : fr_Ev X E own nm cc nL ret R Q cs sl Z pc L st I J := fun C H locs ls hz hm hS hl => lv_lconst C.1 C.2.1 d hv (kk C H locs ls hz hm hS hl)
theorem fr_iload_n {q : Fin 4} {x : Int32} (d : decode cc pc = .ok (.iload_n q, 1)) (h : fr_lk L (q : Nat) = some (.int x)) (kk : fr_Ev X E own nm cc nL ret R Q cs sl Z (pc + 1) L (.int x :: st) I J) : fr_Ev X E own nm cc nL ret R Q cs sl Z pc L st I J := fun C H locs ls hz hm hS hl => lv_iload_n C.1 C.2.1 d rfl (fr_lk_at hl h) (kk C H locs ls hz hm hS hl)
theorem fr_iload {i : Nat} {x : Int32} (d : decode cc pc = .ok (.iload i, 2)) (h : fr_lk L i = some (.int x)) (kk : fr_Ev X E own nm cc nL ret R Q cs sl Z (pc + 2) L (.int x :: st) I J) : fr_Ev X E own nm cc nL ret R Q cs sl Z pc L st I J := fun C H locs ls hz hm hS hl => lv_iload C.1 C.2.1 d (fr_lk_at hl h) (kk C H locs ls hz hm hS hl)
theorem fr_lload_n {q : Fin 4} {x : Int64} (d : decode cc pc = .ok (.lload_n q, 1)) (h : fr_lk L (q : Nat) = some (.long x)) (kk : fr_Ev X E own nm cc nL ret R Q cs sl Z (pc + 1) L (.long x :: st) I J) : fr_Ev X E own nm cc nL ret R Q cs sl Z pc L st I J := fun C H locs ls hz hm hS hl => lv_lload_n C.1 C.2.1 d rfl (fr_lk_at hl h) (kk C H locs ls hz hm hS hl)
theorem fr_lload {i : Nat} {x : Int64} (d : decode cc pc = .ok (.lload i, 2)) (h : fr_lk L i = some (.long x)) (kk : fr_Ev X E own nm cc nL ret R Q cs sl Z (pc + 2) L (.long x :: st) I J) : fr_Ev X E own nm cc nL ret R Q cs sl Z pc L st I J := fun C H locs ls hz hm hS hl => lv_lload C.1 C.2.1 d (fr_lk_at hl h) (kk C H locs ls hz hm hS hl)
theorem fr_aload_n {q : Fin 4} {x : Nat} (d : decode cc pc = .ok (.aload_n q, 1)) (h : fr_lk L (q : Nat) = some (.ref x)) (kk : fr_Ev X E own nm cc nL ret R Q cs sl Z (pc + 1) L (.ref x :: st) I J) : fr_Ev X E own nm cc nL ret R Q cs sl Z pc L st I J := fun C H locs ls hz hm hS hl => lv_aload_n C.1 C.2.1 d rfl (fr_lk_at hl h) (kk C H locs ls hz hm hS hl)
theorem fr_aload {i : Nat} {x : Nat} (d : decode cc pc = .ok (.aload i, 2)) (h : fr_lk L i = some (.ref x)) (kk : fr_Ev X E own nm cc nL ret R Q cs sl Z (pc + 2) L (.ref x :: st) I J) : fr_Ev X E own nm cc nL ret R Q cs sl Z pc L st I J := fun C H locs ls hz hm hS hl => lv_aload C.1 C.2.1 d (fr_lk_at hl h) (kk C H locs ls hz hm hS hl)
theorem fr_istore_n {q : Fin 4} {x : Int32} {L' : List (Nat × Value)} (d : decode cc pc = .ok (.istore_n q, 1)) (hn : (q : Nat) < nL) (hL : ((q : Nat), Value.int x) :: L.filter (fun w => !(w.1 == (q : Nat)) && !(w.1 + 1 == (q : Nat) && w.2.category == 2)) = L') (kk : fr_Ev X E own nm cc nL ret R Q cs sl Z (pc + 1) L' st I J) : fr_Ev X E own nm cc nL ret R Q cs sl Z pc L (.int x :: st) I J := fun C H locs ls hz hm hS hl => lv_istore_n C.1 C.2.1 d rfl hl hn hL (fun ls' hl' => kk C H locs ls' hz hm hS hl')
theorem fr_istore {i : Nat} {x : Int32} {L' : List (Nat × Value)} (d : decode cc pc = .ok (.istore i, 2)) (hn : i < nL) (hL : (i, Value.int x) :: L.filter (fun q => !(q.1 == i) && !(q.1 + 1 == i && q.2.category == 2)) = L') (kk : fr_Ev X E own nm cc nL ret R Q cs sl Z (pc + 2) L' st I J) : fr_Ev X E own nm cc nL ret R Q cs sl Z pc L (.int x :: st) I J := fun C H locs ls hz hm hS hl => lv_istore C.1 C.2.1 d hl hn hL (fun ls' hl' => kk C H locs ls' hz hm hS hl')
theorem fr_lstore_n {q : Fin 4} {x : Int64} {L' : List (Nat × Value)} (d : decode cc pc = .ok (.lstore_n q, 1)) (hn : (q : Nat) + 1 < nL) (hL : ((q : Nat), Value.long x) :: L.filter (fun w => !(w.1 == (q : Nat)) && (!(w.1 == (q : Nat) + 1) && !(w.1 + 1 == (q : Nat) && w.2.category == 2))) = L') (kk : fr_Ev X E own nm cc nL ret R Q cs sl Z (pc + 1) L' st I J) : fr_Ev X E own nm cc nL ret R Q cs sl Z pc L (.long x :: st) I J := fun C H locs ls hz hm hS hl => lv_lstore_n C.1 C.2.1 d rfl hl hn hL (fun ls' hl' => kk C H locs ls' hz hm hS hl')
theorem fr_lstore {i : Nat} {x : Int64} {L' : List (Nat × Value)} (d : decode cc pc = .ok (.lstore i, 2)) (hn : i + 1 < nL) (hL : (i, Value.long x) :: L.filter (fun q => !(q.1 == i) && (!(q.1 == i + 1) && !(q.1 + 1 == i && q.2.category == 2))) = L') (kk : fr_Ev X E own nm cc nL ret R Q cs sl Z (pc + 2) L' st I J) : fr_Ev X E own nm cc nL ret R Q cs sl Z pc L (.long x :: st) I J := fun C H locs ls hz hm hS hl => lv_lstore C.1 C.2.1 d hl hn hL (fun ls' hl' => kk C H locs ls' hz hm hS hl')
theorem fr_astore_n {q : Fin 4} {x : Nat} {L' : List (Nat × Value)} (d : decode cc pc = .ok (.astore_n q, 1)) (hn : (q : Nat) < nL) (hL : ((q : Nat), Value.ref x) :: L.filter (fun w => !(w.1 == (q : Nat)) && !(w.1 + 1 == (q : Nat) && w.2.category == 2)) = L') (kk : fr_Ev X E own nm cc nL ret R Q cs sl Z (pc + 1) L' st I J) : fr_Ev X E own nm cc nL ret R Q cs sl Z pc L (.ref x :: st) I J := fun C H locs ls hz hm hS hl => lv_astore_n C.1 C.2.1 d rfl hl hn hL (fun ls' hl' => kk C H locs ls' hz hm hS hl')
theorem fr_astore {i : Nat} {x : Nat} {L' : List (Nat × Value)} (d : decode cc pc = .ok (.astore i, 2)) (hn : i < nL) (hL : (i, Value.ref x) :: L.filter (fun q => !(q.1 == i) && !(q.1 + 1 == i && q.2.category == 2)) = L') (kk : fr_Ev X E own nm cc nL ret R Q cs sl Z (pc + 2) L' st I J) : fr_Ev X E own nm cc nL ret R Q cs sl Z pc L (.ref x :: st) I J := fun C H locs ls hz hm hS hl => lv_astore C.1 C.2.1 d hl hn hL (fun ls' hl' => kk C H locs ls' hz hm hS hl')
theorem fr_iinc {i : Nat} {n : Int} {x v : Int32} {L' : List (Nat × Value)} (d : decode cc pc = .ok (.iinc i n, 3)) (h : fr_lk L i = some (.int x)) (hv : x + Int32.ofInt n = v) (hn : i < nL) (hL : (i, Value.int v) :: L.filter (fun q => !(q.1 == i) && !(q.1 + 1 == i && q.2.category == 2)) = L') (kk : fr_Ev X E own nm cc nL ret R Q cs sl Z (pc + 3) L' st I J) : fr_Ev X E own nm cc nL ret R Q cs sl Z pc L st I J := by
  intro C H locs ls hz hm hS hl
  have hl2 : lv_has ls nL ((i, .int x) :: L) := ⟨hl.1, hl.2.1, fun q hq => by
    rcases List.mem_cons.mp hq with rfl | hq
    · exact fr_lk_at hl h
    · exact hl.2.2 q hq⟩
  refine lv_iinc (k := 0) (lv' := L') C.1 C.2.1 d hl2 rfl hv hn ?_ (fun ls' hl' => kk C H locs ls' hz hm hS hl')
  rw [← hL]
  simp
theorem fr_iadd {x y : Int32} (d : decode cc pc = .ok (.iadd, 1))  (kk : fr_Ev X E own nm cc nL ret R Q cs sl Z (pc + 1) L (.int (x + y) :: st) I J) : fr_Ev X E own nm cc nL ret R Q cs sl Z pc L (.int y :: .int x :: st) I J := fun C H locs ls hz hm hS hl => lv_iadd C.1 C.2.1 d  (kk C H locs ls hz hm hS hl)
theorem fr_isub {x y : Int32} (d : decode cc pc = .ok (.isub, 1))  (kk : fr_Ev X E own nm cc nL ret R Q cs sl Z (pc + 1) L (.int (x - y) :: st) I J) : fr_Ev X E own nm cc nL ret R Q cs sl Z pc L (.int y :: .int x :: st) I J := fun C H locs ls hz hm hS hl => lv_isub C.1 C.2.1 d  (kk C H locs ls hz hm hS hl)
theorem fr_imul {x y : Int32} (d : decode cc pc = .ok (.imul, 1))  (kk : fr_Ev X E own nm cc nL ret R Q cs sl Z (pc + 1) L (.int (x * y) :: st) I J) : fr_Ev X E own nm cc nL ret R Q cs sl Z pc L (.int y :: .int x :: st) I J := fun C H locs ls hz hm hS hl => lv_imul C.1 C.2.1 d  (kk C H locs ls hz hm hS hl)
theorem fr_iand {x y : Int32} (d : decode cc pc = .ok (.iand, 1))  (kk : fr_Ev X E own nm cc nL ret R Q cs sl Z (pc + 1) L (.int (x &&& y) :: st) I J) : fr_Ev X E own nm cc nL ret R Q cs sl Z pc L (.int y :: .int x :: st) I J := fun C H locs ls hz hm hS hl => lv_iand C.1 C.2.1 d  (kk C H locs ls hz hm hS hl)
theorem fr_ishl {x y : Int32} (d : decode cc pc = .ok (.ishl, 1))  (kk : fr_Ev X E own nm cc nL ret R Q cs sl Z (pc + 1) L (.int (x <<< (y &&& 31)) :: st) I J) : fr_Ev X E own nm cc nL ret R Q cs sl Z pc L (.int y :: .int x :: st) I J := fun C H locs ls hz hm hS hl => lv_ishl C.1 C.2.1 d  (kk C H locs ls hz hm hS hl)
theorem fr_ishr {x y : Int32} (d : decode cc pc = .ok (.ishr, 1))  (kk : fr_Ev X E own nm cc nL ret R Q cs sl Z (pc + 1) L (.int (x >>> (y &&& 31)) :: st) I J) : fr_Ev X E own nm cc nL ret R Q cs sl Z pc L (.int y :: .int x :: st) I J := fun C H locs ls hz hm hS hl => lv_ishr C.1 C.2.1 d  (kk C H locs ls hz hm hS hl)
theorem fr_ladd {x y : Int64} (d : decode cc pc = .ok (.ladd, 1))  (kk : fr_Ev X E own nm cc nL ret R Q cs sl Z (pc + 1) L (.long (x + y) :: st) I J) : fr_Ev X E own nm cc nL ret R Q cs sl Z pc L (.long y :: .long x :: st) I J := fun C H locs ls hz hm hS hl => lv_ladd C.1 C.2.1 d  (kk C H locs ls hz hm hS hl)
theorem fr_lsub {x y : Int64} (d : decode cc pc = .ok (.lsub, 1))  (kk : fr_Ev X E own nm cc nL ret R Q cs sl Z (pc + 1) L (.long (x - y) :: st) I J) : fr_Ev X E own nm cc nL ret R Q cs sl Z pc L (.long y :: .long x :: st) I J := fun C H locs ls hz hm hS hl => lv_lsub C.1 C.2.1 d  (kk C H locs ls hz hm hS hl)
theorem fr_lmul {x y : Int64} (d : decode cc pc = .ok (.lmul, 1))  (kk : fr_Ev X E own nm cc nL ret R Q cs sl Z (pc + 1) L (.long (x * y) :: st) I J) : fr_Ev X E own nm cc nL ret R Q cs sl Z pc L (.long y :: .long x :: st) I J := fun C H locs ls hz hm hS hl => lv_lmul C.1 C.2.1 d  (kk C H locs ls hz hm hS hl)
theorem fr_idiv {x y : Int32} (d : decode cc pc = .ok (.idiv, 1)) (hne : ¬ y = 0) (kk : fr_Ev X E own nm cc nL ret R Q cs sl Z (pc + 1) L (.int (x / y) :: st) I J) : fr_Ev X E own nm cc nL ret R Q cs sl Z pc L (.int y :: .int x :: st) I J := fun C H locs ls hz hm hS hl => lv_idiv C.1 C.2.1 d hne (kk C H locs ls hz hm hS hl)
theorem fr_irem {x y : Int32} (d : decode cc pc = .ok (.irem, 1)) (hne : ¬ y = 0) (kk : fr_Ev X E own nm cc nL ret R Q cs sl Z (pc + 1) L (.int (x - x / y * y) :: st) I J) : fr_Ev X E own nm cc nL ret R Q cs sl Z pc L (.int y :: .int x :: st) I J := fun C H locs ls hz hm hS hl => lv_irem C.1 C.2.1 d hne (kk C H locs ls hz hm hS hl)
theorem fr_ldiv {x y : Int64} (d : decode cc pc = .ok (.ldiv, 1)) (hne : ¬ y = 0) (kk : fr_Ev X E own nm cc nL ret R Q cs sl Z (pc + 1) L (.long (x / y) :: st) I J) : fr_Ev X E own nm cc nL ret R Q cs sl Z pc L (.long y :: .long x :: st) I J := fun C H locs ls hz hm hS hl => lv_ldiv C.1 C.2.1 d hne (kk C H locs ls hz hm hS hl)
theorem fr_i2l {x : Int32} {v : Int64} (d : decode cc pc = .ok (.i2l, 1)) (hv : x.toInt64 = v) (kk : fr_Ev X E own nm cc nL ret R Q cs sl Z (pc + 1) L (.long v :: st) I J) : fr_Ev X E own nm cc nL ret R Q cs sl Z pc L (.int x :: st) I J := fun C H locs ls hz hm hS hl => lv_i2l C.1 C.2.1 d hv (kk C H locs ls hz hm hS hl)
theorem fr_l2i {x : Int64} {v : Int32} (d : decode cc pc = .ok (.l2i, 1)) (hv : x.toInt32 = v) (kk : fr_Ev X E own nm cc nL ret R Q cs sl Z (pc + 1) L (.int v :: st) I J) : fr_Ev X E own nm cc nL ret R Q cs sl Z pc L (.long x :: st) I J := fun C H locs ls hz hm hS hl => lv_l2i C.1 C.2.1 d hv (kk C H locs ls hz hm hS hl)
theorem fr_lcmp {x y : Int64} (d : decode cc pc = .ok (.lcmp, 1))  (kk : fr_Ev X E own nm cc nL ret R Q cs sl Z (pc + 1) L (.int (lg_cmp x y) :: st) I J) : fr_Ev X E own nm cc nL ret R Q cs sl Z pc L (.long y :: .long x :: st) I J := fun C H locs ls hz hm hS hl => W.lcmp C.1 C.2.1 d  (kk C H locs ls hz hm hS hl)
theorem fr_dup {a : Value} (d : decode cc pc = .ok (.dup, 1)) (h1 : a.category = 1) (kk : fr_Ev X E own nm cc nL ret R Q cs sl Z (pc + 1) L (a :: a :: st) I J) : fr_Ev X E own nm cc nL ret R Q cs sl Z pc L (a :: st) I J := fun C H locs ls hz hm hS hl => lv_dup C.1 C.2.1 d h1 (kk C H locs ls hz hm hS hl)
theorem fr_pop {a : Value} (d : decode cc pc = .ok (.pop, 1)) (h1 : a.category = 1) (kk : fr_Ev X E own nm cc nL ret R Q cs sl Z (pc + 1) L st I J) : fr_Ev X E own nm cc nL ret R Q cs sl Z pc L (a :: st) I J := fun C H locs ls hz hm hS hl => lv_pop C.1 C.2.1 d h1 (kk C H locs ls hz hm hS hl)
theorem fr_dup_x1 {a b : Value} (d : decode cc pc = .ok (.dup_x1, 1)) (h1 : a.category = 1) (h2 : b.category = 1) (kk : fr_Ev X E own nm cc nL ret R Q cs sl Z (pc + 1) L (a :: b :: a :: st) I J) : fr_Ev X E own nm cc nL ret R Q cs sl Z pc L (a :: b :: st) I J := fun C H locs ls hz hm hS hl => lv_dup_x1 C.1 C.2.1 d h1 h2 (kk C H locs ls hz hm hS hl)
theorem fr_dup_x2 {a b c : Value} (d : decode cc pc = .ok (.dup_x2, 1)) (h1 : a.category = 1) (h2 : b.category = 1) (h3 : c.category = 1) (kk : fr_Ev X E own nm cc nL ret R Q cs sl Z (pc + 1) L (a :: b :: c :: a :: st) I J) : fr_Ev X E own nm cc nL ret R Q cs sl Z pc L (a :: b :: c :: st) I J := fun C H locs ls hz hm hS hl => lv_dup_x2 C.1 C.2.1 d h1 h2 h3 (kk C H locs ls hz hm hS hl)
theorem fr_dup2 {a b : Value} (d : decode cc pc = .ok (.dup2, 1)) (h1 : a.category = 1) (h2 : b.category = 1) (kk : fr_Ev X E own nm cc nL ret R Q cs sl Z (pc + 1) L (a :: b :: a :: b :: st) I J) : fr_Ev X E own nm cc nL ret R Q cs sl Z pc L (a :: b :: st) I J := fun C H locs ls hz hm hS hl => lv_dup2_11 C.1 C.2.1 d h1 h2 (kk C H locs ls hz hm hS hl)
theorem fr_if_eq {x : Int32} {off : Int} (tgt : Nat) (d : decode cc pc = .ok (.ifCond .eq off, 3)) (ht : (pc : Int) + off = (tgt : Int)) (kt : x = 0 → fr_Ev X E own nm cc nL ret R Q cs sl Z tgt L st I J) (kf : ¬ x = 0 → fr_Ev X E own nm cc nL ret R Q cs sl Z (pc + 3) L st I J) : fr_Ev X E own nm cc nL ret R Q cs sl Z pc L (.int x :: st) I J := fun C H locs ls hz hm hS hl => lv_if_eq C.1 C.2.1 d ht (fun h => kt h C H locs ls hz hm hS hl) (fun h => kf h C H locs ls hz hm hS hl)
theorem fr_if_ne {x : Int32} {off : Int} (tgt : Nat) (d : decode cc pc = .ok (.ifCond .ne off, 3)) (ht : (pc : Int) + off = (tgt : Int)) (kt : ¬ x = 0 → fr_Ev X E own nm cc nL ret R Q cs sl Z tgt L st I J) (kf : x = 0 → fr_Ev X E own nm cc nL ret R Q cs sl Z (pc + 3) L st I J) : fr_Ev X E own nm cc nL ret R Q cs sl Z pc L (.int x :: st) I J := fun C H locs ls hz hm hS hl => lv_if_ne C.1 C.2.1 d ht (fun h => kt h C H locs ls hz hm hS hl) (fun h => kf h C H locs ls hz hm hS hl)
theorem fr_if_lt {x : Int32} {off : Int} (tgt : Nat) (d : decode cc pc = .ok (.ifCond .lt off, 3)) (ht : (pc : Int) + off = (tgt : Int)) (kt : x < 0 → fr_Ev X E own nm cc nL ret R Q cs sl Z tgt L st I J) (kf : ¬ x < 0 → fr_Ev X E own nm cc nL ret R Q cs sl Z (pc + 3) L st I J) : fr_Ev X E own nm cc nL ret R Q cs sl Z pc L (.int x :: st) I J := fun C H locs ls hz hm hS hl => lv_if_lt C.1 C.2.1 d ht (fun h => kt h C H locs ls hz hm hS hl) (fun h => kf h C H locs ls hz hm hS hl)
theorem fr_if_ge {x : Int32} {off : Int} (tgt : Nat) (d : decode cc pc = .ok (.ifCond .ge off, 3)) (ht : (pc : Int) + off = (tgt : Int)) (kt : 0 ≤ x → fr_Ev X E own nm cc nL ret R Q cs sl Z tgt L st I J) (kf : ¬ 0 ≤ x → fr_Ev X E own nm cc nL ret R Q cs sl Z (pc + 3) L st I J) : fr_Ev X E own nm cc nL ret R Q cs sl Z pc L (.int x :: st) I J := fun C H locs ls hz hm hS hl => lv_if_ge C.1 C.2.1 d ht (fun h => kt h C H locs ls hz hm hS hl) (fun h => kf h C H locs ls hz hm hS hl)
theorem fr_if_gt {x : Int32} {off : Int} (tgt : Nat) (d : decode cc pc = .ok (.ifCond .gt off, 3)) (ht : (pc : Int) + off = (tgt : Int)) (kt : 0 < x → fr_Ev X E own nm cc nL ret R Q cs sl Z tgt L st I J) (kf : ¬ 0 < x → fr_Ev X E own nm cc nL ret R Q cs sl Z (pc + 3) L st I J) : fr_Ev X E own nm cc nL ret R Q cs sl Z pc L (.int x :: st) I J := fun C H locs ls hz hm hS hl => lv_if_gt C.1 C.2.1 d ht (fun h => kt h C H locs ls hz hm hS hl) (fun h => kf h C H locs ls hz hm hS hl)
theorem fr_if_le {x : Int32} {off : Int} (tgt : Nat) (d : decode cc pc = .ok (.ifCond .le off, 3)) (ht : (pc : Int) + off = (tgt : Int)) (kt : x ≤ 0 → fr_Ev X E own nm cc nL ret R Q cs sl Z tgt L st I J) (kf : ¬ x ≤ 0 → fr_Ev X E own nm cc nL ret R Q cs sl Z (pc + 3) L st I J) : fr_Ev X E own nm cc nL ret R Q cs sl Z pc L (.int x :: st) I J := fun C H locs ls hz hm hS hl => lv_if_le C.1 C.2.1 d ht (fun h => kt h C H locs ls hz hm hS hl) (fun h => kf h C H locs ls hz hm hS hl)
theorem fr_icmp_eq {x y : Int32} {off : Int} (tgt : Nat) (d : decode cc pc = .ok (.if_icmp .eq off, 3)) (ht : (pc : Int) + off = (tgt : Int)) (kt : x = y → fr_Ev X E own nm cc nL ret R Q cs sl Z tgt L st I J) (kf : ¬ x = y → fr_Ev X E own nm cc nL ret R Q cs sl Z (pc + 3) L st I J) : fr_Ev X E own nm cc nL ret R Q cs sl Z pc L (.int y :: .int x :: st) I J := fun C H locs ls hz hm hS hl => lv_icmp_eq C.1 C.2.1 d ht (fun h => kt h C H locs ls hz hm hS hl) (fun h => kf h C H locs ls hz hm hS hl)
theorem fr_icmp_ne {x y : Int32} {off : Int} (tgt : Nat) (d : decode cc pc = .ok (.if_icmp .ne off, 3)) (ht : (pc : Int) + off = (tgt : Int)) (kt : ¬ x = y → fr_Ev X E own nm cc nL ret R Q cs sl Z tgt L st I J) (kf : x = y → fr_Ev X E own nm cc nL ret R Q cs sl Z (pc + 3) L st I J) : fr_Ev X E own nm cc nL ret R Q cs sl Z pc L (.int y :: .int x :: st) I J := fun C H locs ls hz hm hS hl => lv_icmp_ne C.1 C.2.1 d ht (fun h => kt h C H locs ls hz hm hS hl) (fun h => kf h C H locs ls hz hm hS hl)
theorem fr_icmp_lt {x y : Int32} {off : Int} (tgt : Nat) (d : decode cc pc = .ok (.if_icmp .lt off, 3)) (ht : (pc : Int) + off = (tgt : Int)) (kt : x < y → fr_Ev X E own nm cc nL ret R Q cs sl Z tgt L st I J) (kf : ¬ x < y → fr_Ev X E own nm cc nL ret R Q cs sl Z (pc + 3) L st I J) : fr_Ev X E own nm cc nL ret R Q cs sl Z pc L (.int y :: .int x :: st) I J := fun C H locs ls hz hm hS hl => lv_icmp_lt C.1 C.2.1 d ht (fun h => kt h C H locs ls hz hm hS hl) (fun h => kf h C H locs ls hz hm hS hl)
theorem fr_icmp_ge {x y : Int32} {off : Int} (tgt : Nat) (d : decode cc pc = .ok (.if_icmp .ge off, 3)) (ht : (pc : Int) + off = (tgt : Int)) (kt : y ≤ x → fr_Ev X E own nm cc nL ret R Q cs sl Z tgt L st I J) (kf : ¬ y ≤ x → fr_Ev X E own nm cc nL ret R Q cs sl Z (pc + 3) L st I J) : fr_Ev X E own nm cc nL ret R Q cs sl Z pc L (.int y :: .int x :: st) I J := fun C H locs ls hz hm hS hl => lv_icmp_ge C.1 C.2.1 d ht (fun h => kt h C H locs ls hz hm hS hl) (fun h => kf h C H locs ls hz hm hS hl)
theorem fr_icmp_gt {x y : Int32} {off : Int} (tgt : Nat) (d : decode cc pc = .ok (.if_icmp .gt off, 3)) (ht : (pc : Int) + off = (tgt : Int)) (kt : y < x → fr_Ev X E own nm cc nL ret R Q cs sl Z tgt L st I J) (kf : ¬ y < x → fr_Ev X E own nm cc nL ret R Q cs sl Z (pc + 3) L st I J) : fr_Ev X E own nm cc nL ret R Q cs sl Z pc L (.int y :: .int x :: st) I J := fun C H locs ls hz hm hS hl => lv_icmp_gt C.1 C.2.1 d ht (fun h => kt h C H locs ls hz hm hS hl) (fun h => kf h C H locs ls hz hm hS hl)
theorem fr_icmp_le {x y : Int32} {off : Int} (tgt : Nat) (d : decode cc pc = .ok (.if_icmp .le off, 3)) (ht : (pc : Int) + off = (tgt : Int)) (kt : x ≤ y → fr_Ev X E own nm cc nL ret R Q cs sl Z tgt L st I J) (kf : ¬ x ≤ y → fr_Ev X E own nm cc nL ret R Q cs sl Z (pc + 3) L st I J) : fr_Ev X E own nm cc nL ret R Q cs sl Z pc L (.int y :: .int x :: st) I J := fun C H locs ls hz hm hS hl => lv_icmp_le C.1 C.2.1 d ht (fun h => kt h C H locs ls hz hm hS hl) (fun h => kf h C H locs ls hz hm hS hl)
theorem fr_goto {off : Int} (tgt : Nat) (d : decode cc pc = .ok (.goto off, 3)) (ht : (pc : Int) + off = (tgt : Int)) (kk : fr_Ev X E own nm cc nL ret R Q cs sl Z tgt L st I J) : fr_Ev X E own nm cc nL ret R Q cs sl Z pc L st I J := fun C H locs ls hz hm hS hl => lv_goto C.1 C.2.1 d ht (kk C H locs ls hz hm hS hl)
theorem fr_ldc {idx : Nat} {v : Int32} (hw : Cond.constant own idx v ∈ fr_ws) (d : decode cc pc = .ok (.ldc idx, 2)) (kk : fr_Ev X E own nm cc nL ret R Q cs sl Z (pc + 2) L (.int v :: st) I J) : fr_Ev X E own nm cc nL ret R Q cs sl Z pc L st I J := fun C H locs ls hz hm hS hl => lv_ldc C.1 C.2.1 C.2.2.2.1 (C.2.2.2.2.1 _ hw) d (kk C H locs ls hz hm hS hl)
theorem fr_ldc2 {idx : Nat} {v : Int64} (hw : Cond.constantLong own idx v ∈ fr_ws) (d : decode cc pc = .ok (.ldc2_w idx, 3)) (kk : fr_Ev X E own nm cc nL ret R Q cs sl Z (pc + 3) L (.long v :: st) I J) : fr_Ev X E own nm cc nL ret R Q cs sl Z pc L st I J := fun C H locs ls hz hm hS hl => lv_ldc2 C.1 C.2.1 C.2.2.2.1 (C.2.2.2.2.1 _ hw) d (kk C H locs ls hz hm hS hl)
end FRrows
end
section
-- what the words say of a class's fields, and of a link to a field
theorem fr_nar_i (x : Int32) : narrow .int (.int x) = .int x := rfl
theorem fr_nar_b {x : Int32} (h : x = 0 ∨ x = 1) : narrow .boolean (.int x) = .int x := by
  rcases h with rfl | rfl <;> decide
theorem fr_fits_i (x : Int32) : fits .int (.int x) = true := rfl
theorem fr_fits_b {x : Int32} (h : x = 0 ∨ x = 1) : fits .boolean (.int x) = true := by
  rcases h with rfl | rfl <;> decide
section FRmem
variable {X : fr_X} {E : fr_E} {own nm : String} {cc : ByteArray} {nL : Nat} {ret : Option FieldType} {R : Room} {Q : State → Prop} {cs sl : Nat} {Z : fr_Z} {pc : Nat} {L : List (Nat × Value)} {st : List Value} {I : fr_I} {J : fr_J}
theorem fr_get {idx ci j k r : Nat} {ty : FieldType} {fin : Bool} (d : decode cc pc = .ok (.getfield idx, 3)) (hf : fr_fl own idx ci j ty fin) (hk : fr_kd k = .inl ci) (hlv : Z.2.1 k r)
    (kk : fr_Ev X E own nm cc nL ret R Q cs sl Z (pc + 3) L (fr_vl X Z.1 I J k r j :: st) I J) : fr_Ev X E own nm cc nL ret R Q cs sl Z pc L (.ref (fr_ad X k r) :: st) I J := by
  obtain ⟨p, e, s, m, args, below, meth, c⟩ := E
  intro C H locs ls hz hm hS hl
  obtain ⟨q, ty0, hc, ⟨hin, hty, hnm⟩, hj, hlink, -, -, hown2⟩ := hf
  obtain ⟨q', hq', cell, q1, q2, q3, q4⟩ := (fr_ce_o hk).mp (hm.1 k r hlv)
  obtain rfl : q' = q := Option.some.inj (hq'.symm.trans hc)
  have C' := C
  obtain ⟨hx, hb, hml, hown, hts, hK, -⟩ := C'
  obtain ⟨hSl, hfc, kC, hkC, hkind⟩ := hK.1 ci _ hc
  obtain ⟨cf, kf, fi, f, hi, hsl⟩ := hSl j hj
  refine W.getf hx hb hown (hts _ hlink) hi (u_facts hfc hkC (u_lays hts hin hj) hi).1 q1 (by rw [q3]; exact fun h => by cases h) (v := fr_vl X Z.1 I J k r j) ?_ rfl rfl d (kk C H locs ls hz hm hS hl)
  rw [hsl, q4 j hj]
theorem fr_geti {idx ci j k r : Nat} {ty : FieldType} {fin : Bool} (d : decode cc pc = .ok (.getfield idx, 3)) (hf : fr_fl own idx ci j ty fin) (hk : fr_kd k = .inl ci) (hs : fr_so k j = 0) (hlv : Z.2.1 k r)
    (kk : fr_Ev X E own nm cc nL ret R Q cs sl Z (pc + 3) L (.int (I k r j) :: st) I J) : fr_Ev X E own nm cc nL ret R Q cs sl Z pc L (.ref (fr_ad X k r) :: st) I J :=
  fr_get d hf hk hlv (by rw [fr_vl0 hs]; exact kk)
theorem fr_getl {idx ci j k r : Nat} {ty : FieldType} {fin : Bool} (d : decode cc pc = .ok (.getfield idx, 3)) (hf : fr_fl own idx ci j ty fin) (hk : fr_kd k = .inl ci) (hs : fr_so k j = 1) (hlv : Z.2.1 k r)
    (kk : fr_Ev X E own nm cc nL ret R Q cs sl Z (pc + 3) L (.long (J k r j) :: st) I J) : fr_Ev X E own nm cc nL ret R Q cs sl Z pc L (.ref (fr_ad X k r) :: st) I J :=
  fr_get d hf hk hlv (by rw [fr_vl1 hs]; exact kk)
theorem fr_getr {idx ci j k r k' r' : Nat} {ty : FieldType} {fin : Bool} (d : decode cc pc = .ok (.getfield idx, 3)) (hf : fr_fl own idx ci j ty fin) (hk : fr_kd k = .inl ci) (hs : fr_so k j = 2) (hp : Z.1 k r j = some (k', r')) (hlv : Z.2.1 k r)
    (kk : fr_Ev X E own nm cc nL ret R Q cs sl Z (pc + 3) L (.ref (fr_ad X k' r') :: st) I J) : fr_Ev X E own nm cc nL ret R Q cs sl Z pc L (.ref (fr_ad X k r) :: st) I J :=
  fr_get d hf hk hlv (by rw [fr_vl2 hs, hp]; exact kk)
/-- a field is stored (not final, or final in the class's own constructor) -/
theorem fr_put {idx ci j k r : Nat} {ty : FieldType} {fin : Bool} {v : Value} {P1 : fr_P} {I1 : fr_I} {J1 : fr_J} (d : decode cc pc = .ok (.putfield idx, 3)) (hf : fr_fl own idx ci j ty fin) (hfin : fin = false ∨ (nm = "<init>" ∧ ∃ q : vw_C, fr_cl[ci]? = some q ∧ q.1 = own)) (hk : fr_kd k = .inl ci) (hlv : Z.2.1 k r) (hn : narrow ty v = v) (hft : fits ty v = true)
    (hv1 : fr_vl X P1 I1 J1 k r j = v) (hv2 : ∀ k' r' j', ¬ (k' = k ∧ r' = r ∧ j' = j) → fr_vl X P1 I1 J1 k' r' j' = fr_vl X Z.1 I J k' r' j')
    (kk : fr_Ev X E own nm cc nL ret R Q cs sl (P1, Z.2) (pc + 3) L st I1 J1) : fr_Ev X E own nm cc nL ret R Q cs sl Z pc L (v :: .ref (fr_ad X k r) :: st) I J := by
  obtain ⟨p, e, s, m, args, below, meth, c⟩ := E
  intro C H locs ls hz hm hS hl
  obtain ⟨q, ty0, hc, ⟨hin, hty, hnm⟩, hj, hlink, htj, hfq, hown2⟩ := hf
  obtain ⟨q', hq', cell, q1, q2, q3, q4⟩ := (fr_ce_o hk).mp (hm.1 k r hlv)
  obtain rfl : q' = q := Option.some.inj (hq'.symm.trans hc)
  have C' := C
  obtain ⟨hx, hb, hml, hown, hts, hK, hNw, hret, hlk, hname, hbase⟩ := C'
  have hap := va_apart (own := own) hts hin ty0 hty hnm hK hc
  obtain ⟨hSl, hfc, kC, hkC, hkind⟩ := hK.1 ci _ hc
  obtain ⟨cf, kf, fi, f, hi, hsl⟩ := hSl j hj
  have hst := (u_facts hfc hkC (u_lays hts hin hj) hi).1
  have hlay := hts _ (hin _ (u_in_lay hj))
  unfold u_lay at hlay
  have hd : parseFieldDescriptor (q'.2.1 j).2.2.1 = some ty := by rw [hty j hj, htj]
  have hgo : ∀ H' : Heap, H'[fr_ad X k r]? = some (cell.setSlot (X.2.1.2 ci j) v) → H'.size = H.size → (∀ z, z ≠ fr_ad X k r → H'[z]? = H[z]?) → W p X.1 e R s m args below meth c H' (locs ++ [⟨fr_ad X k r, X.2.1.2 ci j⟩]) cs sl Q (F0 m (pc + 3) ls st) := by
    intro H' e1 e2 e3
    refine kk C H' _ ls (e2.trans hz) (hm.set hlv ((fr_ce_o hk).mpr ⟨_, hc, t_OB.to (V := updV (fr_vl X Z.1 I J k r) j v) ⟨_, e1, q2, q3, t_set q4 hap hj v⟩ (fun j' _ => ?_)⟩) e3 (fun k' r' j' hne => hv2 k' r' j' (fun z => hne ⟨z.1, z.2.1⟩))) (hS.put e2 e3 (hm.2.2 k r hlv)) hl
    by_cases hjj : j' = j
    · subst hjj
      rw [hv1]
      simp [updV]
    · rw [hv2 k r j' (fun z => hjj z.2.2)]
      simp [updV, hjj]
  cases fin with
  | false =>
    rw [if_neg (by rw [hfq]; decide)] at hlay
    have h6 := u_store hfc hkC hkind hlay hi hd hn hft
    refine W.putK hx hb (f := f) ⟨hown, hts _ hlink, ⟨_, _, _, hi⟩, hst⟩ (by rw [q2]; exact h6) q1 q3 (by rw [hsl]; exact k2_hasslot (q4 j hj)) rfl rfl d fun H' e1 e2 e3 => ?_
    rw [hsl] at e1 ⊢
    exact hgo H' e1 e2 e3
  | true =>
    rw [if_pos hfq] at hlay
    rcases hfin with hfin | ⟨hini, q2', hq2, hq3⟩
    · cases hfin
    obtain rfl : q2' = q' := Option.some.inj (hq2.symm.trans hc)
    have hcf : m.cls = cf := by
      obtain ⟨_, _, c', _, _, _, -, -, hf', -, -, -, hown3, -⟩ := Cond.laysFinal_spec hlay
      have e1 : c' = cf := by have := hi.symm.trans hf'; simp at this; exact this.1.symm
      rw [hown2, hq3] at hown3
      rw [← e1]; exact Option.some.inj (hown.symm.trans hown3)
    have h6 := u_fits hfc hkC hkind (Or.inr hlay) hi hd hn hft
    refine W.putFinK hx hb hown (hts _ hlink) hi hst hcf (hname.trans hini) (by rw [q2]; exact h6) q1 q3 (by rw [hsl]; exact k2_hasslot (q4 j hj)) rfl rfl d fun H' e1 e2 e3 => ?_
    rw [hsl] at e1 ⊢
    exact hgo H' e1 e2 e3
theorem fr_vl_ui {k r j : Nat} {x : Int32} {P : fr_P} (k' r' j' : Nat) (h : ¬ (k' = k ∧ r' = r ∧ j' = j)) : fr_vl X P (fr_ui I k r j x) J k' r' j' = fr_vl X P I J k' r' j' := fr_vl_eq (fr_ui_n h) rfl rfl
theorem fr_vl_uj {k r j : Nat} {x : Int64} {P : fr_P} (k' r' j' : Nat) (h : ¬ (k' = k ∧ r' = r ∧ j' = j)) : fr_vl X P I (fr_uj J k r j x) k' r' j' = fr_vl X P I J k' r' j' := fr_vl_eq rfl (fr_uj_n h) rfl
theorem fr_vl_up {k r j : Nat} {x : Option (Nat × Nat)} {P : fr_P} (k' r' j' : Nat) (h : ¬ (k' = k ∧ r' = r ∧ j' = j)) : fr_vl X (fr_up P k r j x) I J k' r' j' = fr_vl X P I J k' r' j' := fr_vl_eq rfl rfl (fr_up_n h)
theorem fr_puti {idx ci j k r : Nat} {x : Int32} (d : decode cc pc = .ok (.putfield idx, 3)) (hf : fr_fl own idx ci j .int false) (hk : fr_kd k = .inl ci) (hs : fr_so k j = 0) (hlv : Z.2.1 k r)
    (kk : fr_Ev X E own nm cc nL ret R Q cs sl Z (pc + 3) L st (fr_ui I k r j x) J) : fr_Ev X E own nm cc nL ret R Q cs sl Z pc L (.int x :: .ref (fr_ad X k r) :: st) I J :=
  fr_put (P1 := Z.1) (I1 := fr_ui I k r j x) (J1 := J) d hf (Or.inl rfl) hk hlv (fr_nar_i x) (fr_fits_i x) (by rw [fr_vl0 hs, fr_ui_s]) (fun k' r' j' h => fr_vl_ui k' r' j' h) kk
theorem fr_putz {idx ci j k r : Nat} {x : Int32} (d : decode cc pc = .ok (.putfield idx, 3)) (hf : fr_fl own idx ci j .boolean false) (hk : fr_kd k = .inl ci) (hs : fr_so k j = 0) (hx : x = 0 ∨ x = 1) (hlv : Z.2.1 k r)
    (kk : fr_Ev X E own nm cc nL ret R Q cs sl Z (pc + 3) L st (fr_ui I k r j x) J) : fr_Ev X E own nm cc nL ret R Q cs sl Z pc L (.int x :: .ref (fr_ad X k r) :: st) I J :=
  fr_put (P1 := Z.1) (I1 := fr_ui I k r j x) (J1 := J) d hf (Or.inl rfl) hk hlv (fr_nar_b hx) (fr_fits_b hx) (by rw [fr_vl0 hs, fr_ui_s]) (fun k' r' j' h => fr_vl_ui k' r' j' h) kk
theorem fr_putl {idx ci j k r : Nat} {x : Int64} (d : decode cc pc = .ok (.putfield idx, 3)) (hf : fr_fl own idx ci j .long false) (hk : fr_kd k = .inl ci) (hs : fr_so k j = 1) (hlv : Z.2.1 k r)
    (kk : fr_Ev X E own nm cc nL ret R Q cs sl Z (pc + 3) L st I (fr_uj J k r j x)) : fr_Ev X E own nm cc nL ret R Q cs sl Z pc L (.long x :: .ref (fr_ad X k r) :: st) I J :=
  fr_put (P1 := Z.1) (I1 := I) (J1 := fr_uj J k r j x) d hf (Or.inl rfl) hk hlv rfl rfl (by rw [fr_vl1 hs, fr_uj_s]) (fun k' r' j' h => fr_vl_uj k' r' j' h) kk
/-- in a constructor: an int or a boolean into a field that may be final -/
theorem fr_putFi {idx ci j k r : Nat} {x : Int32} {ty : FieldType} {fin : Bool} (q : vw_C) (d : decode cc pc = .ok (.putfield idx, 3)) (hf : fr_fl own idx ci j ty fin) (hnm : nm = "<init>") (hq : fr_cl[ci]? = some q) (hq1 : q.1 = own) (hk : fr_kd k = .inl ci) (hs : fr_so k j = 0) (hn : narrow ty (.int x) = .int x) (hft : fits ty (.int x) = true) (hlv : Z.2.1 k r)
    (kk : fr_Ev X E own nm cc nL ret R Q cs sl Z (pc + 3) L st (fr_ui I k r j x) J) : fr_Ev X E own nm cc nL ret R Q cs sl Z pc L (.int x :: .ref (fr_ad X k r) :: st) I J :=
  fr_put (P1 := Z.1) (I1 := fr_ui I k r j x) (J1 := J) d hf (Or.inr ⟨hnm, q, hq, hq1⟩) hk hlv hn hft (by rw [fr_vl0 hs, fr_ui_s]) (fun k' r' j' h => fr_vl_ui k' r' j' h) kk
/-- in a constructor: a reference into a field that may be final -/
theorem fr_putFr {idx ci j k r k' r' : Nat} {ty : FieldType} {fin : Bool} (q : vw_C) (d : decode cc pc = .ok (.putfield idx, 3)) (hf : fr_fl own idx ci j ty fin) (hnm : nm = "<init>") (hq : fr_cl[ci]? = some q) (hq1 : q.1 = own) (hk : fr_kd k = .inl ci) (hs : fr_so k j = 2) (hn : narrow ty (.ref (fr_ad X k' r')) = .ref (fr_ad X k' r')) (hft : fits ty (.ref (fr_ad X k' r')) = true) (hlv : Z.2.1 k r)
    (kk : fr_Ev X E own nm cc nL ret R Q cs sl (fr_up Z.1 k r j (some (k', r')), Z.2) (pc + 3) L st I J) : fr_Ev X E own nm cc nL ret R Q cs sl Z pc L (.ref (fr_ad X k' r') :: .ref (fr_ad X k r) :: st) I J :=
  fr_put (P1 := fr_up Z.1 k r j (some (k', r'))) (I1 := I) (J1 := J) d hf (Or.inr ⟨hnm, q, hq, hq1⟩) hk hlv hn hft (by rw [fr_vl2 hs, fr_up_s]; rfl) (fun k' r' j' h => fr_vl_up k' r' j' h) kk
-- arrays
theorem fr_iald {i : Int32} {k r N : Nat} (j : Nat) (d : decode cc pc = .ok (.iaload, 1)) (hk : fr_kd k = .inr (.int, N)) (hs : fr_so k j = 0) (hlv : Z.2.1 k r) (hi : i = nI j) (hj : j < N) (hN : N < 2 ^ 31)
    (kk : fr_Ev X E own nm cc nL ret R Q cs sl Z (pc + 1) L (.int (I k r j) :: st) I J) : fr_Ev X E own nm cc nL ret R Q cs sl Z pc L (.int i :: .ref (fr_ad X k r) :: st) I J := by
  subst hi
  intro C H locs ls hz hm hS hl
  obtain ⟨cA, a1, a2, a3⟩ := (fr_ce_a hk).mp (hm.1 k r hlv)
  refine W.iald (v := .int (I k r j)) C.1 C.2.1 a3 (a1 N _) (fun q => by cases q) (by rw [arrV_size]; exact vp_in_nI hj hN) (by rw [nI_clamp (Nat.lt_trans hj hN), arrV_read _ _ hj, fr_vl0 hs]) rfl rfl d (kk C H locs ls hz hm hS hl)
theorem fr_zald {i : Int32} {k r N : Nat} (j : Nat) (d : decode cc pc = .ok (.baload, 1)) (hk : fr_kd k = .inr (.boolean, N)) (hs : fr_so k j = 0) (hlv : Z.2.1 k r) (hi : i = nI j) (hj : j < N) (hN : N < 2 ^ 31)
    (kk : fr_Ev X E own nm cc nL ret R Q cs sl Z (pc + 1) L (.int (I k r j) :: st) I J) : fr_Ev X E own nm cc nL ret R Q cs sl Z pc L (.int i :: .ref (fr_ad X k r) :: st) I J := by
  subst hi
  intro C H locs ls hz hm hS hl
  obtain ⟨cA, a1, a2, a3⟩ := (fr_ce_a hk).mp (hm.1 k r hlv)
  refine W.zald (v := .int (I k r j)) C.1 C.2.1 a3 (a1 N _) (fun q => by cases q) (by rw [arrV_size]; exact vp_in_nI hj hN) (by rw [nI_clamp (Nat.lt_trans hj hN), arrV_read _ _ hj, fr_vl0 hs]) rfl rfl d (kk C H locs ls hz hm hS hl)
theorem fr_lald {i : Int32} {k r N : Nat} (j : Nat) (d : decode cc pc = .ok (.laload, 1)) (hk : fr_kd k = .inr (.long, N)) (hs : fr_so k j = 1) (hlv : Z.2.1 k r) (hi : i = nI j) (hj : j < N) (hN : N < 2 ^ 31)
    (kk : fr_Ev X E own nm cc nL ret R Q cs sl Z (pc + 1) L (.long (J k r j) :: st) I J) : fr_Ev X E own nm cc nL ret R Q cs sl Z pc L (.int i :: .ref (fr_ad X k r) :: st) I J := by
  subst hi
  intro C H locs ls hz hm hS hl
  obtain ⟨cA, a1, a2, a3⟩ := (fr_ce_a hk).mp (hm.1 k r hlv)
  refine W.lald (v := .long (J k r j)) C.1 C.2.1 a3 (a1 N _) (fun q => by cases q) (by rw [arrV_size]; exact vp_in_nI hj hN) (by rw [nI_clamp (Nat.lt_trans hj hN), arrV_read _ _ hj, fr_vl1 hs]) rfl rfl d (kk C H locs ls hz hm hS hl)
theorem fr_aald {i : Int32} {k r N k' r' : Nat} {CN : String} (j : Nat) (d : decode cc pc = .ok (.aaload, 1)) (hk : fr_kd k = .inr (.object CN, N)) (hs : fr_so k j = 2) (hp : Z.1 k r j = some (k', r')) (hlv : Z.2.1 k r) (hi : i = nI j) (hj : j < N) (hN : N < 2 ^ 31)
    (kk : fr_Ev X E own nm cc nL ret R Q cs sl Z (pc + 1) L (.ref (fr_ad X k' r') :: st) I J) : fr_Ev X E own nm cc nL ret R Q cs sl Z pc L (.int i :: .ref (fr_ad X k r) :: st) I J := by
  subst hi
  intro C H locs ls hz hm hS hl
  obtain ⟨cA, a1, a2, a3⟩ := (fr_ce_a hk).mp (hm.1 k r hlv)
  refine W.aald (v := .ref (fr_ad X k' r')) (ty := .object CN) C.1 C.2.1 a3 (a1 N _) rfl (fun q => by cases q) (by rw [arrV_size]; exact vp_in_nI hj hN) (by rw [nI_clamp (Nat.lt_trans hj hN), arrV_read _ _ hj, fr_vl2 hs, hp]; rfl) rfl rfl d (kk C H locs ls hz hm hS hl)
theorem fr_alen {k r N : Nat} {ty : FieldType} {v : Int32} (d : decode cc pc = .ok (.arraylength, 1)) (hk : fr_kd k = .inr (ty, N)) (hlv : Z.2.1 k r) (hv : Int32.ofNat N = v)
    (kk : fr_Ev X E own nm cc nL ret R Q cs sl Z (pc + 1) L (.int v :: st) I J) : fr_Ev X E own nm cc nL ret R Q cs sl Z pc L (.ref (fr_ad X k r) :: st) I J := by
  subst hv
  intro C H locs ls hz hm hS hl
  obtain ⟨cA, a1, a2, a3⟩ := (fr_ce_a hk).mp (hm.1 k r hlv)
  exact W.alen (n := Int32.ofNat N) C.1 C.2.1 a3 (a1 N _) (by rw [arrV_size] <;> rfl) rfl rfl d (kk C H locs ls hz hm hS hl)
theorem fr_iast {i x : Int32} {k r N : Nat} (j : Nat) (d : decode cc pc = .ok (.iastore, 1)) (hk : fr_kd k = .inr (.int, N)) (hs : fr_so k j = 0) (hlv : Z.2.1 k r) (hi : i = nI j) (hj : j < N) (hN : N < 2 ^ 31)
    (kk : fr_Ev X E own nm cc nL ret R Q cs sl Z (pc + 1) L st (fr_ui I k r j x) J) : fr_Ev X E own nm cc nL ret R Q cs sl Z pc L (.int x :: .int i :: .ref (fr_ad X k r) :: st) I J := by
  subst hi
  intro C H locs ls hz hm hS hl
  obtain ⟨cA, a1, a2, a3⟩ := (fr_ce_a hk).mp (hm.1 k r hlv)
  refine W.iast C.1 C.2.1 a3 (a1 N _) (fun q => by cases q) (by rw [arrV_size]; exact vp_in_nI hj hN) rfl rfl d fun H' e1 e2 e3 => ?_
  rw [nI_clamp (Nat.lt_trans hj hN)] at e1 ⊢
  refine kk C H' _ ls (e2.trans hz) (hm.set (P1 := Z.1) (I1 := fr_ui I k r j x) (J1 := J) hlv ((fr_ce_a hk).mpr ⟨cA, a1, a2, ?_⟩) e3 (fun k' r' j' h => fr_vl_ui k' r' j' (fun z => h ⟨z.1, z.2.1⟩))) (hS.put e2 e3 (hm.2.2 k r hlv)) hl
  rw [e1, arrV_store]
  congr 2
  funext j'
  by_cases hq : j' = j
  · subst hq
    rw [fr_vl0 hs, fr_ui_s]
    simp [updV]
  · rw [fr_vl_ui k r j' (fun z => hq z.2.2)]
    simp [updV, hq]
theorem fr_zast {i x : Int32} {k r N : Nat} (j : Nat) (d : decode cc pc = .ok (.bastore, 1)) (hk : fr_kd k = .inr (.boolean, N)) (hs : fr_so k j = 0) (hx : x = 0 ∨ x = 1) (hlv : Z.2.1 k r) (hi : i = nI j) (hj : j < N) (hN : N < 2 ^ 31)
    (kk : fr_Ev X E own nm cc nL ret R Q cs sl Z (pc + 1) L st (fr_ui I k r j x) J) : fr_Ev X E own nm cc nL ret R Q cs sl Z pc L (.int x :: .int i :: .ref (fr_ad X k r) :: st) I J := by
  subst hi
  intro C H locs ls hz hm hS hl
  obtain ⟨cA, a1, a2, a3⟩ := (fr_ce_a hk).mp (hm.1 k r hlv)
  refine W.zast C.1 C.2.1 a3 (a1 N _) (fun q => by cases q) (by rw [arrV_size]; exact vp_in_nI hj hN) rfl rfl d fun H' e1 e2 e3 => ?_
  rw [nI_clamp (Nat.lt_trans hj hN)] at e1 ⊢
  rw [fr_nar_b hx] at e1
  refine kk C H' _ ls (e2.trans hz) (hm.set (P1 := Z.1) (I1 := fr_ui I k r j x) (J1 := J) hlv ((fr_ce_a hk).mpr ⟨cA, a1, a2, ?_⟩) e3 (fun k' r' j' h => fr_vl_ui k' r' j' (fun z => h ⟨z.1, z.2.1⟩))) (hS.put e2 e3 (hm.2.2 k r hlv)) hl
  rw [e1, arrV_store]
  congr 2
  funext j'
  by_cases hq : j' = j
  · subst hq
    rw [fr_vl0 hs, fr_ui_s]
    simp [updV]
  · rw [fr_vl_ui k r j' (fun z => hq z.2.2)]
    simp [updV, hq]
theorem fr_last {i : Int32} {x : Int64} {k r N : Nat} (j : Nat) (d : decode cc pc = .ok (.lastore, 1)) (hk : fr_kd k = .inr (.long, N)) (hs : fr_so k j = 1) (hlv : Z.2.1 k r) (hi : i = nI j) (hj : j < N) (hN : N < 2 ^ 31)
    (kk : fr_Ev X E own nm cc nL ret R Q cs sl Z (pc + 1) L st I (fr_uj J k r j x)) : fr_Ev X E own nm cc nL ret R Q cs sl Z pc L (.long x :: .int i :: .ref (fr_ad X k r) :: st) I J := by
  subst hi
  intro C H locs ls hz hm hS hl
  obtain ⟨cA, a1, a2, a3⟩ := (fr_ce_a hk).mp (hm.1 k r hlv)
  refine W.last C.1 C.2.1 a3 (a1 N _) (fun q => by cases q) (by rw [arrV_size]; exact vp_in_nI hj hN) rfl rfl d fun H' e1 e2 e3 => ?_
  rw [nI_clamp (Nat.lt_trans hj hN)] at e1 ⊢
  refine kk C H' _ ls (e2.trans hz) (hm.set (P1 := Z.1) (I1 := I) (J1 := fr_uj J k r j x) hlv ((fr_ce_a hk).mpr ⟨cA, a1, a2, ?_⟩) e3 (fun k' r' j' h => fr_vl_uj k' r' j' (fun z => h ⟨z.1, z.2.1⟩))) (hS.put e2 e3 (hm.2.2 k r hlv)) hl
  rw [e1, arrV_store]
  congr 2
  funext j'
  by_cases hq : j' = j
  · subst hq
    rw [fr_vl1 hs, fr_uj_s]
    simp [updV]
  · rw [fr_vl_uj k r j' (fun z => hq z.2.2)]
    simp [updV, hq]
/-- a reference to an object into an array of its class -/
theorem fr_aast {i : Int32} {k r N k' r' ci : Nat} (q : vw_C) (j : Nat) (d : decode cc pc = .ok (.aastore, 1)) (hk : fr_kd k = .inr (.object q.1, N)) (hs : fr_so k j = 2) (hk' : fr_kd k' = .inl ci) (hq : fr_cl[ci]? = some q) (hlv : Z.2.1 k r) (hlv' : Z.2.1 k' r') (hi : i = nI j) (hj : j < N) (hN : N < 2 ^ 31)
    (kk : fr_Ev X E own nm cc nL ret R Q cs sl (fr_up Z.1 k r j (some (k', r')), Z.2) (pc + 1) L st I J) : fr_Ev X E own nm cc nL ret R Q cs sl Z pc L (.ref (fr_ad X k' r') :: .int i :: .ref (fr_ad X k r) :: st) I J := by
  subst hi
  obtain ⟨p, e, s, m, args, below, meth, c⟩ := E
  intro C H locs ls hz hm hS hl
  obtain ⟨cA, a1, a2, a3⟩ := (fr_ce_a hk).mp (hm.1 k r hlv)
  obtain ⟨qq, hqq, cellV, g1, g2, g3, -⟩ := (fr_ce_o hk').mp (hm.1 k' r' hlv')
  have C' := C
  obtain ⟨hx, hb, hml, hown, hts, hK, -⟩ := C'
  have hcls := (hK.1 ci q hq).2
  obtain ⟨kA, comp, k1, k2, k3, k4⟩ := a2
  have hcomp : comp = X.2.1.1 ci := Option.some.inj (k3.symm.trans hcls.1)
  subst hcomp
  have hcls2 := hcls
  obtain ⟨-, kC, hkC, -⟩ := hcls2
  have hin := vp_in_nI hj hN
  have hcl := nI_clamp (Nat.lt_trans hj hN)
  refine W.aast hx hb a3 (fun q h => by cases h) (fun h => by cases h) k1 k2 rfl hkC ⟨fun q => hin (Or.inl q), by rw [arrV_size, hcl]; exact hj⟩ g1 (fun q h => by rw [g3] at h; cases h) (by rw [g2]; exact hkC) (by rw [g2]; exact va_assign hcls) rfl rfl d fun H' e1 e2 e3 => ?_
  rw [hcl] at e1 ⊢
  refine kk C H' _ ls (e2.trans hz) (hm.set (P1 := fr_up Z.1 k r j (some (k', r'))) (I1 := I) (J1 := J) hlv ((fr_ce_a hk).mpr ⟨cA, a1, ⟨kA, _, k1, k2, k3, k4⟩, ?_⟩) e3 (fun k' r' j' h => fr_vl_up k' r' j' (fun z => h ⟨z.1, z.2.1⟩))) (hS.put e2 e3 (hm.2.2 k r hlv)) hl
  rw [e1, arrV_store]
  congr 2
  funext j'
  by_cases hq : j' = j
  · subst hq
    rw [fr_vl2 hs, fr_up_s]
    simp [updV, va_rf]
  · rw [fr_vl_up k r j' (fun z => hq z.2.2)]
    simp [updV, hq]
end FRmem
end
section
-- contracts: what goes in, what comes out
def fr_Qc (X : fr_X) (Z' : fr_Z) (post : Option Value → fr_I → fr_J → Prop) : Array Value → State → Outcome → State → Prop := fun _ st oc t =>
  ∃ (v : Option Value) (I' : fr_I) (J' : fr_J), oc = .returned v ∧ post v I' J' ∧ t.heap.size = Z'.2.2 ∧ fr_ok X Z' I' J' t t.heap ∧ va_F (fun q => X.2.2.2 ≤ q) st t
def fr_Pr (X : fr_X) (Z : fr_Z) (I : fr_I) (J : fr_J) (U : State) : Prop := U.heap.size = Z.2.2 ∧ fr_ok X Z I J U U.heap ∧ va_K X.2.1 fr_cl [] U ∧ ((∀ q ∈ fr_nw, va_Nw (.methodLinkNest q.1 q.2.1 q.2.2.1 q.2.2.2) U) ∧ va_AO fr_aC U) ∧ X.2.2.2 ≤ U.heap.size
def fr_Ct (X : fr_X) (y : MethodName) (b : ByteArray) (nL : Nat) (ret : Option FieldType) (R : Room) (av : List Value) (Z Z' : fr_Z) (I : fr_I) (J : fr_J) (post : Option Value → fr_I → fr_J → Prop) : Prop :=
  Met X.1 y (Cond.code y b nL ret :: fr_ws) R (va_Pc av (fr_Pr X Z I J)) (fr_Qc X Z' post) R.cells R.slots (fun q => X.2.2.2 ≤ q)
def fr_pi (q : Int32 → fr_I → fr_J → Prop) : Option Value → fr_I → fr_J → Prop := fun v I J => ∃ x : Int32, v = some (.int x) ∧ q x I J
def fr_pl (q : Int64 → fr_I → fr_J → Prop) : Option Value → fr_I → fr_J → Prop := fun v I J => ∃ x : Int64, v = some (.long x) ∧ q x I J
def fr_pv (q : fr_I → fr_J → Prop) : Option Value → fr_I → fr_J → Prop := fun v I J => v = none ∧ q I J
/-- a method's end as W has it -/
def fr_Q (X : fr_X) (E : fr_E) (Z' : fr_Z) (post : Option Value → fr_I → fr_J → Prop) (R : Room) : State → Prop := MQ E.2.2.2.2.2.1 (fr_Qc X Z' post) E.2.2.2.2.1 E.2.2.1 R.cells R.slots (fun q => X.2.2.2 ≤ q)
theorem fr_ct {X : fr_X} {y : MethodName} {b : ByteArray} {nL : Nat} {ret : Option FieldType} {R : Room} {av : List Value} {Z Z' : fr_Z} {I : fr_I} {J : fr_J} {post : Option Value → fr_I → fr_J → Prop} {own nm : String} {L : List (Nat × Value)} (hy : plainName y.cls = true) (ho : y.cls = own) (hn : y.name = nm) (ha : (lg_sl av).length ≤ nL) (hL : lv_args 0 av = L)
    (h : ∀ E, fr_Ev X E own nm b nL ret R (fr_Q X E Z' post R) 0 0 Z 0 L [] I J) : fr_Ct X y b nL ret R av Z Z' I J post := by
  subst ho hn hL
  refine Met.ofW (cc := b) (maxL := nL) (ret := ret) hy rfl ?_
  intro p e s m args below meth c s₁ B hml hv
  obtain ⟨rfl, hsz, hok, hK, hN, hbase⟩ := hv
  have hts := atoms_spec (ws := Cond.code y b nL ret :: fr_ws) B.pre
  rw [lg_entry_eq]
  exact h (p, e, s, m, av.toArray, below, meth, c) ⟨B.exec, B.bytes, hml, findClass_of_methodNamed B.named, fun w hw => hts w (List.mem_cons_of_mem _ hw), hK, hN, B.returns, B.notSynchronized, (name_of_methodNamed B.named B.method).1, hbase⟩ s.heap [] _ hsz hok va_S.rf (lv_entry av ha)
section FRcalls
variable {X : fr_X} {E : fr_E} {own nm : String} {cc : ByteArray} {nL : Nat} {ret : Option FieldType} {R : Room} {Q : State → Prop} {cs sl : Nat} {Z Z' : fr_Z} {pc : Nat} {L : List (Nat × Value)} {st st0 : List Value} {I : fr_I} {J : fr_J} {post : Option Value → fr_I → fr_J → Prop}
-- returns
theorem fr_vret {q : fr_I → fr_J → Prop} (d : decode cc pc = .ok (.return_, 1)) (hr : ret = none) (hc : cs ≤ R.cells) (hsl : sl ≤ R.slots) (hp : q I J) : fr_Ev X E own nm cc nL ret R (fr_Q X E Z (fr_pv q) R) cs sl Z pc L [] I J := by
  intro C H locs ls hz hm hS hl
  refine W.widen hc hsl ?_
  exact W.vret C.1 C.2.1 (C.2.2.2.2.2.2.2.1.trans hr) (fun t ht hW => ⟨none, I, J, rfl, ⟨rfl, hp⟩, by rw [ht]; exact hz, by rw [ht]; exact hm.moved hW.alike, hS.F ht⟩) hS.2.2 d C.2.2.2.2.2.2.2.2.1
theorem fr_iret {q : Int32 → fr_I → fr_J → Prop} {x : Int32} {ty : FieldType} (d : decode cc pc = .ok (.ireturn, 1)) (hr : ret = some ty) (hn : narrow ty (.int x) = .int x) (hc : cs ≤ R.cells) (hsl : sl ≤ R.slots) (hp : q x I J) : fr_Ev X E own nm cc nL ret R (fr_Q X E Z (fr_pi q) R) cs sl Z pc L [.int x] I J := by
  intro C H locs ls hz hm hS hl
  refine W.widen hc hsl ?_
  exact W.zret C.1 C.2.1 (C.2.2.2.2.2.2.2.1.trans hr) hn (fun t ht hW => ⟨some (.int x), I, J, rfl, ⟨x, rfl, hp⟩, by rw [ht]; exact hz, by rw [ht]; exact hm.moved hW.alike, hS.F ht⟩) hS.2.2 d C.2.2.2.2.2.2.2.2.1
theorem fr_lret {q : Int64 → fr_I → fr_J → Prop} {x : Int64} (d : decode cc pc = .ok (.lreturn, 1)) (hr : ret = some .long) (hc : cs ≤ R.cells) (hsl : sl ≤ R.slots) (hp : q x I J) : fr_Ev X E own nm cc nL ret R (fr_Q X E Z (fr_pl q) R) cs sl Z pc L [.long x] I J := by
  intro C H locs ls hz hm hS hl
  refine W.widen hc hsl ?_
  exact W.lret C.1 C.2.1 (C.2.2.2.2.2.2.2.1.trans hr) (fun t ht hW => ⟨some (.long x), I, J, rfl, ⟨x, rfl, hp⟩, by rw [ht]; exact hz, by rw [ht]; exact hm.moved hW.alike, hS.F ht⟩) hS.2.2 d C.2.2.2.2.2.2.2.2.1
-- calls
theorem fr_blind {X : fr_X} {av : List Value} {Z : fr_Z} {I : fr_I} {J : fr_J} : FrameBlind (va_Pc av (fr_Pr X Z I J)) := by
  intro a U g mk q
  obtain ⟨q0, q1, q2, q3, q4, q5⟩ := q
  exact ⟨q0, q1, fr_ok.moved (U := U) (V := U.calling g mk a) (Vm.Alike.refl U.vm) q2, va_K.moved (u := U) (U := U.calling g mk a) (Vm.Alike.refl U.vm) q3, ⟨fun w hw => va_Nw.same (u := U) (U := U.calling g mk a) rfl rfl (q4.1 w hw), va_AO.moved (u := U) (U := U.calling g mk a) (Vm.Alike.refl U.vm) q4.2⟩, q5⟩
theorem fr_pre {H : Heap} {locs : List Loc} (C : fr_Cx X E own nm cc nL ret) (hz : H.size = Z.2.2) (hm : fr_ok X Z I J E.2.2.1 H) (hS : va_S (fun q => X.2.2.2 ≤ q) E.2.2.1.heap H locs) (U : State) (hU : U.heap = H) (hW : E.2.2.1.WarmedH U.vm) : fr_Pr X Z I J U := by
  obtain ⟨-, -, -, -, -, hK, hN, -, -, -, hb⟩ := C
  exact ⟨by rw [hU]; exact hz, by rw [hU]; exact hm.moved hW.alike, va_K.moved hW.alike hK, ⟨fun q hq => va_Nw.warmM hW (hN.1 q hq), va_AO.moved hW.alike hN.2⟩, by rw [hU]; exact Nat.le_trans hb hS.1⟩
theorem fr_goodc {y : MethodName} {b : ByteArray} {n : Nat} {rt : Option FieldType} (h : Cond.code y b n rt ∈ fr_ws) : GoodIn fr_ws (Cond.code y b n rt :: fr_ws) := by
  intro w hw
  rcases List.mem_cons.mp hw with rfl | hw
  · exact ⟨h, Or.inl rfl⟩
  · exact ⟨hw, fr_good w hw⟩
theorem fr_back {H : Heap} {locs : List Loc} {ls : Array Slot} {mc ms : Nat} {a : Array Value} (kk : ∀ v I' J', post v I' J' → fr_Ev X E own nm cc nL ret R Q (cs + mc) (sl + ms) Z' (pc + 3) L (v.toList ++ st) I' J') (C : fr_Cx X E own nm cc nL ret) (hS : va_S (fun q => X.2.2.2 ≤ q) E.2.2.1.heap H locs) (hl : lv_has ls nL L)
    (run : va_Run E.1 X.1 E.2.1 R E.2.2.1 E.2.2.2.1 E.2.2.2.2.1 E.2.2.2.2.2.1 E.2.2.2.2.2.2.1 E.2.2.2.2.2.2.2 H locs cs sl mc ms (F0 E.2.2.2.1 pc ls st0) st (fr_Qc X Z' post a) (fun q => X.2.2.2 ≤ q)) :
    W E.1 X.1 E.2.1 R E.2.2.1 E.2.2.2.1 E.2.2.2.2.1 E.2.2.2.2.2.1 E.2.2.2.2.2.2.1 E.2.2.2.2.2.2.2 H locs cs sl Q (F0 E.2.2.2.1 pc ls st0) := by
  intro T hT X0
  obtain ⟨v, st₀, t, T', L', h0, X', hL, e1, e2, ⟨v', I', J', hv, hp, hz', hok, hF⟩, stp⟩ := run T hT X0
  cases hv
  unfold va_F at hF
  rw [h0] at hF
  have hal : E.2.2.1.vm.Alike t.vm := by rw [← e2]; exact X'.warmed.alike
  obtain ⟨t2, a1, b1⟩ := kk v I' J' hp C T'.heap (locs ++ L') ls (by rw [e1]; exact hz') (by rw [e1]; exact hok.moved hal.symm)
    ⟨Nat.le_trans hS.1 (by rw [e1]; exact hF.1), fun q h1 h2 => by rw [e1, hF.2 q (Nat.lt_of_lt_of_le h1 hS.1) h2]; exact hS.2.1 q h1 h2, fun q hq => by
      rcases List.mem_append.mp hq with h | h
      · exact hS.2.2 q h
      · exact hL q h⟩ hl T' rfl X'
  exact ⟨t2, stp t2 a1, b1⟩
theorem fr_callV0 {idx n n' k r ci : Nat} {y : MethodName} {b : ByteArray} {rt : Option FieldType} {R' : Room} {As : List Value} (qc : vw_C) (d : decode cc pc = .ok (.invokevirtual idx, 3)) (hM : fr_Ct X y b n' rt R' (.ref (fr_ad X k r) :: As) Z Z' I J post) (hw : fr_mv own idx y b n' rt n) (hk : fr_kd k = .inl ci) (hq : fr_cl[ci]? = some qc) (hq1 : qc.1 = y.cls) (hlv : Z.2.1 k r) (hn : As.length = n)
    (hst : st0 = As.reverse ++ .ref (fr_ad X k r) :: st) (hR : R'.frames + 1 ≤ R.frames ∧ 8 + (n' + 11) + R'.locals ≤ R.locals) (hc : cs + R'.cells ≤ R.cells ∧ sl + R'.slots ≤ R.slots) (hrm : (st.map fun v => v.category).sum ≤ 8)
    (kk : ∀ v I' J', post v I' J' → fr_Ev X E own nm cc nL ret R Q (cs + R'.cells) (sl + R'.slots) Z' (pc + 3) L (v.toList ++ st) I' J') : fr_Ev X E own nm cc nL ret R Q cs sl Z pc L st0 I J := by
  intro C H locs ls hz hm hS hl
  obtain ⟨⟨w1, w2, w3, w4, w5, w6⟩, w7, w8⟩ := hw
  have hts := C.2.2.2.2.1
  obtain ⟨q', hq', cell, q1, q2, q3, -⟩ := (fr_ce_o hk).mp (hm.1 k r hlv)
  refine fr_back kk C hS hl (va_runV (C := y.cls) (b := fr_ad X k r) (As := As) (n := n) (bytes := b) (maxL := n') (ret := rt) (Ts := fr_ws) (nL := nL) (cc := cc) (own := own) ⟨C.1, C.2.1, C.2.2.1, C.2.2.2.1, hts⟩ hM
    ⟨callB_of n hts (fr_goodc w3) rfl rfl rfl (hts _ w2) (hts _ w1) ⟨w4, w5, w6⟩ hR, hts _ w7, hts _ w8⟩
    ⟨fr_blind, ⟨cell, q1, by rw [q3]; rfl, by rw [q2, ← hq1]; exact (C.2.2.2.2.2.1.1 ci qc hq).2.1⟩, fun U hU hW => ⟨rfl, fr_pre C hz hm hS U hU hW⟩⟩ rfl hn hl.1 hst (lv_room hrm) d hc)
theorem fr_callS0 {idx n n' : Nat} {y : MethodName} {b : ByteArray} {rt : Option FieldType} {R' : Room} {As : List Value} (d : decode cc pc = .ok (.invokestatic idx, 3)) (hM : fr_Ct X y b n' rt R' As Z Z' I J post) (hw : fr_ms own idx y b n' rt n) (hn : As.length = n)
    (hst : st0 = As.reverse ++ st) (hR : R'.frames + 1 ≤ R.frames ∧ 8 + (n' + 11) + R'.locals ≤ R.locals) (hc : cs + R'.cells ≤ R.cells ∧ sl + R'.slots ≤ R.slots) (hrm : (st.map fun v => v.category).sum ≤ 8)
    (kk : ∀ v I' J', post v I' J' → fr_Ev X E own nm cc nL ret R Q (cs + R'.cells) (sl + R'.slots) Z' (pc + 3) L (v.toList ++ st) I' J') : fr_Ev X E own nm cc nL ret R Q cs sl Z pc L st0 I J := by
  intro C H locs ls hz hm hS hl
  obtain ⟨⟨w1, w2, w3, w4, w5, w6⟩, w7⟩ := hw
  have hts := C.2.2.2.2.1
  refine fr_back kk C hS hl (va_runS (As := As) (n := n) (bytes := b) (maxL := n') (ret := rt) (Ts := fr_ws) (nL := nL) (cc := cc) (own := own) ⟨C.1, C.2.1, C.2.2.1, C.2.2.2.1, hts⟩ hM
    ⟨callB_of n hts (fr_goodc w3) rfl rfl rfl (hts _ w2) (hts _ w1) ⟨w4, w5, w6⟩ hR, hts _ w7⟩
    ⟨fr_blind, fun U hU hW => ⟨rfl, fr_pre C hz hm hS U hU hW⟩⟩ rfl hn hl.1 hst (lv_room hrm) d hc)
theorem fr_callI0 {idx n n' k r : Nat} {y : MethodName} {b : ByteArray} {R' : Room} {As : List Value} (d : decode cc pc = .ok (.invokespecial idx, 3)) (hM : fr_Ct X y b n' none R' (.ref (fr_ad X k r) :: As) Z Z' I J post) (hw : fr_mi own idx y b n' n) (hn : As.length = n)
    (hst : st0 = As.reverse ++ .ref (fr_ad X k r) :: st) (hR : R'.frames + 1 ≤ R.frames ∧ 8 + (n' + 11) + R'.locals ≤ R.locals) (hc : cs + R'.cells ≤ R.cells ∧ sl + R'.slots ≤ R.slots) (hrm : (st.map fun v => v.category).sum ≤ 8)
    (kk : ∀ v I' J', post v I' J' → fr_Ev X E own nm cc nL ret R Q (cs + R'.cells) (sl + R'.slots) Z' (pc + 3) L (v.toList ++ st) I' J') : fr_Ev X E own nm cc nL ret R Q cs sl Z pc L st0 I J := by
  intro C H locs ls hz hm hS hl
  obtain ⟨⟨w1, w2, w3, w4, w5, w6⟩, w7, w8⟩ := hw
  have hts := C.2.2.2.2.1
  refine fr_back kk C hS hl (va_runI (b := fr_ad X k r) (As := As) (n := n) (bytes := b) (maxL := n') (Ts := fr_ws) (nL := nL) (cc := cc) (own := own) ⟨C.1, C.2.1, C.2.2.1, C.2.2.2.1, hts⟩ hM
    ⟨callB_of n hts (fr_goodc w3) rfl rfl rfl (hts _ w2) (hts _ w1) ⟨w4, w5, w6⟩ hR, w8, hts _ w7⟩
    ⟨fr_blind, fun U hU hW => ⟨rfl, fr_pre C hz hm hS U hU hW⟩⟩ rfl hn hl.1 hst (lv_room hrm) d hc)
theorem fr_callN0 {idx n n' k r : Nat} {y : MethodName} {host : String} {b : ByteArray} {R' : Room} {As : List Value} (d : decode cc pc = .ok (.invokespecial idx, 3)) (hM : fr_Ct X y b n' none R' (.ref (fr_ad X k r) :: As) Z Z' I J post) (hw : fr_mn own idx y host b n' n) (hn : As.length = n)
    (hst : st0 = As.reverse ++ .ref (fr_ad X k r) :: st) (hR : R'.frames + 1 ≤ R.frames ∧ 8 + (n' + 11) + R'.locals ≤ R.locals) (hc : cs + R'.cells ≤ R.cells ∧ sl + R'.slots ≤ R.slots) (hrm : (st.map fun v => v.category).sum ≤ 8)
    (kk : ∀ v I' J', post v I' J' → fr_Ev X E own nm cc nL ret R Q (cs + R'.cells) (sl + R'.slots) Z' (pc + 3) L (v.toList ++ st) I' J') : fr_Ev X E own nm cc nL ret R Q cs sl Z pc L st0 I J := by
  intro C H locs ls hz hm hS hl
  obtain ⟨w1, w2, w3, w4, w7, w8⟩ := hw
  have hts := C.2.2.2.2.1
  refine fr_back kk C hS hl (va_runIN (host := host) (b := fr_ad X k r) (As := As) (n := n) (bytes := b) (maxL := n') (Ts := fr_ws) (nL := nL) (cc := cc) (own := own) ⟨C.1, C.2.1, C.2.2.1, C.2.2.2.1, hts⟩ hM
    ⟨va_cnB n hts (fr_goodc w3) rfl rfl rfl (C.2.2.2.2.2.2.1.1 _ w1) (hts _ w2) w4 hR, w8, hts _ w7⟩
    ⟨fr_blind, fun U hU hW => ⟨rfl, fr_pre C hz hm hS U hU hW⟩⟩ rfl hn hl.1 hst (lv_room hrm) d hc)
-- the same by what the callee answers, for callees that make nothing
theorem fr_callVi {idx n n' k r ci : Nat} {y : MethodName} {b : ByteArray} {rt : Option FieldType} {R' : Room} {As : List Value} {q : Int32 → fr_I → fr_J → Prop} (qc : vw_C) (d : decode cc pc = .ok (.invokevirtual idx, 3)) (hM : fr_Ct X y b n' rt R' (.ref (fr_ad X k r) :: As) Z Z I J (fr_pi q)) (hw : fr_mv own idx y b n' rt n) (hk : fr_kd k = .inl ci) (hq : fr_cl[ci]? = some qc) (hq1 : qc.1 = y.cls) (hlv : Z.2.1 k r) (hn : As.length = n)
    (hst : st0 = As.reverse ++ .ref (fr_ad X k r) :: st) (hR : R'.frames + 1 ≤ R.frames ∧ 8 + (n' + 11) + R'.locals ≤ R.locals) (h0 : R'.cells = 0 ∧ R'.slots = 0) (hc : cs ≤ R.cells ∧ sl ≤ R.slots) (hrm : (st.map fun v => v.category).sum ≤ 8)
    (kk : ∀ x I' J', q x I' J' → fr_Ev X E own nm cc nL ret R Q cs sl Z (pc + 3) L (.int x :: st) I' J') : fr_Ev X E own nm cc nL ret R Q cs sl Z pc L st0 I J :=
  fr_callV0 qc d hM hw hk hq hq1 hlv hn hst hR (by rw [h0.1, h0.2]; exact hc) hrm (fun v I' J' hp => by obtain ⟨x, rfl, hx⟩ := hp; rw [h0.1, h0.2]; exact kk x I' J' hx)
theorem fr_callVl {idx n n' k r ci : Nat} {y : MethodName} {b : ByteArray} {rt : Option FieldType} {R' : Room} {As : List Value} {q : Int64 → fr_I → fr_J → Prop} (qc : vw_C) (d : decode cc pc = .ok (.invokevirtual idx, 3)) (hM : fr_Ct X y b n' rt R' (.ref (fr_ad X k r) :: As) Z Z I J (fr_pl q)) (hw : fr_mv own idx y b n' rt n) (hk : fr_kd k = .inl ci) (hq : fr_cl[ci]? = some qc) (hq1 : qc.1 = y.cls) (hlv : Z.2.1 k r) (hn : As.length = n)
    (hst : st0 = As.reverse ++ .ref (fr_ad X k r) :: st) (hR : R'.frames + 1 ≤ R.frames ∧ 8 + (n' + 11) + R'.locals ≤ R.locals) (h0 : R'.cells = 0 ∧ R'.slots = 0) (hc : cs ≤ R.cells ∧ sl ≤ R.slots) (hrm : (st.map fun v => v.category).sum ≤ 8)
    (kk : ∀ x I' J', q x I' J' → fr_Ev X E own nm cc nL ret R Q cs sl Z (pc + 3) L (.long x :: st) I' J') : fr_Ev X E own nm cc nL ret R Q cs sl Z pc L st0 I J :=
  fr_callV0 qc d hM hw hk hq hq1 hlv hn hst hR (by rw [h0.1, h0.2]; exact hc) hrm (fun v I' J' hp => by obtain ⟨x, rfl, hx⟩ := hp; rw [h0.1, h0.2]; exact kk x I' J' hx)
theorem fr_callVv {idx n n' k r ci : Nat} {y : MethodName} {b : ByteArray} {rt : Option FieldType} {R' : Room} {As : List Value} {q : fr_I → fr_J → Prop} (qc : vw_C) (d : decode cc pc = .ok (.invokevirtual idx, 3)) (hM : fr_Ct X y b n' rt R' (.ref (fr_ad X k r) :: As) Z Z I J (fr_pv q)) (hw : fr_mv own idx y b n' rt n) (hk : fr_kd k = .inl ci) (hq : fr_cl[ci]? = some qc) (hq1 : qc.1 = y.cls) (hlv : Z.2.1 k r) (hn : As.length = n)
    (hst : st0 = As.reverse ++ .ref (fr_ad X k r) :: st) (hR : R'.frames + 1 ≤ R.frames ∧ 8 + (n' + 11) + R'.locals ≤ R.locals) (h0 : R'.cells = 0 ∧ R'.slots = 0) (hc : cs ≤ R.cells ∧ sl ≤ R.slots) (hrm : (st.map fun v => v.category).sum ≤ 8)
    (kk : ∀ I' J', q I' J' → fr_Ev X E own nm cc nL ret R Q cs sl Z (pc + 3) L st I' J') : fr_Ev X E own nm cc nL ret R Q cs sl Z pc L st0 I J :=
  fr_callV0 qc d hM hw hk hq hq1 hlv hn hst hR (by rw [h0.1, h0.2]; exact hc) hrm (fun v I' J' hp => by obtain ⟨rfl, hx⟩ := hp; rw [h0.1, h0.2]; exact kk I' J' hx)
theorem fr_callSi {idx n n' : Nat} {y : MethodName} {b : ByteArray} {rt : Option FieldType} {R' : Room} {As : List Value} {q : Int32 → fr_I → fr_J → Prop} (d : decode cc pc = .ok (.invokestatic idx, 3)) (hM : fr_Ct X y b n' rt R' As Z Z I J (fr_pi q)) (hw : fr_ms own idx y b n' rt n) (hn : As.length = n)
    (hst : st0 = As.reverse ++ st) (hR : R'.frames + 1 ≤ R.frames ∧ 8 + (n' + 11) + R'.locals ≤ R.locals) (h0 : R'.cells = 0 ∧ R'.slots = 0) (hc : cs ≤ R.cells ∧ sl ≤ R.slots) (hrm : (st.map fun v => v.category).sum ≤ 8)
    (kk : ∀ x I' J', q x I' J' → fr_Ev X E own nm cc nL ret R Q cs sl Z (pc + 3) L (.int x :: st) I' J') : fr_Ev X E own nm cc nL ret R Q cs sl Z pc L st0 I J :=
  fr_callS0 d hM hw hn hst hR (by rw [h0.1, h0.2]; exact hc) hrm (fun v I' J' hp => by obtain ⟨x, rfl, hx⟩ := hp; rw [h0.1, h0.2]; exact kk x I' J' hx)
theorem fr_callSv {idx n n' : Nat} {y : MethodName} {b : ByteArray} {rt : Option FieldType} {R' : Room} {As : List Value} {q : fr_I → fr_J → Prop} (d : decode cc pc = .ok (.invokestatic idx, 3)) (hM : fr_Ct X y b n' rt R' As Z Z I J (fr_pv q)) (hw : fr_ms own idx y b n' rt n) (hn : As.length = n)
    (hst : st0 = As.reverse ++ st) (hR : R'.frames + 1 ≤ R.frames ∧ 8 + (n' + 11) + R'.locals ≤ R.locals) (h0 : R'.cells = 0 ∧ R'.slots = 0) (hc : cs ≤ R.cells ∧ sl ≤ R.slots) (hrm : (st.map fun v => v.category).sum ≤ 8)
    (kk : ∀ I' J', q I' J' → fr_Ev X E own nm cc nL ret R Q cs sl Z (pc + 3) L st I' J') : fr_Ev X E own nm cc nL ret R Q cs sl Z pc L st0 I J :=
  fr_callS0 d hM hw hn hst hR (by rw [h0.1, h0.2]; exact hc) hrm (fun v I' J' hp => by obtain ⟨rfl, hx⟩ := hp; rw [h0.1, h0.2]; exact kk I' J' hx)
end FRcalls
end
section
-- making cells
def fr_dv (k j : Nat) : Value := match fr_so k j with
  | 0 => .int 0
  | 1 => .long 0
  | _ => .null
theorem fr_vl_z {X : fr_X} {P : fr_P} {I : fr_I} {J : fr_J} {k r : Nat} (j : Nat) : fr_vl X (fr_zp P k r) (fr_zi I k r) (fr_zj J k r) k r j = fr_dv k j := by
  have h1 : fr_zi I k r k r j = 0 := if_pos ⟨rfl, rfl⟩
  have h2 : fr_zj J k r k r j = 0 := if_pos ⟨rfl, rfl⟩
  have h3 : fr_zp P k r k r j = none := if_pos ⟨rfl, rfl⟩
  unfold fr_vl fr_dv
  rw [h1, h2, h3]
  rfl
theorem fr_vl_zn {X : fr_X} {P : fr_P} {I : fr_I} {J : fr_J} {k r : Nat} (k' r' j' : Nat) (h : ¬ (k' = k ∧ r' = r)) : fr_vl X (fr_zp P k r) (fr_zi I k r) (fr_zj J k r) k' r' j' = fr_vl X P I J k' r' j' := fr_vl_eq (if_neg h) (if_neg h) (if_neg h)
section FRnew
variable {X : fr_X} {E : fr_E} {own nm : String} {cc : ByteArray} {nL : Nat} {ret : Option FieldType} {R : Room} {Q : State → Prop} {cs sl : Nat} {Z : fr_Z} {pc : Nat} {L : List (Nat × Value)} {st : List Value} {I : fr_I} {J : fr_J}
theorem fr_new {idx ci : Nat} {q : vw_C} {ty0 : Nat → FieldType} (k r : Nat) (d : decode cc pc = .ok (.new idx, 3)) (hw : fr_nc own idx ci q ty0) (hk : fr_kd k = .inl ci) (hdef : ∀ j, j < q.2.2 → defaultValue (ty0 j) = fr_dv k j) (ha : fr_ad X k r = Z.2.2) (hc : cs + 1 ≤ R.cells) (hs : sl + q.2.2 ≤ R.slots)
    (kk : fr_Ev X E own nm cc nL ret R Q (cs + 1) (sl + q.2.2) (fr_zp Z.1 k r, (fun a b => Z.2.1 a b ∨ (a = k ∧ b = r)), Z.2.2 + 1) (pc + 3) L (.ref (fr_ad X k r) :: st) (fr_zi I k r) (fr_zj J k r)) : fr_Ev X E own nm cc nL ret R Q cs sl Z pc L st I J := by
  obtain ⟨p, e, s, m, args, below, meth, c⟩ := E
  intro C H locs ls hz hm hS hl
  obtain ⟨w1, w2, w3, hcl, hin, hty, hnm⟩ := hw
  have C' := C
  obtain ⟨hx, hb, hml, hown, hts, hK, -, -, -, -, hbase⟩ := C'
  have hKn := hK.1 ci _ hcl
  refine W.newcK hx hb hown (hts _ w1) (hts _ w2) (hts _ w3) rfl d hc hs hKn.2.1 (hz.trans ha.symm) fun H1 kC hkC e1 z1 o1 => ?_
  rw [ha, ← hz] at o1 z1
  refine kk C H1 locs ls (by rw [z1, hz]) (hm.grow (ha.trans hz.symm) ((fr_ce_o hk).mpr ⟨q, hcl, (u_born ty0 hts hin hKn hkC e1 hty).to (fun j hj => ?_)⟩) o1 (Nat.le_trans hbase hS.1) fr_vl_zn) ⟨Nat.le_trans hS.1 (by omega), fun x h1 h2 => (o1 x (Nat.lt_of_lt_of_le h1 hS.1)).trans (hS.2.1 x h1 h2), hS.2.2⟩ hl
  rw [fr_vl_z]
  exact hdef j hj
theorem fr_newa {atype : ArrayType} {n : Int32} {N : Nat} (k r : Nat) (d : decode cc pc = .ok (.newarray atype, 2)) (hw : Cond.arrayClass (newarray.typeOf atype) ∈ fr_ws) (hk : fr_kd k = .inr (newarray.typeOf atype, N)) (hdef : ∀ j, defaultValue (newarray.typeOf atype) = fr_dv k j) (hn : ¬ n < 0) (hN : n.toNatClampNeg = N) (hbytes : N * componentBytes (newarray.typeOf atype) ≤ 536870912) (ha : fr_ad X k r = Z.2.2) (hc : cs + 1 ≤ R.cells) (hs : sl + N ≤ R.slots)
    (kk : fr_Ev X E own nm cc nL ret R Q (cs + 1) (sl + N) (fr_zp Z.1 k r, (fun a b => Z.2.1 a b ∨ (a = k ∧ b = r)), Z.2.2 + 1) (pc + 2) L (.ref (fr_ad X k r) :: st) (fr_zi I k r) (fr_zj J k r)) : fr_Ev X E own nm cc nL ret R Q cs sl Z pc L (.int n :: st) I J := by
  obtain ⟨p, e, s, m, args, below, meth, c⟩ := E
  intro C H locs ls hz hm hS hl
  have C' := C
  obtain ⟨hx, hb, hml, hown, hts, hK, -, -, -, -, hbase⟩ := C'
  refine va_newaK hx hb (hts _ hw) rfl d rfl hn hN hbytes hc hs (hz.trans ha.symm) fun H1 cA e1 z1 o1 hAr hNm => ?_
  rw [ha, ← hz] at o1 z1
  refine kk C H1 locs ls (by rw [z1, hz]) (hm.grow (ha.trans hz.symm) ((fr_ce_a hk).mpr ⟨cA, hAr, by cases atype <;> exact hNm, ?_⟩) o1 (Nat.le_trans hbase hS.1) fr_vl_zn) ⟨Nat.le_trans hS.1 (by omega), fun x h1 h2 => (o1 x (Nat.lt_of_lt_of_le h1 hS.1)).trans (hS.2.1 x h1 h2), hS.2.2⟩ hl
  rw [e1]
  congr 2
  funext j
  rw [fr_vl_z]
  exact hdef j
theorem fr_anew {idx : Nat} {n : Int32} {N : Nat} (k r : Nat) (d : decode cc pc = .ok (.anewarray idx, 3)) (hw : Cond.classLink own idx fr_aC ∈ fr_ws) (hk : fr_kd k = .inr (.object fr_aC, N)) (hdef : ∀ j, Value.null = fr_dv k j) (hn : ¬ n < 0) (hN : n.toNatClampNeg = N) (hbytes : N * 4 ≤ 536870912) (ha : fr_ad X k r = Z.2.2) (hc : cs + 1 ≤ R.cells) (hs : sl + N ≤ R.slots)
    (kk : fr_Ev X E own nm cc nL ret R Q (cs + 1) (sl + N) (fr_zp Z.1 k r, (fun a b => Z.2.1 a b ∨ (a = k ∧ b = r)), Z.2.2 + 1) (pc + 3) L (.ref (fr_ad X k r) :: st) (fr_zi I k r) (fr_zj J k r)) : fr_Ev X E own nm cc nL ret R Q cs sl Z pc L (.int n :: st) I J := by
  obtain ⟨p, e, s, m, args, below, meth, c⟩ := E
  intro C H locs ls hz hm hS hl
  have C' := C
  obtain ⟨hx, hb, hml, hown, hts, hK, hNA, -, -, -, hbase⟩ := C'
  subst hN
  refine W.anew hx hb hown (hts _ hw) (va_AO.use hNA.2) rfl d rfl hn hbytes hc hs fun cA kA comp f1 f2 f3 f4 => ?_
  generalize hH1 : H.push ({ cls := cA, slots := Array.replicate n.toNatClampNeg .null, vm := .none } : Cell) = H1
  have z1 : H1.size = H.size + 1 := by rw [← hH1, Array.size_push]
  have e1 : H1[H.size]? = some (arrV cA n.toNatClampNeg (fun _ => .null)) := by rw [← hH1, Array.getElem?_push_size, ← arrV_new]
  have o1 : ∀ q, q < H.size → H1[q]? = H[q]? := fun q hq => by rw [← hH1, Array.getElem?_push, if_neg (Nat.ne_of_lt hq)]
  have hha : fr_ad X k r = H.size := ha.trans hz.symm
  have kk' := kk C H1 locs ls (by rw [z1, hz]) (hm.grow hha ((fr_ce_a hk).mpr ⟨cA, fun n z => ⟨fun k h => (by cases h), kA, f2, comp, f3⟩, ⟨kA, comp, f2, f3, f4, f1⟩, by
    rw [hha, e1]
    congr 2
    funext j
    rw [fr_vl_z]
    exact hdef j⟩) o1 (Nat.le_trans hbase hS.1) fr_vl_zn) ⟨Nat.le_trans hS.1 (by omega), fun x h1 h2 => (o1 x (Nat.lt_of_lt_of_le h1 hS.1)).trans (hS.2.1 x h1 h2), hS.2.2⟩ hl
  rw [hha] at kk'
  exact kk'
theorem fr_oinit {idx a : Nat} (d : decode cc pc = .ok (.invokespecial idx, 3)) (h1 : Cond.methodLink own idx objectInit ∈ fr_ws) (h2 : Cond.instanceMethod objectInit ∈ fr_ws) (h3 : Cond.code objectInit ⟨#[0xb1]⟩ 1 none ∈ fr_ws) (hf : 1 ≤ R.frames) (hlo : (st.map fun v => v.category).sum + 12 ≤ R.locals)
    (kk : fr_Ev X E own nm cc nL ret R Q cs sl Z (pc + 3) L st I J) : fr_Ev X E own nm cc nL ret R Q cs sl Z pc L (.ref a :: st) I J := by
  intro C H locs ls hz hm hS hl
  have hts := C.2.2.2.2.1
  exact W.objInit C.1 C.2.1 C.2.2.2.1 (hts _ h1) (hts _ h2) (hts _ h3) rfl (by rw [C.2.2.1]; exact hl.1) rfl d hf (by show 2 * 0 + _ + 12 ≤ _; omega) (kk C H locs ls hz hm hS hl)
theorem fr_conv {Z2 : fr_Z} {I2 : fr_I} {J2 : fr_J} (hz2 : Z2.2.2 = Z.2.2) (hl2 : ∀ k r, Z2.2.1 k r → Z.2.1 k r) (he : ∀ k r j, Z2.2.1 k r → Z2.1 k r j = Z.1 k r j ∧ I2 k r j = I k r j ∧ J2 k r j = J k r j)
    (kk : fr_Ev X E own nm cc nL ret R Q cs sl Z2 pc L st I2 J2) : fr_Ev X E own nm cc nL ret R Q cs sl Z pc L st I J :=
  fun C H locs ls hz hm hS hl => kk C H locs ls (hz.trans hz2.symm) (hm.conv hl2 he) hS hl
theorem fr_wid {cs2 sl2 : Nat} (h1 : cs ≤ cs2) (h2 : sl ≤ sl2) (kk : fr_Ev X E own nm cc nL ret R Q cs2 sl2 Z pc L st I J) : fr_Ev X E own nm cc nL ret R Q cs sl Z pc L st I J :=
  fun C H locs ls hz hm hS hl => W.widen h1 h2 (kk C H locs ls hz hm hS hl)
theorem fr_mmin {idx : Nat} {x y : Int32} (d : decode cc pc = .ok (.invokestatic idx, 3)) (h1 : Cond.methodLink own idx Lib.Math.min.name ∈ fr_ws) (h2 : Cond.static Lib.Math.min.name ∈ fr_ws) (h3 : Cond.initialized "java/lang/Math" ∈ fr_ws) (h4 : Cond.code Lib.Math.min.name Lib.Math.min.code 2 (some .int) ∈ fr_ws) (hf : 1 ≤ R.frames) (hlo : (st.map fun v => v.category).sum + 13 ≤ R.locals) (hc : cs ≤ R.cells) (hs : sl ≤ R.slots)
    (kk : fr_Ev X E own nm cc nL ret R Q cs sl Z (pc + 3) L (.int (if y < x then y else x) :: st) I J) : fr_Ev X E own nm cc nL ret R Q cs sl Z pc L (.int y :: .int x :: st) I J := by
  intro C H locs ls hz hm hS hl
  have hts := C.2.2.2.2.1
  exact va_mmin C.1 C.2.1 (C.2.2.1.trans hl.1.symm) C.2.2.2.1 (hts _ h1) (hts _ h2) (hts _ h3) (hts _ h4) hf hlo hc hs d (kk C H locs ls hz hm hS hl)
end FRnew
end
section
def fr_rm (d : Nat) : Room := { frames := d, cells := 0, slots := 0, locals := 40 * d }
/-- the world when n relays stand -/
def fr_Z0 (X : fr_X) (n : Nat) : fr_Z := (fr_P0 n, fr_lv n, X.2.2.2 + 41 + 7 * n)
theorem fr_tIx {x : Int32} {I : fr_I} {J : fr_J} {t : Int32 × fr_I} (h : t = (x, I)) : x = t.1 ∧ I = t.2 ∧ J = J := by subst h; exact ⟨rfl, rfl, rfl⟩
theorem fr_tJx {x : Int32} {I : fr_I} {J : fr_J} {t : Int32 × fr_J} (h : t = (x, J)) : x = t.1 ∧ I = I ∧ J = t.2 := by subst h; exact ⟨rfl, rfl, rfl⟩
theorem fr_tIJx {x : Int32} {I : fr_I} {J : fr_J} {t : Int32 × fr_I × fr_J} (h : t = (x, I, J)) : x = t.1 ∧ I = t.2.1 ∧ J = t.2.2 := by subst h; exact ⟨rfl, rfl, rfl⟩
theorem fr_tIJ {I : fr_I} {J : fr_J} {t : fr_I × fr_J} (h : t = (I, J)) : I = t.1 ∧ J = t.2 := by subst h; exact ⟨rfl, rfl⟩
theorem fr_inc (a : Nat) : nI a + Int32.ofInt 1 = nI (a + 1) := nI_1 a
theorem fr_down {P : Nat → Prop} (e : Nat) (he : P e) (hs : ∀ i, i < e → P (i + 1) → P i) : ∀ i, i ≤ e → P i := by
  have key : ∀ d i, i + d = e → P i := by
    intro d
    induction d with
    | zero => intro i h; have : i = e := by omega
              rw [this]; exact he
    | succ d ih => intro i h; exact hs i (by omega) (ih (i + 1) (by omega))
  intro i hi
  exact key (e - i) i (by omega)
theorem fr_im1 : Int32.ofInt (-1) = -1 := by decide
theorem fr_i0 : Int32.ofInt 0 = 0 := by decide
theorem fr_i1 : Int32.ofInt 1 = 1 := by decide
theorem fr_i2 : Int32.ofInt 2 = 2 := by decide
theorem fr_i3 : Int32.ofInt 3 = 3 := by decide
theorem fr_i4 : Int32.ofInt 4 = 4 := by decide
theorem fr_i5 : Int32.ofInt 5 = 5 := by decide
theorem fr_b7 : (Int8.ofInt 7).toInt32 = 7 := by decide
theorem fr_b8 : (Int8.ofInt 8).toInt32 = 8 := by decide
theorem fr_b9 : (Int8.ofInt 9).toInt32 = 9 := by decide
theorem fr_b10 : (Int8.ofInt 10).toInt32 = 10 := by decide
theorem fr_b12 : (Int8.ofInt 12).toInt32 = 12 := by decide
theorem fr_b16 : (Int8.ofInt 16).toInt32 = 16 := by decide
theorem fr_b20 : (Int8.ofInt 20).toInt32 = 20 := by decide
theorem fr_b24 : (Int8.ofInt 24).toInt32 = 24 := by decide
theorem fr_b30 : (Int8.ofInt 30).toInt32 = 30 := by decide
theorem fr_b32 : (Int8.ofInt 32).toInt32 = 32 := by decide
theorem fr_b50 : (Int8.ofInt 50).toInt32 = 50 := by decide
theorem fr_b64 : (Int8.ofInt 64).toInt32 = 64 := by decide
theorem fr_b100 : (Int8.ofInt 100).toInt32 = 100 := by decide
theorem fr_s128 : (Int16.ofInt 128).toInt32 = 128 := by decide
theorem fr_s200 : (Int16.ofInt 200).toInt32 = 200 := by decide
theorem fr_s1000 : (Int16.ofInt 1000).toInt32 = 1000 := by decide
theorem fr_s2000 : (Int16.ofInt 2000).toInt32 = 2000 := by decide
theorem fr_s5000 : (Int16.ofInt 5000).toInt32 = 5000 := by decide
theorem fr_s20000 : (Int16.ofInt 20000).toInt32 = 20000 := by decide
theorem fr_l0 : Int64.ofNat ((0 : Fin 2) : Nat) = 0 := by decide
theorem fr_l1 : Int64.ofNat ((1 : Fin 2) : Nat) = 1 := by decide
section FRtern
variable {X : fr_X} {E : fr_E} {own nm : String} {cc : ByteArray} {nL : Nat} {ret : Option FieldType} {R : Room} {Q : State → Prop} {cs sl : Nat} {Z : fr_Z} {pc : Nat} {L : List (Nat × Value)} {st : List Value} {I : fr_I} {J : fr_J}
theorem fr_tif_eq {x a b : Int32} {off : Int} {t j : Nat} (d : decode cc pc = .ok (.ifCond .eq off, 3)) (ht : (pc : Int) + off = (t : Int)) (k1 : fr_Ev X E own nm cc nL ret R Q cs sl Z j L (.int a :: st) I J → fr_Ev X E own nm cc nL ret R Q cs sl Z (pc + 3) L st I J) (k2 : fr_Ev X E own nm cc nL ret R Q cs sl Z j L (.int b :: st) I J → fr_Ev X E own nm cc nL ret R Q cs sl Z t L st I J) (kk : fr_Ev X E own nm cc nL ret R Q cs sl Z j L (.int (if x = 0 then b else a) :: st) I J) : fr_Ev X E own nm cc nL ret R Q cs sl Z pc L (.int x :: st) I J := fr_if_eq t d ht (fun h => k2 (by rw [if_pos h] at kk; exact kk)) (fun h => k1 (by rw [if_neg h] at kk; exact kk))
theorem fr_tif_ne {x a b : Int32} {off : Int} {t j : Nat} (d : decode cc pc = .ok (.ifCond .ne off, 3)) (ht : (pc : Int) + off = (t : Int)) (k1 : fr_Ev X E own nm cc nL ret R Q cs sl Z j L (.int a :: st) I J → fr_Ev X E own nm cc nL ret R Q cs sl Z (pc + 3) L st I J) (k2 : fr_Ev X E own nm cc nL ret R Q cs sl Z j L (.int b :: st) I J → fr_Ev X E own nm cc nL ret R Q cs sl Z t L st I J) (kk : fr_Ev X E own nm cc nL ret R Q cs sl Z j L (.int (if x = 0 then a else b) :: st) I J) : fr_Ev X E own nm cc nL ret R Q cs sl Z pc L (.int x :: st) I J := fr_if_ne t d ht (fun h => k2 (by rw [if_neg h] at kk; exact kk)) (fun h => k1 (by rw [if_pos h] at kk; exact kk))
theorem fr_tif_lt {x a b : Int32} {off : Int} {t j : Nat} (d : decode cc pc = .ok (.ifCond .lt off, 3)) (ht : (pc : Int) + off = (t : Int)) (k1 : fr_Ev X E own nm cc nL ret R Q cs sl Z j L (.int a :: st) I J → fr_Ev X E own nm cc nL ret R Q cs sl Z (pc + 3) L st I J) (k2 : fr_Ev X E own nm cc nL ret R Q cs sl Z j L (.int b :: st) I J → fr_Ev X E own nm cc nL ret R Q cs sl Z t L st I J) (kk : fr_Ev X E own nm cc nL ret R Q cs sl Z j L (.int (if x < 0 then b else a) :: st) I J) : fr_Ev X E own nm cc nL ret R Q cs sl Z pc L (.int x :: st) I J := fr_if_lt t d ht (fun h => k2 (by rw [if_pos h] at kk; exact kk)) (fun h => k1 (by rw [if_neg h] at kk; exact kk))
theorem fr_tif_ge {x a b : Int32} {off : Int} {t j : Nat} (d : decode cc pc = .ok (.ifCond .ge off, 3)) (ht : (pc : Int) + off = (t : Int)) (k1 : fr_Ev X E own nm cc nL ret R Q cs sl Z j L (.int a :: st) I J → fr_Ev X E own nm cc nL ret R Q cs sl Z (pc + 3) L st I J) (k2 : fr_Ev X E own nm cc nL ret R Q cs sl Z j L (.int b :: st) I J → fr_Ev X E own nm cc nL ret R Q cs sl Z t L st I J) (kk : fr_Ev X E own nm cc nL ret R Q cs sl Z j L (.int (if 0 ≤ x then b else a) :: st) I J) : fr_Ev X E own nm cc nL ret R Q cs sl Z pc L (.int x :: st) I J := fr_if_ge t d ht (fun h => k2 (by rw [if_pos h] at kk; exact kk)) (fun h => k1 (by rw [if_neg h] at kk; exact kk))
theorem fr_tif_gt {x a b : Int32} {off : Int} {t j : Nat} (d : decode cc pc = .ok (.ifCond .gt off, 3)) (ht : (pc : Int) + off = (t : Int)) (k1 : fr_Ev X E own nm cc nL ret R Q cs sl Z j L (.int a :: st) I J → fr_Ev X E own nm cc nL ret R Q cs sl Z (pc + 3) L st I J) (k2 : fr_Ev X E own nm cc nL ret R Q cs sl Z j L (.int b :: st) I J → fr_Ev X E own nm cc nL ret R Q cs sl Z t L st I J) (kk : fr_Ev X E own nm cc nL ret R Q cs sl Z j L (.int (if 0 < x then b else a) :: st) I J) : fr_Ev X E own nm cc nL ret R Q cs sl Z pc L (.int x :: st) I J := fr_if_gt t d ht (fun h => k2 (by rw [if_pos h] at kk; exact kk)) (fun h => k1 (by rw [if_neg h] at kk; exact kk))
theorem fr_tif_le {x a b : Int32} {off : Int} {t j : Nat} (d : decode cc pc = .ok (.ifCond .le off, 3)) (ht : (pc : Int) + off = (t : Int)) (k1 : fr_Ev X E own nm cc nL ret R Q cs sl Z j L (.int a :: st) I J → fr_Ev X E own nm cc nL ret R Q cs sl Z (pc + 3) L st I J) (k2 : fr_Ev X E own nm cc nL ret R Q cs sl Z j L (.int b :: st) I J → fr_Ev X E own nm cc nL ret R Q cs sl Z t L st I J) (kk : fr_Ev X E own nm cc nL ret R Q cs sl Z j L (.int (if x ≤ 0 then b else a) :: st) I J) : fr_Ev X E own nm cc nL ret R Q cs sl Z pc L (.int x :: st) I J := fr_if_le t d ht (fun h => k2 (by rw [if_pos h] at kk; exact kk)) (fun h => k1 (by rw [if_neg h] at kk; exact kk))
theorem fr_ticmp_eq {x y a b : Int32} {off : Int} {t j : Nat} (d : decode cc pc = .ok (.if_icmp .eq off, 3)) (ht : (pc : Int) + off = (t : Int)) (k1 : fr_Ev X E own nm cc nL ret R Q cs sl Z j L (.int a :: st) I J → fr_Ev X E own nm cc nL ret R Q cs sl Z (pc + 3) L st I J) (k2 : fr_Ev X E own nm cc nL ret R Q cs sl Z j L (.int b :: st) I J → fr_Ev X E own nm cc nL ret R Q cs sl Z t L st I J) (kk : fr_Ev X E own nm cc nL ret R Q cs sl Z j L (.int (if x = y then b else a) :: st) I J) : fr_Ev X E own nm cc nL ret R Q cs sl Z pc L (.int y :: .int x :: st) I J := fr_icmp_eq t d ht (fun h => k2 (by rw [if_pos h] at kk; exact kk)) (fun h => k1 (by rw [if_neg h] at kk; exact kk))
theorem fr_ticmp_ne {x y a b : Int32} {off : Int} {t j : Nat} (d : decode cc pc = .ok (.if_icmp .ne off, 3)) (ht : (pc : Int) + off = (t : Int)) (k1 : fr_Ev X E own nm cc nL ret R Q cs sl Z j L (.int a :: st) I J → fr_Ev X E own nm cc nL ret R Q cs sl Z (pc + 3) L st I J) (k2 : fr_Ev X E own nm cc nL ret R Q cs sl Z j L (.int b :: st) I J → fr_Ev X E own nm cc nL ret R Q cs sl Z t L st I J) (kk : fr_Ev X E own nm cc nL ret R Q cs sl Z j L (.int (if x = y then a else b) :: st) I J) : fr_Ev X E own nm cc nL ret R Q cs sl Z pc L (.int y :: .int x :: st) I J := fr_icmp_ne t d ht (fun h => k2 (by rw [if_neg h] at kk; exact kk)) (fun h => k1 (by rw [if_pos h] at kk; exact kk))
theorem fr_ticmp_lt {x y a b : Int32} {off : Int} {t j : Nat} (d : decode cc pc = .ok (.if_icmp .lt off, 3)) (ht : (pc : Int) + off = (t : Int)) (k1 : fr_Ev X E own nm cc nL ret R Q cs sl Z j L (.int a :: st) I J → fr_Ev X E own nm cc nL ret R Q cs sl Z (pc + 3) L st I J) (k2 : fr_Ev X E own nm cc nL ret R Q cs sl Z j L (.int b :: st) I J → fr_Ev X E own nm cc nL ret R Q cs sl Z t L st I J) (kk : fr_Ev X E own nm cc nL ret R Q cs sl Z j L (.int (if x < y then b else a) :: st) I J) : fr_Ev X E own nm cc nL ret R Q cs sl Z pc L (.int y :: .int x :: st) I J := fr_icmp_lt t d ht (fun h => k2 (by rw [if_pos h] at kk; exact kk)) (fun h => k1 (by rw [if_neg h] at kk; exact kk))
theorem fr_ticmp_ge {x y a b : Int32} {off : Int} {t j : Nat} (d : decode cc pc = .ok (.if_icmp .ge off, 3)) (ht : (pc : Int) + off = (t : Int)) (k1 : fr_Ev X E own nm cc nL ret R Q cs sl Z j L (.int a :: st) I J → fr_Ev X E own nm cc nL ret R Q cs sl Z (pc + 3) L st I J) (k2 : fr_Ev X E own nm cc nL ret R Q cs sl Z j L (.int b :: st) I J → fr_Ev X E own nm cc nL ret R Q cs sl Z t L st I J) (kk : fr_Ev X E own nm cc nL ret R Q cs sl Z j L (.int (if y ≤ x then b else a) :: st) I J) : fr_Ev X E own nm cc nL ret R Q cs sl Z pc L (.int y :: .int x :: st) I J := fr_icmp_ge t d ht (fun h => k2 (by rw [if_pos h] at kk; exact kk)) (fun h => k1 (by rw [if_neg h] at kk; exact kk))
theorem fr_ticmp_gt {x y a b : Int32} {off : Int} {t j : Nat} (d : decode cc pc = .ok (.if_icmp .gt off, 3)) (ht : (pc : Int) + off = (t : Int)) (k1 : fr_Ev X E own nm cc nL ret R Q cs sl Z j L (.int a :: st) I J → fr_Ev X E own nm cc nL ret R Q cs sl Z (pc + 3) L st I J) (k2 : fr_Ev X E own nm cc nL ret R Q cs sl Z j L (.int b :: st) I J → fr_Ev X E own nm cc nL ret R Q cs sl Z t L st I J) (kk : fr_Ev X E own nm cc nL ret R Q cs sl Z j L (.int (if y < x then b else a) :: st) I J) : fr_Ev X E own nm cc nL ret R Q cs sl Z pc L (.int y :: .int x :: st) I J := fr_icmp_gt t d ht (fun h => k2 (by rw [if_pos h] at kk; exact kk)) (fun h => k1 (by rw [if_neg h] at kk; exact kk))
theorem fr_ticmp_le {x y a b : Int32} {off : Int} {t j : Nat} (d : decode cc pc = .ok (.if_icmp .le off, 3)) (ht : (pc : Int) + off = (t : Int)) (k1 : fr_Ev X E own nm cc nL ret R Q cs sl Z j L (.int a :: st) I J → fr_Ev X E own nm cc nL ret R Q cs sl Z (pc + 3) L st I J) (k2 : fr_Ev X E own nm cc nL ret R Q cs sl Z j L (.int b :: st) I J → fr_Ev X E own nm cc nL ret R Q cs sl Z t L st I J) (kk : fr_Ev X E own nm cc nL ret R Q cs sl Z j L (.int (if x ≤ y then b else a) :: st) I J) : fr_Ev X E own nm cc nL ret R Q cs sl Z pc L (.int y :: .int x :: st) I J := fr_icmp_le t d ht (fun h => k2 (by rw [if_pos h] at kk; exact kk)) (fun h => k1 (by rw [if_neg h] at kk; exact kk))
end FRtern
end

section
-- ===== PART A: goes FIRST, ahead of the names: the tables' words, and 'selects' of the private methods out of them =====
/-- a private method of a class that the tables say can be made, by its rows of tables_1 -/
def lw_okq (q : MethodName × Nat) : Prop := (q.1.cls ≠ "java/lang/invoke/MethodHandle" ∧ q.1.cls ≠ "java/lang/invoke/VarHandle") ∧ Cond.instantiable q.1.cls q.2 ∈ tables_1 ∧ Cond.privateMethod q.1 ∈ tables_1 ∧ Cond.instanceMethod q.1 ∈ tables_1
theorem lw_p0 : lw_okq (⟨"WordsBeside", "unsettle", "(I)V"⟩, 8) := ⟨⟨by decide +kernel, by decide +kernel⟩, List.mem_of_getElem? (i := 9) (by decide +kernel), List.mem_of_getElem? (i := 81) (by decide +kernel), List.mem_of_getElem? (i := 82) (by decide +kernel)⟩
theorem lw_p1 : lw_okq (⟨"WordsBeside$Code", "innerStepsBut", "(II)I"⟩, 2) := ⟨⟨by decide +kernel, by decide +kernel⟩, List.mem_of_getElem? (i := 17) (by decide +kernel), List.mem_of_getElem? (i := 100) (by decide +kernel), List.mem_of_getElem? (i := 101) (by decide +kernel)⟩
theorem lw_p2 : lw_okq (⟨"WordsBeside$Code", "at", "(II)I"⟩, 2) := ⟨⟨by decide +kernel, by decide +kernel⟩, List.mem_of_getElem? (i := 17) (by decide +kernel), List.mem_of_getElem? (i := 105) (by decide +kernel), List.mem_of_getElem? (i := 106) (by decide +kernel)⟩
theorem lw_p3 : lw_okq (⟨"WordsBeside", "present", "()LWordsBeside$World;"⟩, 8) := ⟨⟨by decide +kernel, by decide +kernel⟩, List.mem_of_getElem? (i := 9) (by decide +kernel), List.mem_of_getElem? (i := 126) (by decide +kernel), List.mem_of_getElem? (i := 127) (by decide +kernel)⟩
theorem lw_p4 : lw_okq (⟨"WordsBeside$Code", "goThrough", "(IILWordsBeside$World;)I"⟩, 2) := ⟨⟨by decide +kernel, by decide +kernel⟩, List.mem_of_getElem? (i := 17) (by decide +kernel), List.mem_of_getElem? (i := 134) (by decide +kernel), List.mem_of_getElem? (i := 135) (by decide +kernel)⟩
theorem lw_p5 : lw_okq (⟨"WordsBeside$Claim", "isDeniedBy", "(ILWordsBeside$World;)Z"⟩, 7) := ⟨⟨by decide +kernel, by decide +kernel⟩, List.mem_of_getElem? (i := 194) (by decide +kernel), List.mem_of_getElem? (i := 192) (by decide +kernel), List.mem_of_getElem? (i := 193) (by decide +kernel)⟩
theorem lw_p6 : lw_okq (⟨"WordsBeside", "keptState", "(I)LWordsBeside$World;"⟩, 8) := ⟨⟨by decide +kernel, by decide +kernel⟩, List.mem_of_getElem? (i := 9) (by decide +kernel), List.mem_of_getElem? (i := 203) (by decide +kernel), List.mem_of_getElem? (i := 204) (by decide +kernel)⟩
theorem lw_p7 : lw_okq (⟨"WordsBeside", "lastKeptHolding", "(LWordsBeside$Claim;)I"⟩, 8) := ⟨⟨by decide +kernel, by decide +kernel⟩, List.mem_of_getElem? (i := 9) (by decide +kernel), List.mem_of_getElem? (i := 250) (by decide +kernel), List.mem_of_getElem? (i := 251) (by decide +kernel)⟩
theorem lw_p8 : lw_okq (⟨"WordsBeside", "claimAt", "(I)LWordsBeside$Claim;"⟩, 8) := ⟨⟨by decide +kernel, by decide +kernel⟩, List.mem_of_getElem? (i := 9) (by decide +kernel), List.mem_of_getElem? (i := 258) (by decide +kernel), List.mem_of_getElem? (i := 259) (by decide +kernel)⟩
theorem lw_p9 : lw_okq (⟨"WordsBeside", "firstMend", "(LWordsBeside$Claim;)I"⟩, 8) := ⟨⟨by decide +kernel, by decide +kernel⟩, List.mem_of_getElem? (i := 9) (by decide +kernel), List.mem_of_getElem? (i := 278) (by decide +kernel), List.mem_of_getElem? (i := 279) (by decide +kernel)⟩
theorem lw_p10 : lw_okq (⟨"WordsBeside$World", "firstRefusal", "(I)I"⟩, 1) := ⟨⟨by decide +kernel, by decide +kernel⟩, List.mem_of_getElem? (i := 31) (by decide +kernel), List.mem_of_getElem? (i := 301) (by decide +kernel), List.mem_of_getElem? (i := 302) (by decide +kernel)⟩
theorem lw_p11 : lw_okq (⟨"WordsBeside", "secondMend", "(LWordsBeside$Claim;)I"⟩, 8) := ⟨⟨by decide +kernel, by decide +kernel⟩, List.mem_of_getElem? (i := 9) (by decide +kernel), List.mem_of_getElem? (i := 309) (by decide +kernel), List.mem_of_getElem? (i := 310) (by decide +kernel)⟩
theorem lw_p12 : lw_okq (⟨"WordsBeside", "fillListedHarms", "()V"⟩, 8) := ⟨⟨by decide +kernel, by decide +kernel⟩, List.mem_of_getElem? (i := 9) (by decide +kernel), List.mem_of_getElem? (i := 330) (by decide +kernel), List.mem_of_getElem? (i := 331) (by decide +kernel)⟩
theorem lw_p13 : lw_okq (⟨"WordsBeside", "listedAheadOf", "(I)I"⟩, 8) := ⟨⟨by decide +kernel, by decide +kernel⟩, List.mem_of_getElem? (i := 9) (by decide +kernel), List.mem_of_getElem? (i := 334) (by decide +kernel), List.mem_of_getElem? (i := 335) (by decide +kernel)⟩
theorem lw_p14 : lw_okq (⟨"WordsBeside", "hasClaim", "(II)Z"⟩, 8) := ⟨⟨by decide +kernel, by decide +kernel⟩, List.mem_of_getElem? (i := 9) (by decide +kernel), List.mem_of_getElem? (i := 343) (by decide +kernel), List.mem_of_getElem? (i := 344) (by decide +kernel)⟩
theorem lw_p15 : lw_okq (⟨"WordsBeside", "howManyStand", "(I)I"⟩, 8) := ⟨⟨by decide +kernel, by decide +kernel⟩, List.mem_of_getElem? (i := 9) (by decide +kernel), List.mem_of_getElem? (i := 351) (by decide +kernel), List.mem_of_getElem? (i := 352) (by decide +kernel)⟩
def lw_privs_1 : List (MethodName × Nat) := [(⟨"WordsBeside", "unsettle", "(I)V"⟩, 8), (⟨"WordsBeside$Code", "innerStepsBut", "(II)I"⟩, 2), (⟨"WordsBeside$Code", "at", "(II)I"⟩, 2), (⟨"WordsBeside", "present", "()LWordsBeside$World;"⟩, 8), (⟨"WordsBeside$Code", "goThrough", "(IILWordsBeside$World;)I"⟩, 2), (⟨"WordsBeside$Claim", "isDeniedBy", "(ILWordsBeside$World;)Z"⟩, 7), (⟨"WordsBeside", "keptState", "(I)LWordsBeside$World;"⟩, 8), (⟨"WordsBeside", "lastKeptHolding", "(LWordsBeside$Claim;)I"⟩, 8), (⟨"WordsBeside", "claimAt", "(I)LWordsBeside$Claim;"⟩, 8), (⟨"WordsBeside", "firstMend", "(LWordsBeside$Claim;)I"⟩, 8), (⟨"WordsBeside$World", "firstRefusal", "(I)I"⟩, 1), (⟨"WordsBeside", "secondMend", "(LWordsBeside$Claim;)I"⟩, 8), (⟨"WordsBeside", "fillListedHarms", "()V"⟩, 8), (⟨"WordsBeside", "listedAheadOf", "(I)I"⟩, 8), (⟨"WordsBeside", "hasClaim", "(II)Z"⟩, 8), (⟨"WordsBeside", "howManyStand", "(I)I"⟩, 8)]
theorem lw_r1 : ∀ q ∈ lw_privs_1, lw_okq q := List.forall_mem_cons.mpr ⟨lw_p0, List.forall_mem_cons.mpr ⟨lw_p1, List.forall_mem_cons.mpr ⟨lw_p2, List.forall_mem_cons.mpr ⟨lw_p3, List.forall_mem_cons.mpr ⟨lw_p4, List.forall_mem_cons.mpr ⟨lw_p5, List.forall_mem_cons.mpr ⟨lw_p6, List.forall_mem_cons.mpr ⟨lw_p7, List.forall_mem_cons.mpr ⟨lw_p8, List.forall_mem_cons.mpr ⟨lw_p9, List.forall_mem_cons.mpr ⟨lw_p10, List.forall_mem_cons.mpr ⟨lw_p11, List.forall_mem_cons.mpr ⟨lw_p12, List.forall_mem_cons.mpr ⟨lw_p13, List.forall_mem_cons.mpr ⟨lw_p14, List.forall_mem_cons.mpr ⟨lw_p15, fun _ h => absurd h List.not_mem_nil⟩⟩⟩⟩⟩⟩⟩⟩⟩⟩⟩⟩⟩⟩⟩⟩
theorem lw_p16 : lw_okq (⟨"WordsBeside", "howManyMarked", "()I"⟩, 8) := ⟨⟨by decide +kernel, by decide +kernel⟩, List.mem_of_getElem? (i := 9) (by decide +kernel), List.mem_of_getElem? (i := 355) (by decide +kernel), List.mem_of_getElem? (i := 356) (by decide +kernel)⟩
theorem lw_p17 : lw_okq (⟨"WordsBesideModel", "runs", "()V"⟩, 14) := ⟨⟨by decide +kernel, by decide +kernel⟩, List.mem_of_getElem? (i := 359) (by decide +kernel), List.mem_of_getElem? (i := 420) (by decide +kernel), List.mem_of_getElem? (i := 421) (by decide +kernel)⟩
theorem lw_p18 : lw_okq (⟨"WordsBesideModel", "goes", "(II)I"⟩, 14) := ⟨⟨by decide +kernel, by decide +kernel⟩, List.mem_of_getElem? (i := 359) (by decide +kernel), List.mem_of_getElem? (i := 427) (by decide +kernel), List.mem_of_getElem? (i := 428) (by decide +kernel)⟩
theorem lw_p19 : lw_okq (⟨"WordsBesideModel", "canBe", "(III)Z"⟩, 14) := ⟨⟨by decide +kernel, by decide +kernel⟩, List.mem_of_getElem? (i := 359) (by decide +kernel), List.mem_of_getElem? (i := 438) (by decide +kernel), List.mem_of_getElem? (i := 439) (by decide +kernel)⟩
theorem lw_p20 : lw_okq (⟨"WordsBesideModel", "give", "(III)I"⟩, 14) := ⟨⟨by decide +kernel, by decide +kernel⟩, List.mem_of_getElem? (i := 359) (by decide +kernel), List.mem_of_getElem? (i := 453) (by decide +kernel), List.mem_of_getElem? (i := 454) (by decide +kernel)⟩
theorem lw_p21 : lw_okq (⟨"WordsBesideModel", "isClaim", "(I)Z"⟩, 14) := ⟨⟨by decide +kernel, by decide +kernel⟩, List.mem_of_getElem? (i := 359) (by decide +kernel), List.mem_of_getElem? (i := 475) (by decide +kernel), List.mem_of_getElem? (i := 476) (by decide +kernel)⟩
theorem lw_p22 : lw_okq (⟨"WordsBesideModel", "stateOf", "(I)I"⟩, 14) := ⟨⟨by decide +kernel, by decide +kernel⟩, List.mem_of_getElem? (i := 359) (by decide +kernel), List.mem_of_getElem? (i := 479) (by decide +kernel), List.mem_of_getElem? (i := 480) (by decide +kernel)⟩
theorem lw_p23 : lw_okq (⟨"WordsBesideModel", "isHeld", "(I)Z"⟩, 14) := ⟨⟨by decide +kernel, by decide +kernel⟩, List.mem_of_getElem? (i := 359) (by decide +kernel), List.mem_of_getElem? (i := 483) (by decide +kernel), List.mem_of_getElem? (i := 484) (by decide +kernel)⟩
theorem lw_p24 : lw_okq (⟨"WordsBesideModel", "harm", "(II)I"⟩, 14) := ⟨⟨by decide +kernel, by decide +kernel⟩, List.mem_of_getElem? (i := 359) (by decide +kernel), List.mem_of_getElem? (i := 487) (by decide +kernel), List.mem_of_getElem? (i := 488) (by decide +kernel)⟩
theorem lw_p25 : lw_okq (⟨"WordsBesideModel", "denies", "(III)Z"⟩, 14) := ⟨⟨by decide +kernel, by decide +kernel⟩, List.mem_of_getElem? (i := 359) (by decide +kernel), List.mem_of_getElem? (i := 491) (by decide +kernel), List.mem_of_getElem? (i := 492) (by decide +kernel)⟩
theorem lw_p26 : lw_okq (⟨"WordsBesideModel", "lastHeld", "(I)I"⟩, 14) := ⟨⟨by decide +kernel, by decide +kernel⟩, List.mem_of_getElem? (i := 359) (by decide +kernel), List.mem_of_getElem? (i := 495) (by decide +kernel), List.mem_of_getElem? (i := 496) (by decide +kernel)⟩
theorem lw_p27 : lw_okq (⟨"WordsBesideModel", "mends", "(I)Z"⟩, 14) := ⟨⟨by decide +kernel, by decide +kernel⟩, List.mem_of_getElem? (i := 359) (by decide +kernel), List.mem_of_getElem? (i := 507) (by decide +kernel), List.mem_of_getElem? (i := 508) (by decide +kernel)⟩
theorem lw_p28 : lw_okq (⟨"WordsBesideModel", "spans", "(I)Z"⟩, 14) := ⟨⟨by decide +kernel, by decide +kernel⟩, List.mem_of_getElem? (i := 359) (by decide +kernel), List.mem_of_getElem? (i := 511) (by decide +kernel), List.mem_of_getElem? (i := 512) (by decide +kernel)⟩
theorem lw_p29 : lw_okq (⟨"WordsBesideModel", "divides", "(I)Z"⟩, 14) := ⟨⟨by decide +kernel, by decide +kernel⟩, List.mem_of_getElem? (i := 359) (by decide +kernel), List.mem_of_getElem? (i := 517) (by decide +kernel), List.mem_of_getElem? (i := 518) (by decide +kernel)⟩
theorem lw_p30 : lw_okq (⟨"WordsBesideModel", "refuses", "(I)Z"⟩, 14) := ⟨⟨by decide +kernel, by decide +kernel⟩, List.mem_of_getElem? (i := 359) (by decide +kernel), List.mem_of_getElem? (i := 521) (by decide +kernel), List.mem_of_getElem? (i := 522) (by decide +kernel)⟩
theorem lw_p31 : lw_okq (⟨"WordsBesideModel", "refused", "(I)I"⟩, 14) := ⟨⟨by decide +kernel, by decide +kernel⟩, List.mem_of_getElem? (i := 359) (by decide +kernel), List.mem_of_getElem? (i := 541) (by decide +kernel), List.mem_of_getElem? (i := 542) (by decide +kernel)⟩
def lw_privs_2 : List (MethodName × Nat) := [(⟨"WordsBeside", "howManyMarked", "()I"⟩, 8), (⟨"WordsBesideModel", "runs", "()V"⟩, 14), (⟨"WordsBesideModel", "goes", "(II)I"⟩, 14), (⟨"WordsBesideModel", "canBe", "(III)Z"⟩, 14), (⟨"WordsBesideModel", "give", "(III)I"⟩, 14), (⟨"WordsBesideModel", "isClaim", "(I)Z"⟩, 14), (⟨"WordsBesideModel", "stateOf", "(I)I"⟩, 14), (⟨"WordsBesideModel", "isHeld", "(I)Z"⟩, 14), (⟨"WordsBesideModel", "harm", "(II)I"⟩, 14), (⟨"WordsBesideModel", "denies", "(III)Z"⟩, 14), (⟨"WordsBesideModel", "lastHeld", "(I)I"⟩, 14), (⟨"WordsBesideModel", "mends", "(I)Z"⟩, 14), (⟨"WordsBesideModel", "spans", "(I)Z"⟩, 14), (⟨"WordsBesideModel", "divides", "(I)Z"⟩, 14), (⟨"WordsBesideModel", "refuses", "(I)Z"⟩, 14), (⟨"WordsBesideModel", "refused", "(I)I"⟩, 14)]
theorem lw_r2 : ∀ q ∈ lw_privs_2, lw_okq q := List.forall_mem_cons.mpr ⟨lw_p16, List.forall_mem_cons.mpr ⟨lw_p17, List.forall_mem_cons.mpr ⟨lw_p18, List.forall_mem_cons.mpr ⟨lw_p19, List.forall_mem_cons.mpr ⟨lw_p20, List.forall_mem_cons.mpr ⟨lw_p21, List.forall_mem_cons.mpr ⟨lw_p22, List.forall_mem_cons.mpr ⟨lw_p23, List.forall_mem_cons.mpr ⟨lw_p24, List.forall_mem_cons.mpr ⟨lw_p25, List.forall_mem_cons.mpr ⟨lw_p26, List.forall_mem_cons.mpr ⟨lw_p27, List.forall_mem_cons.mpr ⟨lw_p28, List.forall_mem_cons.mpr ⟨lw_p29, List.forall_mem_cons.mpr ⟨lw_p30, List.forall_mem_cons.mpr ⟨lw_p31, fun _ h => absurd h List.not_mem_nil⟩⟩⟩⟩⟩⟩⟩⟩⟩⟩⟩⟩⟩⟩⟩⟩
theorem lw_p32 : lw_okq (⟨"WordsBesideModel", "hasClaim", "(III)Z"⟩, 14) := ⟨⟨by decide +kernel, by decide +kernel⟩, List.mem_of_getElem? (i := 359) (by decide +kernel), List.mem_of_getElem? (i := 545) (by decide +kernel), List.mem_of_getElem? (i := 546) (by decide +kernel)⟩
def lw_privs_3 : List (MethodName × Nat) := [(⟨"WordsBesideModel", "hasClaim", "(III)Z"⟩, 14)]
theorem lw_r3 : ∀ q ∈ lw_privs_3, lw_okq q := List.forall_mem_cons.mpr ⟨lw_p32, fun _ h => absurd h List.not_mem_nil⟩
def lw_privs : List (MethodName × Nat) := lw_privs_1 ++ (lw_privs_2 ++ (lw_privs_3))
def lw_tbl : List Cond := k2_sels lw_privs ++ tables_1
theorem lw_privs_ok : ∀ q ∈ lw_privs, lw_okq q := by
  show ∀ q ∈ lw_privs_1 ++ (lw_privs_2 ++ (lw_privs_3)), lw_okq q
  exact List.forall_mem_append.mpr ⟨lw_r1, List.forall_mem_append.mpr ⟨lw_r2, lw_r3⟩⟩
end
section
/-! ===== BEGIN words of one list among another's, by their places ===== -/
theorem goodIn_r {big : List Cond} (ws : List Cond) (ps : List Nat) (hp : ws = ps.filterMap (fun i => big[i]?)) (h : ws.all goodWord = true) : GoodIn big ws := by
  intro w hw
  have h1 := List.all_eq_true.mp h w hw
  rw [hp] at hw
  obtain ⟨i, -, hi⟩ := List.mem_filterMap.mp hw
  have hm : w ∈ big := by first | exact List.mem_of_getElem? hi | exact List.getElem?_mem hi
  exact ⟨hm, good_of_word h1⟩
theorem goodIn_app {big a b : List Cond} (ha : GoodIn big a) (hb : GoodIn big b) : GoodIn big (a ++ b) := fun w h => (List.mem_append.mp h).elim (ha w) (hb w)
theorem goodIn_ca {big a b : List Cond} {c : Cond} (ha : GoodIn big (c :: a)) (hb : GoodIn big b) : GoodIn big (c :: (a ++ b)) := fun w h => (List.mem_cons.mp h).elim (fun e => ha w (List.mem_cons.mpr (Or.inl e))) (fun h => (List.mem_append.mp h).elim (fun h => ha w (List.mem_cons.mpr (Or.inr h))) (hb w))
theorem goodIn_sub {big ws : List Cond} (hm : ∀ w ∈ ws, w ∈ big) (h : ws.all goodWord = true) : GoodIn big ws := fun w hw => ⟨hm w hw, good_of_word (List.all_eq_true.mp h w hw)⟩
/-! ===== END ===== -/

/-! ===== BEGIN printed: names, fields, word lists, decode rows ===== -/
def RX0 : String := "WordsBeside$Claim"
def TX0 : u_T := fun k => match k with
  | 0 => ("WordsBeside$Claim", "function", "I", true)
  | 1 => ("WordsBeside$Claim", "kind", "I", true)
  | 2 => ("WordsBeside$Claim", "p", "I", false)
  | 3 => ("WordsBeside$Claim", "q", "I", false)
  | 4 => ("WordsBeside$Claim", "born", "I", true)
  | 5 => ("WordsBeside$Claim", "lastHeld", "I", false)
  | _ => ("WordsBeside$Claim", "marked", "Z", false)
def tyX0 : Nat → FieldType := fun k => match k with
  | 0 => .int
  | 1 => .int
  | 2 => .int
  | 3 => .int
  | 4 => .int
  | 5 => .int
  | _ => .boolean
abbrev wsX00 : List Cond := u_ws RX0 TX0 7
theorem nmX0 : ∀ a, a < 7 → ∀ b, b < 7 → a ≠ b → (TX0 a).2.1 ≠ (TX0 b).2.1 := by decide +kernel
theorem tyX0_ok : ∀ k, k < 7 → parseFieldDescriptor (TX0 k).2.2.1 = some (tyX0 k) := by decide +kernel
abbrev cX0_init : ByteArray := prog_2_method_1_code
def yX0_init : MethodName := ⟨RX0, "<init>", "(IIIII)V"⟩
abbrev cX0_isHeldIn : ByteArray := prog_2_method_2_code
def yX0_isHeldIn : MethodName := ⟨RX0, "isHeldIn", "(LWordsBeside$World;)Z"⟩
abbrev cX0_firstDenialIn : ByteArray := prog_2_method_3_code
def yX0_firstDenialIn : MethodName := ⟨RX0, "firstDenialIn", "(LWordsBeside$World;)I"⟩
abbrev cX0_harmIn : ByteArray := prog_2_method_4_code
def yX0_harmIn : MethodName := ⟨RX0, "harmIn", "(LWordsBeside$World;)I"⟩
abbrev cX0_isDeniedBy : ByteArray := prog_2_method_5_code
def yX0_isDeniedBy : MethodName := ⟨RX0, "isDeniedBy", "(ILWordsBeside$World;)Z"⟩
def RX1 : String := "WordsBeside$Code"
def TX1 : u_T := fun k => match k with
  | 0 => ("WordsBeside$Code", "steps", "[I", true)
  | _ => ("WordsBeside$Code", "lengths", "[I", true)
def tyX1 : Nat → FieldType := fun k => match k with
  | 0 => .array .int
  | _ => .array .int
abbrev wsX10 : List Cond := u_ws RX1 TX1 2
theorem nmX1 : ∀ a, a < 2 → ∀ b, b < 2 → a ≠ b → (TX1 a).2.1 ≠ (TX1 b).2.1 := by decide +kernel
theorem tyX1_ok : ∀ k, k < 2 → parseFieldDescriptor (TX1 k).2.2.1 = some (tyX1 k) := by decide +kernel
abbrev cX1_init : ByteArray := prog_3_method_1_code
def yX1_init : MethodName := ⟨RX1, "<init>", "()V"⟩
abbrev cX1_length : ByteArray := prog_3_method_2_code
def yX1_length : MethodName := ⟨RX1, "length", "(I)I"⟩
abbrev cX1_empty : ByteArray := prog_3_method_3_code
def yX1_empty : MethodName := ⟨RX1, "empty", "(I)V"⟩
abbrev cX1_append : ByteArray := prog_3_method_4_code
def yX1_append : MethodName := ⟨RX1, "append", "(II)V"⟩
abbrev cX1_put : ByteArray := prog_3_method_5_code
def yX1_put : MethodName := ⟨RX1, "put", "(III)V"⟩
abbrev cX1_at : ByteArray := prog_3_method_6_code
def yX1_at : MethodName := ⟨RX1, "at", "(II)I"⟩
abbrev cX1_canStand : ByteArray := prog_3_method_7_code
def yX1_canStand : MethodName := ⟨RX1, "canStand", "(III)Z"⟩
abbrev cX1_innerStepsBut : ByteArray := prog_3_method_8_code
def yX1_innerStepsBut : MethodName := ⟨RX1, "innerStepsBut", "(II)I"⟩
abbrev cX1_runAll : ByteArray := prog_3_method_9_code
def yX1_runAll : MethodName := ⟨RX1, "runAll", "(ILWordsBeside$World;)V"⟩
abbrev cX1_goThrough : ByteArray := prog_3_method_10_code
def yX1_goThrough : MethodName := ⟨RX1, "goThrough", "(IILWordsBeside$World;)I"⟩
abbrev cX1_after : ByteArray := prog_3_method_11_code
def yX1_after : MethodName := ⟨RX1, "after", "(IIILWordsBeside$World;)I"⟩
def RX2 : String := "WordsBeside$World"
def TX2 : u_T := fun k => match k with
  | _ => ("WordsBeside$World", "gives", "[I", true)
def tyX2 : Nat → FieldType := fun k => match k with
  | _ => .array .int
abbrev wsX20 : List Cond := u_ws RX2 TX2 1
theorem nmX2 : ∀ a, a < 1 → ∀ b, b < 1 → a ≠ b → (TX2 a).2.1 ≠ (TX2 b).2.1 := by decide +kernel
theorem tyX2_ok : ∀ k, k < 1 → parseFieldDescriptor (TX2 k).2.2.1 = some (tyX2 k) := by decide +kernel
abbrev cX2_init : ByteArray := prog_4_method_1_code
def yX2_init : MethodName := ⟨RX2, "<init>", "()V"⟩
abbrev cX2_copy : ByteArray := prog_4_method_2_code
def yX2_copy : MethodName := ⟨RX2, "copy", "()LWordsBeside$World;"⟩
abbrev cX2_put : ByteArray := prog_4_method_3_code
def yX2_put : MethodName := ⟨RX2, "put", "(III)V"⟩
abbrev cX2_given : ByteArray := prog_4_method_4_code
def yX2_given : MethodName := ⟨RX2, "given", "(II)I"⟩
abbrev cX2_refusals : ByteArray := prog_4_method_5_code
def yX2_refusals : MethodName := ⟨RX2, "refusals", "(I)I"⟩
abbrev cX2_least : ByteArray := prog_4_method_6_code
def yX2_least : MethodName := ⟨RX2, "least", "(I)I"⟩
abbrev cX2_most : ByteArray := prog_4_method_7_code
def yX2_most : MethodName := ⟨RX2, "most", "(I)I"⟩
abbrev cX2_greatestDivisor : ByteArray := prog_4_method_8_code
def yX2_greatestDivisor : MethodName := ⟨RX2, "greatestDivisor", "(I)I"⟩
abbrev cX2_commonDivisor : ByteArray := prog_4_method_9_code
def yX2_commonDivisor : MethodName := ⟨RX2, "commonDivisor", "(II)I"⟩
abbrev cX2_refusesFrom : ByteArray := prog_4_method_10_code
def yX2_refusesFrom : MethodName := ⟨RX2, "refusesFrom", "(I)I"⟩
abbrev cX2_firstRefusal : ByteArray := prog_4_method_11_code
def yX2_firstRefusal : MethodName := ⟨RX2, "firstRefusal", "(I)I"⟩
def RX3 : String := "WordsBeside"
def TX3 : u_T := fun k => match k with
  | 0 => ("WordsBeside", "code", "LWordsBeside$Code;", true)
  | 1 => ("WordsBeside", "now", "LWordsBeside$World;", true)
  | 2 => ("WordsBeside", "settled", "I", false)
  | 3 => ("WordsBeside", "states", "[LWordsBeside$World;", true)
  | 4 => ("WordsBeside", "kept", "I", false)
  | 5 => ("WordsBeside", "claims", "[LWordsBeside$Claim;", true)
  | 6 => ("WordsBeside", "came", "I", false)
  | _ => ("WordsBeside", "listedHarms", "[I", true)
def tyX3 : Nat → FieldType := fun k => match k with
  | 0 => .object "WordsBeside$Code"
  | 1 => .object "WordsBeside$World"
  | 2 => .int
  | 3 => .array (.object "WordsBeside$World")
  | 4 => .int
  | 5 => .array (.object "WordsBeside$Claim")
  | 6 => .int
  | _ => .array .int
abbrev wsX30 : List Cond := u_ws RX3 TX3 8
theorem nmX3 : ∀ a, a < 8 → ∀ b, b < 8 → a ≠ b → (TX3 a).2.1 ≠ (TX3 b).2.1 := by decide +kernel
theorem tyX3_ok : ∀ k, k < 8 → parseFieldDescriptor (TX3 k).2.2.1 = some (tyX3 k) := by decide +kernel
abbrev cX3_init : ByteArray := prog_1_method_1_code
def yX3_init : MethodName := ⟨RX3, "<init>", "()V"⟩
abbrev cX3_clear : ByteArray := prog_1_method_2_code
def yX3_clear : MethodName := ⟨RX3, "clear", "(I)Z"⟩
abbrev cX3_step : ByteArray := prog_1_method_3_code
def yX3_step : MethodName := ⟨RX3, "step", "(II)I"⟩
abbrev cX3_change : ByteArray := prog_1_method_4_code
def yX3_change : MethodName := ⟨RX3, "change", "(III)Z"⟩
abbrev cX3_run : ByteArray := prog_1_method_5_code
def yX3_run : MethodName := ⟨RX3, "run", "(III)I"⟩
abbrev cX3_keep : ByteArray := prog_1_method_6_code
def yX3_keep : MethodName := ⟨RX3, "keep", "()I"⟩
abbrev cX3_was : ByteArray := prog_1_method_7_code
def yX3_was : MethodName := ⟨RX3, "was", "(IIII)I"⟩
abbrev cX3_claim : ByteArray := prog_1_method_8_code
def yX3_claim : MethodName := ⟨RX3, "claim", "(IIII)I"⟩
abbrev cX3_told : ByteArray := prog_1_method_9_code
def yX3_told : MethodName := ⟨RX3, "told", "(II)I"⟩
abbrev cX3_denied : ByteArray := prog_1_method_10_code
def yX3_denied : MethodName := ⟨RX3, "denied", "(I)I"⟩
abbrev cX3_mend : ByteArray := prog_1_method_11_code
def yX3_mend : MethodName := ⟨RX3, "mend", "(II)I"⟩
abbrev cX3_mended : ByteArray := prog_1_method_12_code
def yX3_mended : MethodName := ⟨RX3, "mended", "(I)Z"⟩
abbrev cX3_mark : ByteArray := prog_1_method_13_code
def yX3_mark : MethodName := ⟨RX3, "mark", "(I)Z"⟩
abbrev cX3_listed : ByteArray := prog_1_method_14_code
def yX3_listed : MethodName := ⟨RX3, "listed", "(I)I"⟩
abbrev cX3_missing : ByteArray := prog_1_method_15_code
def yX3_missing : MethodName := ⟨RX3, "missing", "(I)I"⟩
abbrev cX3_count : ByteArray := prog_1_method_16_code
def yX3_count : MethodName := ⟨RX3, "count", "(I)I"⟩
abbrev cX3_isFunction : ByteArray := prog_1_method_17_code
def yX3_isFunction : MethodName := ⟨RX3, "isFunction", "(I)Z"⟩
abbrev cX3_isRun : ByteArray := prog_1_method_18_code
def yX3_isRun : MethodName := ⟨RX3, "isRun", "(I)Z"⟩
abbrev cX3_isWithinLimit : ByteArray := prog_1_method_19_code
def yX3_isWithinLimit : MethodName := ⟨RX3, "isWithinLimit", "(I)Z"⟩
abbrev cX3_runNumber : ByteArray := prog_1_method_20_code
def yX3_runNumber : MethodName := ⟨RX3, "runNumber", "(II)I"⟩
abbrev cX3_canBeClaimed : ByteArray := prog_1_method_21_code
def yX3_canBeClaimed : MethodName := ⟨RX3, "canBeClaimed", "(III)Z"⟩
abbrev cX3_unsettle : ByteArray := prog_1_method_22_code
def yX3_unsettle : MethodName := ⟨RX3, "unsettle", "(I)V"⟩
abbrev cX3_present : ByteArray := prog_1_method_23_code
def yX3_present : MethodName := ⟨RX3, "present", "()LWordsBeside$World;"⟩
abbrev cX3_keptState : ByteArray := prog_1_method_24_code
def yX3_keptState : MethodName := ⟨RX3, "keptState", "(I)LWordsBeside$World;"⟩
abbrev cX3_claimAt : ByteArray := prog_1_method_25_code
def yX3_claimAt : MethodName := ⟨RX3, "claimAt", "(I)LWordsBeside$Claim;"⟩
abbrev cX3_standing : ByteArray := prog_1_method_26_code
def yX3_standing : MethodName := ⟨RX3, "standing", "(LWordsBeside$Claim;LWordsBeside$World;)I"⟩
abbrev cX3_lastKeptHolding : ByteArray := prog_1_method_27_code
def yX3_lastKeptHolding : MethodName := ⟨RX3, "lastKeptHolding", "(LWordsBeside$Claim;)I"⟩
abbrev cX3_firstMend : ByteArray := prog_1_method_28_code
def yX3_firstMend : MethodName := ⟨RX3, "firstMend", "(LWordsBeside$Claim;)I"⟩
abbrev cX3_secondMend : ByteArray := prog_1_method_29_code
def yX3_secondMend : MethodName := ⟨RX3, "secondMend", "(LWordsBeside$Claim;)I"⟩
abbrev cX3_fillListedHarms : ByteArray := prog_1_method_30_code
def yX3_fillListedHarms : MethodName := ⟨RX3, "fillListedHarms", "()V"⟩
abbrev cX3_listedAheadOf : ByteArray := prog_1_method_31_code
def yX3_listedAheadOf : MethodName := ⟨RX3, "listedAheadOf", "(I)I"⟩
abbrev cX3_hasClaim : ByteArray := prog_1_method_32_code
def yX3_hasClaim : MethodName := ⟨RX3, "hasClaim", "(II)Z"⟩
abbrev cX3_howManyStand : ByteArray := prog_1_method_33_code
def yX3_howManyStand : MethodName := ⟨RX3, "howManyStand", "(I)I"⟩
abbrev cX3_howManyMarked : ByteArray := prog_1_method_34_code
def yX3_howManyMarked : MethodName := ⟨RX3, "howManyMarked", "()I"⟩
def RX4 : String := "WordsBesideModel"
def TX4 : u_T := fun k => match k with
  | 0 => ("WordsBesideModel", "longs", "[I", true)
  | 1 => ("WordsBesideModel", "steps", "[I", true)
  | 2 => ("WordsBesideModel", "kept", "I", false)
  | 3 => ("WordsBesideModel", "gives", "[I", true)
  | 4 => ("WordsBesideModel", "claims", "I", false)
  | 5 => ("WordsBesideModel", "of", "[I", true)
  | 6 => ("WordsBesideModel", "kind", "[I", true)
  | 7 => ("WordsBesideModel", "first", "[I", true)
  | 8 => ("WordsBesideModel", "second", "[I", true)
  | 9 => ("WordsBesideModel", "base", "[I", true)
  | 10 => ("WordsBesideModel", "isMarked", "[Z", true)
  | 11 => ("WordsBesideModel", "mendOne", "I", false)
  | 12 => ("WordsBesideModel", "mendTwo", "I", false)
  | _ => ("WordsBesideModel", "harms", "[I", true)
def tyX4 : Nat → FieldType := fun k => match k with
  | 0 => .array .int
  | 1 => .array .int
  | 2 => .int
  | 3 => .array .int
  | 4 => .int
  | 5 => .array .int
  | 6 => .array .int
  | 7 => .array .int
  | 8 => .array .int
  | 9 => .array .int
  | 10 => .array .boolean
  | 11 => .int
  | 12 => .int
  | _ => .array .int
abbrev wsX40 : List Cond := u_ws RX4 TX4 14
theorem nmX4 : ∀ a, a < 14 → ∀ b, b < 14 → a ≠ b → (TX4 a).2.1 ≠ (TX4 b).2.1 := by decide +kernel
theorem tyX4_ok : ∀ k, k < 14 → parseFieldDescriptor (TX4 k).2.2.1 = some (tyX4 k) := by decide +kernel
abbrev cX4_init : ByteArray := prog_6_method_1_code
def yX4_init : MethodName := ⟨RX4, "<init>", "()V"⟩
abbrev cX4_in : ByteArray := prog_6_method_2_code
def yX4_in : MethodName := ⟨RX4, "in", "(III)Z"⟩
abbrev cX4_isFunction : ByteArray := prog_6_method_3_code
def yX4_isFunction : MethodName := ⟨RX4, "isFunction", "(I)Z"⟩
abbrev cX4_canBe : ByteArray := prog_6_method_4_code
def yX4_canBe : MethodName := ⟨RX4, "canBe", "(III)Z"⟩
abbrev cX4_clear : ByteArray := prog_6_method_5_code
def yX4_clear : MethodName := ⟨RX4, "clear", "(I)Z"⟩
abbrev cX4_step : ByteArray := prog_6_method_6_code
def yX4_step : MethodName := ⟨RX4, "step", "(II)I"⟩
abbrev cX4_change : ByteArray := prog_6_method_7_code
def yX4_change : MethodName := ⟨RX4, "change", "(III)Z"⟩
abbrev cX4_at : ByteArray := prog_6_method_8_code
def yX4_at : MethodName := ⟨RX4, "at", "(III)I"⟩
abbrev cX4_runs : ByteArray := prog_6_method_9_code
def yX4_runs : MethodName := ⟨RX4, "runs", "()V"⟩
abbrev cX4_goes : ByteArray := prog_6_method_10_code
def yX4_goes : MethodName := ⟨RX4, "goes", "(II)I"⟩
abbrev cX4_give : ByteArray := prog_6_method_11_code
def yX4_give : MethodName := ⟨RX4, "give", "(III)I"⟩
abbrev cX4_isRun : ByteArray := prog_6_method_12_code
def yX4_isRun : MethodName := ⟨RX4, "isRun", "(III)Z"⟩
abbrev cX4_run : ByteArray := prog_6_method_13_code
def yX4_run : MethodName := ⟨RX4, "run", "(III)I"⟩
abbrev cX4_keep : ByteArray := prog_6_method_14_code
def yX4_keep : MethodName := ⟨RX4, "keep", "()I"⟩
abbrev cX4_was : ByteArray := prog_6_method_15_code
def yX4_was : MethodName := ⟨RX4, "was", "(IIII)I"⟩
abbrev cX4_claim : ByteArray := prog_6_method_16_code
def yX4_claim : MethodName := ⟨RX4, "claim", "(IIII)I"⟩
abbrev cX4_isClaim : ByteArray := prog_6_method_17_code
def yX4_isClaim : MethodName := ⟨RX4, "isClaim", "(I)Z"⟩
abbrev cX4_denies : ByteArray := prog_6_method_18_code
def yX4_denies : MethodName := ⟨RX4, "denies", "(III)Z"⟩
abbrev cX4_harm : ByteArray := prog_6_method_19_code
def yX4_harm : MethodName := ⟨RX4, "harm", "(II)I"⟩
abbrev cX4_lastHeld : ByteArray := prog_6_method_20_code
def yX4_lastHeld : MethodName := ⟨RX4, "lastHeld", "(I)I"⟩
abbrev cX4_isHeld : ByteArray := prog_6_method_21_code
def yX4_isHeld : MethodName := ⟨RX4, "isHeld", "(I)Z"⟩
abbrev cX4_stateOf : ByteArray := prog_6_method_22_code
def yX4_stateOf : MethodName := ⟨RX4, "stateOf", "(I)I"⟩
abbrev cX4_told : ByteArray := prog_6_method_23_code
def yX4_told : MethodName := ⟨RX4, "told", "(II)I"⟩
abbrev cX4_denied : ByteArray := prog_6_method_24_code
def yX4_denied : MethodName := ⟨RX4, "denied", "(I)I"⟩
abbrev cX4_mends : ByteArray := prog_6_method_25_code
def yX4_mends : MethodName := ⟨RX4, "mends", "(I)Z"⟩
abbrev cX4_spans : ByteArray := prog_6_method_26_code
def yX4_spans : MethodName := ⟨RX4, "spans", "(I)Z"⟩
abbrev cX4_divides : ByteArray := prog_6_method_27_code
def yX4_divides : MethodName := ⟨RX4, "divides", "(I)Z"⟩
abbrev cX4_refuses : ByteArray := prog_6_method_28_code
def yX4_refuses : MethodName := ⟨RX4, "refuses", "(I)Z"⟩
abbrev cX4_mend : ByteArray := prog_6_method_29_code
def yX4_mend : MethodName := ⟨RX4, "mend", "(II)I"⟩
abbrev cX4_mended : ByteArray := prog_6_method_30_code
def yX4_mended : MethodName := ⟨RX4, "mended", "(I)Z"⟩
abbrev cX4_mark : ByteArray := prog_6_method_31_code
def yX4_mark : MethodName := ⟨RX4, "mark", "(I)Z"⟩
abbrev cX4_listed : ByteArray := prog_6_method_32_code
def yX4_listed : MethodName := ⟨RX4, "listed", "(I)I"⟩
abbrev cX4_hasClaim : ByteArray := prog_6_method_33_code
def yX4_hasClaim : MethodName := ⟨RX4, "hasClaim", "(III)Z"⟩
abbrev cX4_refused : ByteArray := prog_6_method_34_code
def yX4_refused : MethodName := ⟨RX4, "refused", "(I)I"⟩
abbrev cX4_missing : ByteArray := prog_6_method_35_code
def yX4_missing : MethodName := ⟨RX4, "missing", "(I)I"⟩
abbrev cX4_count : ByteArray := prog_6_method_36_code
def yX4_count : MethodName := ⟨RX4, "count", "(I)I"⟩
def RJ9 : String := "java/lang/Math"
def TJ9 : u_T := fun k => match k with
  | _ => ("", "", "", false)
def tyJ9 : Nat → FieldType := fun k => match k with
  | _ => .int
abbrev wsJ90 : List Cond := u_ws RJ9 TJ9 0
theorem nmJ9 : ∀ a, a < 0 → ∀ b, b < 0 → a ≠ b → (TJ9 a).2.1 ≠ (TJ9 b).2.1 := by decide +kernel
theorem tyJ9_ok : ∀ k, k < 0 → parseFieldDescriptor (TJ9 k).2.2.1 = some (tyJ9 k) := by decide +kernel
abbrev cJ9_floorMod_7cf53 : ByteArray := prog_7_method_50_code
def yJ9_floorMod_7cf53 : MethodName := ⟨RJ9, "floorMod", "(II)I"⟩
abbrev cJ9_abs_0f7a4 : ByteArray := prog_7_method_59_code
def yJ9_abs_0f7a4 : MethodName := ⟨RJ9, "abs", "(I)I"⟩
abbrev cJ9_max_7cf53 : ByteArray := prog_7_method_65_code
def yJ9_max_7cf53 : MethodName := ⟨RJ9, "max", "(II)I"⟩
abbrev cJ9_min_7cf53 : ByteArray := prog_7_method_69_code
def yJ9_min_7cf53 : MethodName := ⟨RJ9, "min", "(II)I"⟩
def RJ10 : String := "java/lang/System"
def TJ10 : u_T := fun k => match k with
  | _ => ("", "", "", false)
def tyJ10 : Nat → FieldType := fun k => match k with
  | _ => .int
abbrev wsJ100 : List Cond := u_ws RJ10 TJ10 0
theorem nmJ10 : ∀ a, a < 0 → ∀ b, b < 0 → a ≠ b → (TJ10 a).2.1 ≠ (TJ10 b).2.1 := by decide +kernel
theorem tyJ10_ok : ∀ k, k < 0 → parseFieldDescriptor (TJ10 k).2.2.1 = some (tyJ10 k) := by decide +kernel
def RL : String := "WordsBesideLaw"
abbrev cL_law : ByteArray := code
def yL_law : MethodName := ⟨RL, "law", "([I)Z"⟩
def wsX0_init : List Cond := .code yX0_init cX0_init 6 none :: ([.methodLink RX0 3 objectInit, .instanceMethod objectInit, .code objectInit ⟨#[0xb1]⟩ 1 none, .fieldLink RX0 9 "WordsBeside$Claim" "function" "I", .fieldLink RX0 15 "WordsBeside$Claim" "kind" "I", .fieldLink RX0 18 "WordsBeside$Claim" "p" "I", .fieldLink RX0 21 "WordsBeside$Claim" "q" "I", .fieldLink RX0 24 "WordsBeside$Claim" "born" "I", .fieldLink RX0 27 "WordsBeside$Claim" "lastHeld" "I", .fieldLink RX0 30 "WordsBeside$Claim" "marked" "Z"] ++ wsX00)
def wsX2_given : List Cond := .code yX2_given cX2_given 3 (some .int) :: ([.constant RX2 29 (-2147483648), .fieldLink RX2 9 "WordsBeside$World" "gives" "[I"] ++ wsX20)
def wsX0_isDeniedBy : List Cond := .code yX0_isDeniedBy cX0_isDeniedBy 8 (some .boolean) :: ([.fieldLink RX0 9 "WordsBeside$Claim" "function" "I", .constant RX0 48 (-2147483648), .fieldLink RX0 15 "WordsBeside$Claim" "kind" "I", .fieldLink RX0 18 "WordsBeside$Claim" "p" "I", .fieldLink RX0 21 "WordsBeside$Claim" "q" "I", .methodLink RX0 42 yX2_given, .instanceMethod yX2_given, .selects RX2 yX2_given yX2_given, .initialized RX2, .code yX2_given cX2_given 3 (some .int), .constant RX2 29 (-2147483648), .fieldLink RX2 9 "WordsBeside$World" "gives" "[I"] ++ wsX00 ++ wsX20)
def wsX0_firstDenialIn : List Cond := .code yX0_firstDenialIn cX0_firstDenialIn 3 (some .int) :: ([.methodLink RX0 38 yX0_isDeniedBy, .instanceMethod yX0_isDeniedBy, .selects RX0 yX0_isDeniedBy yX0_isDeniedBy, .initialized RX0, .code yX0_isDeniedBy cX0_isDeniedBy 8 (some .boolean), .fieldLink RX0 9 "WordsBeside$Claim" "function" "I", .constant RX0 48 (-2147483648), .fieldLink RX0 15 "WordsBeside$Claim" "kind" "I", .fieldLink RX0 18 "WordsBeside$Claim" "p" "I", .fieldLink RX0 21 "WordsBeside$Claim" "q" "I", .methodLink RX0 42 yX2_given, .instanceMethod yX2_given, .selects RX2 yX2_given yX2_given, .initialized RX2, .code yX2_given cX2_given 3 (some .int), .constant RX2 29 (-2147483648), .fieldLink RX2 9 "WordsBeside$World" "gives" "[I"] ++ wsX00 ++ wsX20)
def wsX0_isHeldIn : List Cond := .code yX0_isHeldIn cX0_isHeldIn 2 (some .boolean) :: ([.methodLink RX0 34 yX0_firstDenialIn, .instanceMethod yX0_firstDenialIn, .selects RX0 yX0_firstDenialIn yX0_firstDenialIn, .initialized RX0, .code yX0_firstDenialIn cX0_firstDenialIn 3 (some .int), .methodLink RX0 38 yX0_isDeniedBy, .instanceMethod yX0_isDeniedBy, .selects RX0 yX0_isDeniedBy yX0_isDeniedBy, .code yX0_isDeniedBy cX0_isDeniedBy 8 (some .boolean), .fieldLink RX0 9 "WordsBeside$Claim" "function" "I", .constant RX0 48 (-2147483648), .fieldLink RX0 15 "WordsBeside$Claim" "kind" "I", .fieldLink RX0 18 "WordsBeside$Claim" "p" "I", .fieldLink RX0 21 "WordsBeside$Claim" "q" "I", .methodLink RX0 42 yX2_given, .instanceMethod yX2_given, .selects RX2 yX2_given yX2_given, .initialized RX2, .code yX2_given cX2_given 3 (some .int), .constant RX2 29 (-2147483648), .fieldLink RX2 9 "WordsBeside$World" "gives" "[I"] ++ wsX00 ++ wsX20)
def wsX0_harmIn : List Cond := .code yX0_harmIn cX0_harmIn 4 (some .int) :: ([.methodLink RX0 38 yX0_isDeniedBy, .instanceMethod yX0_isDeniedBy, .selects RX0 yX0_isDeniedBy yX0_isDeniedBy, .initialized RX0, .code yX0_isDeniedBy cX0_isDeniedBy 8 (some .boolean), .fieldLink RX0 9 "WordsBeside$Claim" "function" "I", .constant RX0 48 (-2147483648), .fieldLink RX0 15 "WordsBeside$Claim" "kind" "I", .fieldLink RX0 18 "WordsBeside$Claim" "p" "I", .fieldLink RX0 21 "WordsBeside$Claim" "q" "I", .methodLink RX0 42 yX2_given, .instanceMethod yX2_given, .selects RX2 yX2_given yX2_given, .initialized RX2, .code yX2_given cX2_given 3 (some .int), .constant RX2 29 (-2147483648), .fieldLink RX2 9 "WordsBeside$World" "gives" "[I"] ++ wsX00 ++ wsX20)
def wsX1_init : List Cond := .code yX1_init cX1_init 1 none :: ([.methodLink RX1 3 objectInit, .instanceMethod objectInit, .code objectInit ⟨#[0xb1]⟩ 1 none, .arrayClass .int, .fieldLink RX1 9 "WordsBeside$Code" "steps" "[I", .fieldLink RX1 15 "WordsBeside$Code" "lengths" "[I"] ++ wsX10)
def wsX3_isFunction : List Cond := .code yX3_isFunction cX3_isFunction 1 (some .boolean) :: ([])
def wsX1_length : List Cond := .code yX1_length cX1_length 2 (some .int) :: ([.fieldLink RX1 15 "WordsBeside$Code" "lengths" "[I", .static yX3_isFunction, .initialized RX3, .code yX3_isFunction cX3_isFunction 1 (some .boolean)] ++ wsX10)
def wsX1_empty : List Cond := .code yX1_empty cX1_empty 2 none :: ([.fieldLink RX1 15 "WordsBeside$Code" "lengths" "[I", .static yX3_isFunction, .initialized RX3, .code yX3_isFunction cX3_isFunction 1 (some .boolean)] ++ wsX10)
def wsX1_put : List Cond := .code yX1_put cX1_put 4 none :: ([.fieldLink RX1 9 "WordsBeside$Code" "steps" "[I", .static yX3_isFunction, .initialized RX3, .code yX3_isFunction cX3_isFunction 1 (some .boolean)] ++ wsX10)
def wsX1_append : List Cond := .code yX1_append cX1_append 3 none :: ([.fieldLink RX1 15 "WordsBeside$Code" "lengths" "[I", .static yX3_isFunction, .initialized RX3, .code yX3_isFunction cX3_isFunction 1 (some .boolean), .methodLink RX1 22 yX1_put, .instanceMethod yX1_put, .selects RX1 yX1_put yX1_put, .initialized RX1, .code yX1_put cX1_put 4 none, .fieldLink RX1 9 "WordsBeside$Code" "steps" "[I"] ++ wsX10)
def wsX1_at : List Cond := .code yX1_at cX1_at 3 (some .int) :: ([.fieldLink RX1 9 "WordsBeside$Code" "steps" "[I", .static yX3_isFunction, .initialized RX3, .code yX3_isFunction cX3_isFunction 1 (some .boolean)] ++ wsX10)
def wsX1_innerStepsBut : List Cond := .code yX1_innerStepsBut cX1_innerStepsBut 5 (some .int) :: ([.methodLink RX1 30 yX1_length, .instanceMethod yX1_length, .selects RX1 yX1_length yX1_length, .initialized RX1, .code yX1_length cX1_length 2 (some .int), .fieldLink RX1 15 "WordsBeside$Code" "lengths" "[I", .static yX3_isFunction, .initialized RX3, .code yX3_isFunction cX3_isFunction 1 (some .boolean), .methodLink RX1 34 yX1_at, .instanceMethod yX1_at, .selects RX1 yX1_at yX1_at, .code yX1_at cX1_at 3 (some .int), .fieldLink RX1 9 "WordsBeside$Code" "steps" "[I"] ++ wsX10)
def wsX1_canStand : List Cond := .code yX1_canStand cX1_canStand 6 (some .boolean) :: ([.methodLink RX1 26 yX1_innerStepsBut, .instanceMethod yX1_innerStepsBut, .selects RX1 yX1_innerStepsBut yX1_innerStepsBut, .initialized RX1, .code yX1_innerStepsBut cX1_innerStepsBut 5 (some .int), .methodLink RX1 30 yX1_length, .instanceMethod yX1_length, .selects RX1 yX1_length yX1_length, .code yX1_length cX1_length 2 (some .int), .fieldLink RX1 15 "WordsBeside$Code" "lengths" "[I", .static yX3_isFunction, .initialized RX3, .code yX3_isFunction cX3_isFunction 1 (some .boolean), .methodLink RX1 34 yX1_at, .instanceMethod yX1_at, .selects RX1 yX1_at yX1_at, .code yX1_at cX1_at 3 (some .int), .fieldLink RX1 9 "WordsBeside$Code" "steps" "[I"] ++ wsX10)
def wsJ9_floorMod_7cf53 : List Cond := .code yJ9_floorMod_7cf53 cJ9_floorMod_7cf53 3 (some .int) :: ([])
def wsX1_after : List Cond := .code yX1_after cX1_after 6 (some .int) :: ([.methodLink RX1 52 Lib.Math.min.name, .static Lib.Math.min.name, .initialized "java/lang/Math", .code Lib.Math.min.name Lib.Math.min.code 2 (some .int), .methodLink RX1 57 Lib.Math.max.name, .static Lib.Math.max.name, .code Lib.Math.max.name Lib.Math.max.code 2 (some .int), .constant RX1 51 (-2147483648), .methodLink RX1 60 yX2_given, .instanceMethod yX2_given, .selects RX2 yX2_given yX2_given, .initialized RX2, .code yX2_given cX2_given 3 (some .int), .constant RX2 29 (-2147483648), .fieldLink RX2 9 "WordsBeside$World" "gives" "[I", .methodLink RX1 63 yJ9_floorMod_7cf53, .static yJ9_floorMod_7cf53, .initialized RJ9, .code yJ9_floorMod_7cf53 cJ9_floorMod_7cf53 3 (some .int)] ++ wsX20)
def wsX3_isWithinLimit : List Cond := .code yX3_isWithinLimit cX3_isWithinLimit 1 (some .boolean) :: ([.constant RX3 170 (-1000000), .constant RX3 171 (1000000)])
def wsX1_goThrough_r1 : List Cond := [Cond.constant RX1 51 (-2147483648), Cond.methodLink RX1 30 yX1_length, Cond.instanceMethod yX1_length, Cond.selects RX1 yX1_length yX1_length, Cond.initialized RX1, Cond.code yX1_length cX1_length 2 (some .int), Cond.fieldLink RX1 15 "WordsBeside$Code" "lengths" "[I", Cond.static yX3_isFunction, Cond.initialized RX3, Cond.code yX3_isFunction cX3_isFunction 1 (some .boolean), Cond.methodLink RX1 34 yX1_at, Cond.instanceMethod yX1_at, Cond.selects RX1 yX1_at yX1_at, Cond.code yX1_at cX1_at 3 (some .int), Cond.fieldLink RX1 9 "WordsBeside$Code" "steps" "[I", Cond.methodLink RX1 44 yX1_after, Cond.static yX1_after, Cond.code yX1_after cX1_after 6 (some .int), Cond.methodLink RX1 52 Lib.Math.min.name, Cond.static Lib.Math.min.name, Cond.initialized "java/lang/Math", Cond.code Lib.Math.min.name Lib.Math.min.code 2 (some .int), Cond.methodLink RX1 57 Lib.Math.max.name, Cond.static Lib.Math.max.name]
def wsX1_goThrough_r2 : List Cond := [Cond.code Lib.Math.max.name Lib.Math.max.code 2 (some .int), Cond.methodLink RX1 60 yX2_given, Cond.instanceMethod yX2_given, Cond.selects RX2 yX2_given yX2_given, Cond.initialized RX2, Cond.code yX2_given cX2_given 3 (some .int), Cond.constant RX2 29 (-2147483648), Cond.fieldLink RX2 9 "WordsBeside$World" "gives" "[I", Cond.methodLink RX1 63 yJ9_floorMod_7cf53, Cond.static yJ9_floorMod_7cf53, Cond.initialized RJ9, Cond.code yJ9_floorMod_7cf53 cJ9_floorMod_7cf53 3 (some .int), Cond.static yX3_isWithinLimit, Cond.code yX3_isWithinLimit cX3_isWithinLimit 1 (some .boolean), Cond.constant RX3 170 (-1000000), Cond.constant RX3 171 (1000000)]
def wsX1_goThrough : List Cond := .code yX1_goThrough cX1_goThrough 9 (some .int) :: ((wsX1_goThrough_r1 ++ wsX1_goThrough_r2) ++ wsX10 ++ wsX20)
def wsX3_isRun : List Cond := .code yX3_isRun cX3_isRun 1 (some .boolean) :: ([])
def wsX2_put : List Cond := .code yX2_put cX2_put 4 none :: ([.fieldLink RX2 9 "WordsBeside$World" "gives" "[I", .static yX3_isFunction, .initialized RX3, .code yX3_isFunction cX3_isFunction 1 (some .boolean), .static yX3_isRun, .code yX3_isRun cX3_isRun 1 (some .boolean)] ++ wsX20)
def wsX1_runAll_r1 : List Cond := [Cond.methodLink RX1 37 yX1_goThrough, Cond.instanceMethod yX1_goThrough, Cond.selects RX1 yX1_goThrough yX1_goThrough, Cond.initialized RX1, Cond.code yX1_goThrough cX1_goThrough 9 (some .int), Cond.constant RX1 51 (-2147483648), Cond.methodLink RX1 30 yX1_length, Cond.instanceMethod yX1_length, Cond.selects RX1 yX1_length yX1_length, Cond.code yX1_length cX1_length 2 (some .int), Cond.fieldLink RX1 15 "WordsBeside$Code" "lengths" "[I", Cond.static yX3_isFunction, Cond.initialized RX3, Cond.code yX3_isFunction cX3_isFunction 1 (some .boolean), Cond.methodLink RX1 34 yX1_at, Cond.instanceMethod yX1_at, Cond.selects RX1 yX1_at yX1_at, Cond.code yX1_at cX1_at 3 (some .int), Cond.fieldLink RX1 9 "WordsBeside$Code" "steps" "[I", Cond.methodLink RX1 44 yX1_after, Cond.static yX1_after, Cond.code yX1_after cX1_after 6 (some .int), Cond.methodLink RX1 52 Lib.Math.min.name, Cond.static Lib.Math.min.name]
def wsX1_runAll_r2 : List Cond := [Cond.initialized "java/lang/Math", Cond.code Lib.Math.min.name Lib.Math.min.code 2 (some .int), Cond.methodLink RX1 57 Lib.Math.max.name, Cond.static Lib.Math.max.name, Cond.code Lib.Math.max.name Lib.Math.max.code 2 (some .int), Cond.methodLink RX1 60 yX2_given, Cond.instanceMethod yX2_given, Cond.selects RX2 yX2_given yX2_given, Cond.initialized RX2, Cond.code yX2_given cX2_given 3 (some .int), Cond.constant RX2 29 (-2147483648), Cond.fieldLink RX2 9 "WordsBeside$World" "gives" "[I", Cond.methodLink RX1 63 yJ9_floorMod_7cf53, Cond.static yJ9_floorMod_7cf53, Cond.initialized RJ9, Cond.code yJ9_floorMod_7cf53 cJ9_floorMod_7cf53 3 (some .int), Cond.static yX3_isWithinLimit, Cond.code yX3_isWithinLimit cX3_isWithinLimit 1 (some .boolean), Cond.constant RX3 170 (-1000000), Cond.constant RX3 171 (1000000), Cond.methodLink RX1 41 yX2_put, Cond.instanceMethod yX2_put, Cond.selects RX2 yX2_put yX2_put, Cond.code yX2_put cX2_put 4 none]
def wsX1_runAll_r3 : List Cond := [Cond.static yX3_isRun, Cond.code yX3_isRun cX3_isRun 1 (some .boolean)]
def wsX1_runAll : List Cond := .code yX1_runAll cX1_runAll 4 none :: ((wsX1_runAll_r1 ++ (wsX1_runAll_r2 ++ wsX1_runAll_r3)) ++ wsX10 ++ wsX20)
def wsX2_init : List Cond := .code yX2_init cX2_init 1 none :: ([.methodLink RX2 3 objectInit, .instanceMethod objectInit, .code objectInit ⟨#[0xb1]⟩ 1 none, .arrayClass .int, .fieldLink RX2 9 "WordsBeside$World" "gives" "[I"] ++ wsX20)
def wsX2_copy : List Cond := .code yX2_copy cX2_copy 2 (some (.object "WordsBeside$World")) :: ([.classLink RX2 10 RX2, .instantiable RX2 1, .initialized RX2, .fieldLink RX2 9 "WordsBeside$World" "gives" "[I", .methodLink RX2 16 arraycopyName, .native arraycopyName, .static arraycopyName, .initialized "java/lang/System", .methodLink RX2 15 yX2_init, .instanceMethod yX2_init, .code yX2_init cX2_init 1 none, .methodLink RX2 3 objectInit, .instanceMethod objectInit, .code objectInit ⟨#[0xb1]⟩ 1 none, .arrayClass .int] ++ wsX20)
def wsX2_refusals : List Cond := .code yX2_refusals cX2_refusals 4 (some .int) :: ([.constant RX2 29 (-2147483648), .methodLink RX2 30 yX2_given, .instanceMethod yX2_given, .selects RX2 yX2_given yX2_given, .initialized RX2, .code yX2_given cX2_given 3 (some .int), .fieldLink RX2 9 "WordsBeside$World" "gives" "[I"] ++ wsX20)
def wsX2_least : List Cond := .code yX2_least cX2_least 5 (some .int) :: ([.constant RX2 29 (-2147483648), .methodLink RX2 30 yX2_given, .instanceMethod yX2_given, .selects RX2 yX2_given yX2_given, .initialized RX2, .code yX2_given cX2_given 3 (some .int), .fieldLink RX2 9 "WordsBeside$World" "gives" "[I"] ++ wsX20)
def wsX2_most : List Cond := .code yX2_most cX2_most 4 (some .int) :: ([.constant RX2 29 (-2147483648), .methodLink RX2 34 Lib.Math.max.name, .static Lib.Math.max.name, .initialized "java/lang/Math", .code Lib.Math.max.name Lib.Math.max.code 2 (some .int), .methodLink RX2 30 yX2_given, .instanceMethod yX2_given, .selects RX2 yX2_given yX2_given, .initialized RX2, .code yX2_given cX2_given 3 (some .int), .fieldLink RX2 9 "WordsBeside$World" "gives" "[I"] ++ wsX20)
def wsX2_commonDivisor : List Cond := .code yX2_commonDivisor cX2_commonDivisor 6 (some .int) :: ([])
def wsX2_greatestDivisor : List Cond := .code yX2_greatestDivisor cX2_greatestDivisor 5 (some .int) :: ([.constant RX2 29 (-2147483648), .methodLink RX2 39 Lib.Math.abs.name, .static Lib.Math.abs.name, .initialized "java/lang/Math", .code Lib.Math.abs.name Lib.Math.abs.code 1 (some .int), .methodLink RX2 30 yX2_given, .instanceMethod yX2_given, .selects RX2 yX2_given yX2_given, .initialized RX2, .code yX2_given cX2_given 3 (some .int), .fieldLink RX2 9 "WordsBeside$World" "gives" "[I", .methodLink RX2 43 yX2_commonDivisor, .static yX2_commonDivisor, .code yX2_commonDivisor cX2_commonDivisor 6 (some .int)] ++ wsX20)
def wsX2_firstRefusal : List Cond := .code yX2_firstRefusal cX2_firstRefusal 3 (some .int) :: ([.constant RX2 29 (-2147483648), .methodLink RX2 30 yX2_given, .instanceMethod yX2_given, .selects RX2 yX2_given yX2_given, .initialized RX2, .code yX2_given cX2_given 3 (some .int), .fieldLink RX2 9 "WordsBeside$World" "gives" "[I"] ++ wsX20)
def wsX2_refusesFrom : List Cond := .code yX2_refusesFrom cX2_refusesFrom 3 (some .int) :: ([.constant RX2 29 (-2147483648), .methodLink RX2 46 yX2_firstRefusal, .instanceMethod yX2_firstRefusal, .selects RX2 yX2_firstRefusal yX2_firstRefusal, .initialized RX2, .code yX2_firstRefusal cX2_firstRefusal 3 (some .int), .methodLink RX2 30 yX2_given, .instanceMethod yX2_given, .selects RX2 yX2_given yX2_given, .code yX2_given cX2_given 3 (some .int), .fieldLink RX2 9 "WordsBeside$World" "gives" "[I", .methodLink RX2 49 yX2_refusals, .instanceMethod yX2_refusals, .selects RX2 yX2_refusals yX2_refusals, .code yX2_refusals cX2_refusals 4 (some .int)] ++ wsX20)
def wsX3_init_r1 : List Cond := [Cond.methodLink RX3 3 objectInit, Cond.instanceMethod objectInit, Cond.code objectInit ⟨#[0xb1]⟩ 1 none, Cond.classLink RX3 9 RX1, Cond.instantiable RX1 2, Cond.initialized RX1, Cond.fieldLink RX3 12 "WordsBeside" "code" "LWordsBeside$Code;", Cond.classLink RX3 16 RX2, Cond.instantiable RX2 1, Cond.initialized RX2, Cond.fieldLink RX3 19 "WordsBeside" "now" "LWordsBeside$World;", Cond.fieldLink RX3 23 "WordsBeside" "settled" "I", Cond.fieldLink RX3 27 "WordsBeside" "states" "[LWordsBeside$World;", Cond.fieldLink RX3 31 "WordsBeside" "kept" "I", Cond.classLink RX3 34 RX0, Cond.fieldLink RX3 36 "WordsBeside" "claims" "[LWordsBeside$Claim;", Cond.fieldLink RX3 40 "WordsBeside" "came" "I", Cond.arrayClass .int, Cond.fieldLink RX3 43 "WordsBeside" "listedHarms" "[I", Cond.methodLink RX3 11 yX1_init, Cond.instanceMethod yX1_init, Cond.code yX1_init cX1_init 1 none, Cond.methodLink RX1 3 objectInit, Cond.fieldLink RX1 9 "WordsBeside$Code" "steps" "[I"]
def wsX3_init_r2 : List Cond := [Cond.fieldLink RX1 15 "WordsBeside$Code" "lengths" "[I", Cond.methodLink RX3 18 yX2_init, Cond.instanceMethod yX2_init, Cond.code yX2_init cX2_init 1 none, Cond.methodLink RX2 3 objectInit, Cond.fieldLink RX2 9 "WordsBeside$World" "gives" "[I"]
def wsX3_init : List Cond := .code yX3_init cX3_init 1 none :: ((wsX3_init_r1 ++ wsX3_init_r2) ++ wsX10 ++ wsX30 ++ wsX20)
def wsX3_unsettle : List Cond := .code yX3_unsettle cX3_unsettle 2 none :: ([.fieldLink RX3 23 "WordsBeside" "settled" "I", .methodLink RX3 178 Lib.Math.min.name, .static Lib.Math.min.name, .initialized "java/lang/Math", .code Lib.Math.min.name Lib.Math.min.code 2 (some .int)] ++ wsX30)
def wsX3_clear : List Cond := .code yX3_clear cX3_clear 2 (some .boolean) :: ([.fieldLink RX3 12 "WordsBeside" "code" "LWordsBeside$Code;", .methodLink RX3 47 yX3_isFunction, .static yX3_isFunction, .initialized RX3, .code yX3_isFunction cX3_isFunction 1 (some .boolean), .methodLink RX3 51 yX1_empty, .instanceMethod yX1_empty, .selects RX1 yX1_empty yX1_empty, .initialized RX1, .code yX1_empty cX1_empty 2 none, .fieldLink RX1 15 "WordsBeside$Code" "lengths" "[I", .methodLink RX3 55 yX3_unsettle, .instanceMethod yX3_unsettle, .selects RX3 yX3_unsettle yX3_unsettle, .code yX3_unsettle cX3_unsettle 2 none, .fieldLink RX3 23 "WordsBeside" "settled" "I", .methodLink RX3 178 Lib.Math.min.name, .static Lib.Math.min.name, .initialized "java/lang/Math", .code Lib.Math.min.name Lib.Math.min.code 2 (some .int)] ++ wsX30 ++ wsX10)
def wsX3_step_r1 : List Cond := [Cond.fieldLink RX3 12 "WordsBeside" "code" "LWordsBeside$Code;", Cond.methodLink RX3 47 yX3_isFunction, Cond.static yX3_isFunction, Cond.initialized RX3, Cond.code yX3_isFunction cX3_isFunction 1 (some .boolean), Cond.methodLink RX3 58 yX1_length, Cond.instanceMethod yX1_length, Cond.selects RX1 yX1_length yX1_length, Cond.initialized RX1, Cond.code yX1_length cX1_length 2 (some .int), Cond.fieldLink RX1 15 "WordsBeside$Code" "lengths" "[I", Cond.methodLink RX3 62 yX1_canStand, Cond.instanceMethod yX1_canStand, Cond.selects RX1 yX1_canStand yX1_canStand, Cond.code yX1_canStand cX1_canStand 6 (some .boolean), Cond.methodLink RX1 26 yX1_innerStepsBut, Cond.instanceMethod yX1_innerStepsBut, Cond.selects RX1 yX1_innerStepsBut yX1_innerStepsBut, Cond.code yX1_innerStepsBut cX1_innerStepsBut 5 (some .int), Cond.methodLink RX1 30 yX1_length, Cond.methodLink RX1 34 yX1_at, Cond.instanceMethod yX1_at, Cond.selects RX1 yX1_at yX1_at, Cond.code yX1_at cX1_at 3 (some .int)]
def wsX3_step_r2 : List Cond := [Cond.fieldLink RX1 9 "WordsBeside$Code" "steps" "[I", Cond.methodLink RX3 66 yX1_append, Cond.instanceMethod yX1_append, Cond.selects RX1 yX1_append yX1_append, Cond.code yX1_append cX1_append 3 none, Cond.methodLink RX1 22 yX1_put, Cond.instanceMethod yX1_put, Cond.selects RX1 yX1_put yX1_put, Cond.code yX1_put cX1_put 4 none, Cond.methodLink RX3 55 yX3_unsettle, Cond.instanceMethod yX3_unsettle, Cond.selects RX3 yX3_unsettle yX3_unsettle, Cond.code yX3_unsettle cX3_unsettle 2 none, Cond.fieldLink RX3 23 "WordsBeside" "settled" "I", Cond.methodLink RX3 178 Lib.Math.min.name, Cond.static Lib.Math.min.name, Cond.initialized "java/lang/Math", Cond.code Lib.Math.min.name Lib.Math.min.code 2 (some .int)]
def wsX3_step : List Cond := .code yX3_step cX3_step 4 (some .int) :: ((wsX3_step_r1 ++ wsX3_step_r2) ++ wsX30 ++ wsX10)
def wsX3_change_r1 : List Cond := [Cond.fieldLink RX3 12 "WordsBeside" "code" "LWordsBeside$Code;", Cond.methodLink RX3 47 yX3_isFunction, Cond.static yX3_isFunction, Cond.initialized RX3, Cond.code yX3_isFunction cX3_isFunction 1 (some .boolean), Cond.methodLink RX3 58 yX1_length, Cond.instanceMethod yX1_length, Cond.selects RX1 yX1_length yX1_length, Cond.initialized RX1, Cond.code yX1_length cX1_length 2 (some .int), Cond.fieldLink RX1 15 "WordsBeside$Code" "lengths" "[I", Cond.methodLink RX3 62 yX1_canStand, Cond.instanceMethod yX1_canStand, Cond.selects RX1 yX1_canStand yX1_canStand, Cond.code yX1_canStand cX1_canStand 6 (some .boolean), Cond.methodLink RX1 26 yX1_innerStepsBut, Cond.instanceMethod yX1_innerStepsBut, Cond.selects RX1 yX1_innerStepsBut yX1_innerStepsBut, Cond.code yX1_innerStepsBut cX1_innerStepsBut 5 (some .int), Cond.methodLink RX1 30 yX1_length, Cond.methodLink RX1 34 yX1_at, Cond.instanceMethod yX1_at, Cond.selects RX1 yX1_at yX1_at, Cond.code yX1_at cX1_at 3 (some .int)]
def wsX3_change_r2 : List Cond := [Cond.fieldLink RX1 9 "WordsBeside$Code" "steps" "[I", Cond.methodLink RX3 70 yX1_put, Cond.instanceMethod yX1_put, Cond.selects RX1 yX1_put yX1_put, Cond.code yX1_put cX1_put 4 none, Cond.methodLink RX3 55 yX3_unsettle, Cond.instanceMethod yX3_unsettle, Cond.selects RX3 yX3_unsettle yX3_unsettle, Cond.code yX3_unsettle cX3_unsettle 2 none, Cond.fieldLink RX3 23 "WordsBeside" "settled" "I", Cond.methodLink RX3 178 Lib.Math.min.name, Cond.static Lib.Math.min.name, Cond.initialized "java/lang/Math", Cond.code Lib.Math.min.name Lib.Math.min.code 2 (some .int)]
def wsX3_change : List Cond := .code yX3_change cX3_change 4 (some .boolean) :: ((wsX3_change_r1 ++ wsX3_change_r2) ++ wsX30 ++ wsX10)
def wsX3_present_r1 : List Cond := [Cond.fieldLink RX3 23 "WordsBeside" "settled" "I", Cond.fieldLink RX3 12 "WordsBeside" "code" "LWordsBeside$Code;", Cond.fieldLink RX3 19 "WordsBeside" "now" "LWordsBeside$World;", Cond.methodLink RX3 183 yX1_runAll, Cond.instanceMethod yX1_runAll, Cond.selects RX1 yX1_runAll yX1_runAll, Cond.initialized RX1, Cond.code yX1_runAll cX1_runAll 4 none, Cond.methodLink RX1 37 yX1_goThrough, Cond.instanceMethod yX1_goThrough, Cond.selects RX1 yX1_goThrough yX1_goThrough, Cond.code yX1_goThrough cX1_goThrough 9 (some .int), Cond.constant RX1 51 (-2147483648), Cond.methodLink RX1 30 yX1_length, Cond.instanceMethod yX1_length, Cond.selects RX1 yX1_length yX1_length, Cond.code yX1_length cX1_length 2 (some .int), Cond.fieldLink RX1 15 "WordsBeside$Code" "lengths" "[I", Cond.static yX3_isFunction, Cond.initialized RX3, Cond.code yX3_isFunction cX3_isFunction 1 (some .boolean), Cond.methodLink RX1 34 yX1_at, Cond.instanceMethod yX1_at, Cond.selects RX1 yX1_at yX1_at]
def wsX3_present_r2 : List Cond := [Cond.code yX1_at cX1_at 3 (some .int), Cond.fieldLink RX1 9 "WordsBeside$Code" "steps" "[I", Cond.methodLink RX1 44 yX1_after, Cond.static yX1_after, Cond.code yX1_after cX1_after 6 (some .int), Cond.methodLink RX1 52 Lib.Math.min.name, Cond.static Lib.Math.min.name, Cond.initialized "java/lang/Math", Cond.code Lib.Math.min.name Lib.Math.min.code 2 (some .int), Cond.methodLink RX1 57 Lib.Math.max.name, Cond.static Lib.Math.max.name, Cond.code Lib.Math.max.name Lib.Math.max.code 2 (some .int), Cond.methodLink RX1 60 yX2_given, Cond.instanceMethod yX2_given, Cond.selects RX2 yX2_given yX2_given, Cond.initialized RX2, Cond.code yX2_given cX2_given 3 (some .int), Cond.constant RX2 29 (-2147483648), Cond.fieldLink RX2 9 "WordsBeside$World" "gives" "[I", Cond.methodLink RX1 63 yJ9_floorMod_7cf53, Cond.static yJ9_floorMod_7cf53, Cond.initialized RJ9, Cond.code yJ9_floorMod_7cf53 cJ9_floorMod_7cf53 3 (some .int), Cond.static yX3_isWithinLimit]
def wsX3_present_r3 : List Cond := [Cond.code yX3_isWithinLimit cX3_isWithinLimit 1 (some .boolean), Cond.constant RX3 170 (-1000000), Cond.constant RX3 171 (1000000), Cond.methodLink RX1 41 yX2_put, Cond.instanceMethod yX2_put, Cond.selects RX2 yX2_put yX2_put, Cond.code yX2_put cX2_put 4 none, Cond.static yX3_isRun, Cond.code yX3_isRun cX3_isRun 1 (some .boolean)]
def wsX3_present : List Cond := .code yX3_present cX3_present 2 (some (.object "WordsBeside$World")) :: ((wsX3_present_r1 ++ (wsX3_present_r2 ++ wsX3_present_r3)) ++ wsX30 ++ wsX10 ++ wsX20)
def wsX3_runNumber : List Cond := .code yX3_runNumber cX3_runNumber 2 (some .int) :: ([])
def wsX3_run_r1 : List Cond := [Cond.methodLink RX3 74 yX3_present, Cond.instanceMethod yX3_present, Cond.selects RX3 yX3_present yX3_present, Cond.initialized RX3, Cond.code yX3_present cX3_present 2 (some (.object "WordsBeside$World")), Cond.fieldLink RX3 23 "WordsBeside" "settled" "I", Cond.fieldLink RX3 12 "WordsBeside" "code" "LWordsBeside$Code;", Cond.fieldLink RX3 19 "WordsBeside" "now" "LWordsBeside$World;", Cond.methodLink RX3 183 yX1_runAll, Cond.instanceMethod yX1_runAll, Cond.selects RX1 yX1_runAll yX1_runAll, Cond.initialized RX1, Cond.code yX1_runAll cX1_runAll 4 none, Cond.methodLink RX1 37 yX1_goThrough, Cond.instanceMethod yX1_goThrough, Cond.selects RX1 yX1_goThrough yX1_goThrough, Cond.code yX1_goThrough cX1_goThrough 9 (some .int), Cond.constant RX1 51 (-2147483648), Cond.methodLink RX1 30 yX1_length, Cond.instanceMethod yX1_length, Cond.selects RX1 yX1_length yX1_length, Cond.code yX1_length cX1_length 2 (some .int), Cond.fieldLink RX1 15 "WordsBeside$Code" "lengths" "[I", Cond.static yX3_isFunction]
def wsX3_run_r2 : List Cond := [Cond.code yX3_isFunction cX3_isFunction 1 (some .boolean), Cond.methodLink RX1 34 yX1_at, Cond.instanceMethod yX1_at, Cond.selects RX1 yX1_at yX1_at, Cond.code yX1_at cX1_at 3 (some .int), Cond.fieldLink RX1 9 "WordsBeside$Code" "steps" "[I", Cond.methodLink RX1 44 yX1_after, Cond.static yX1_after, Cond.code yX1_after cX1_after 6 (some .int), Cond.methodLink RX1 52 Lib.Math.min.name, Cond.static Lib.Math.min.name, Cond.initialized "java/lang/Math", Cond.code Lib.Math.min.name Lib.Math.min.code 2 (some .int), Cond.methodLink RX1 57 Lib.Math.max.name, Cond.static Lib.Math.max.name, Cond.code Lib.Math.max.name Lib.Math.max.code 2 (some .int), Cond.methodLink RX1 60 yX2_given, Cond.instanceMethod yX2_given, Cond.selects RX2 yX2_given yX2_given, Cond.initialized RX2, Cond.code yX2_given cX2_given 3 (some .int), Cond.constant RX2 29 (-2147483648), Cond.fieldLink RX2 9 "WordsBeside$World" "gives" "[I", Cond.methodLink RX1 63 yJ9_floorMod_7cf53]
def wsX3_run_r3 : List Cond := [Cond.static yJ9_floorMod_7cf53, Cond.initialized RJ9, Cond.code yJ9_floorMod_7cf53 cJ9_floorMod_7cf53 3 (some .int), Cond.static yX3_isWithinLimit, Cond.code yX3_isWithinLimit cX3_isWithinLimit 1 (some .boolean), Cond.constant RX3 170 (-1000000), Cond.constant RX3 171 (1000000), Cond.methodLink RX1 41 yX2_put, Cond.instanceMethod yX2_put, Cond.selects RX2 yX2_put yX2_put, Cond.code yX2_put cX2_put 4 none, Cond.static yX3_isRun, Cond.code yX3_isRun cX3_isRun 1 (some .boolean), Cond.methodLink RX3 78 yX3_runNumber, Cond.static yX3_runNumber, Cond.code yX3_runNumber cX3_runNumber 2 (some .int), Cond.methodLink RX3 82 yX2_given]
def wsX3_run : List Cond := .code yX3_run cX3_run 4 (some .int) :: ((wsX3_run_r1 ++ (wsX3_run_r2 ++ wsX3_run_r3)) ++ wsX30 ++ wsX10 ++ wsX20)
def wsX3_keep_r1 : List Cond := [Cond.fieldLink RX3 31 "WordsBeside" "kept" "I", Cond.fieldLink RX3 27 "WordsBeside" "states" "[LWordsBeside$World;", Cond.fieldLink RX3 40 "WordsBeside" "came" "I", Cond.fieldLink RX3 36 "WordsBeside" "claims" "[LWordsBeside$Claim;", Cond.fieldLink RX3 92 "WordsBeside$Claim" "lastHeld" "I", Cond.methodLink RX3 74 yX3_present, Cond.instanceMethod yX3_present, Cond.selects RX3 yX3_present yX3_present, Cond.initialized RX3, Cond.code yX3_present cX3_present 2 (some (.object "WordsBeside$World")), Cond.fieldLink RX3 23 "WordsBeside" "settled" "I", Cond.fieldLink RX3 12 "WordsBeside" "code" "LWordsBeside$Code;", Cond.fieldLink RX3 19 "WordsBeside" "now" "LWordsBeside$World;", Cond.methodLink RX3 183 yX1_runAll, Cond.instanceMethod yX1_runAll, Cond.selects RX1 yX1_runAll yX1_runAll, Cond.initialized RX1, Cond.code yX1_runAll cX1_runAll 4 none, Cond.methodLink RX1 37 yX1_goThrough, Cond.instanceMethod yX1_goThrough, Cond.selects RX1 yX1_goThrough yX1_goThrough, Cond.code yX1_goThrough cX1_goThrough 9 (some .int), Cond.constant RX1 51 (-2147483648), Cond.methodLink RX1 30 yX1_length]
def wsX3_keep_r2 : List Cond := [Cond.instanceMethod yX1_length, Cond.selects RX1 yX1_length yX1_length, Cond.code yX1_length cX1_length 2 (some .int), Cond.fieldLink RX1 15 "WordsBeside$Code" "lengths" "[I", Cond.static yX3_isFunction, Cond.code yX3_isFunction cX3_isFunction 1 (some .boolean), Cond.methodLink RX1 34 yX1_at, Cond.instanceMethod yX1_at, Cond.selects RX1 yX1_at yX1_at, Cond.code yX1_at cX1_at 3 (some .int), Cond.fieldLink RX1 9 "WordsBeside$Code" "steps" "[I", Cond.methodLink RX1 44 yX1_after, Cond.static yX1_after, Cond.code yX1_after cX1_after 6 (some .int), Cond.methodLink RX1 52 Lib.Math.min.name, Cond.static Lib.Math.min.name, Cond.initialized "java/lang/Math", Cond.code Lib.Math.min.name Lib.Math.min.code 2 (some .int), Cond.methodLink RX1 57 Lib.Math.max.name, Cond.static Lib.Math.max.name, Cond.code Lib.Math.max.name Lib.Math.max.code 2 (some .int), Cond.methodLink RX1 60 yX2_given, Cond.instanceMethod yX2_given, Cond.selects RX2 yX2_given yX2_given]
def wsX3_keep_r3 : List Cond := [Cond.initialized RX2, Cond.code yX2_given cX2_given 3 (some .int), Cond.constant RX2 29 (-2147483648), Cond.fieldLink RX2 9 "WordsBeside$World" "gives" "[I", Cond.methodLink RX1 63 yJ9_floorMod_7cf53, Cond.static yJ9_floorMod_7cf53, Cond.initialized RJ9, Cond.code yJ9_floorMod_7cf53 cJ9_floorMod_7cf53 3 (some .int), Cond.static yX3_isWithinLimit, Cond.code yX3_isWithinLimit cX3_isWithinLimit 1 (some .boolean), Cond.constant RX3 170 (-1000000), Cond.constant RX3 171 (1000000), Cond.methodLink RX1 41 yX2_put, Cond.instanceMethod yX2_put, Cond.selects RX2 yX2_put yX2_put, Cond.code yX2_put cX2_put 4 none, Cond.static yX3_isRun, Cond.code yX3_isRun cX3_isRun 1 (some .boolean), Cond.methodLink RX3 85 yX2_copy, Cond.instanceMethod yX2_copy, Cond.selects RX2 yX2_copy yX2_copy, Cond.code yX2_copy cX2_copy 2 (some (.object "WordsBeside$World")), Cond.classLink RX2 10 RX2, Cond.instantiable RX2 1]
def wsX3_keep_r4 : List Cond := [Cond.methodLink RX2 16 arraycopyName, Cond.native arraycopyName, Cond.static arraycopyName, Cond.initialized "java/lang/System", Cond.methodLink RX2 15 yX2_init, Cond.instanceMethod yX2_init, Cond.code yX2_init cX2_init 1 none, Cond.methodLink RX2 3 objectInit, Cond.instanceMethod objectInit, Cond.code objectInit ⟨#[0xb1]⟩ 1 none, Cond.arrayClass .int, Cond.methodLink RX3 88 yX0_isHeldIn, Cond.instanceMethod yX0_isHeldIn, Cond.selects RX0 yX0_isHeldIn yX0_isHeldIn, Cond.initialized RX0, Cond.code yX0_isHeldIn cX0_isHeldIn 2 (some .boolean), Cond.methodLink RX0 34 yX0_firstDenialIn, Cond.instanceMethod yX0_firstDenialIn, Cond.selects RX0 yX0_firstDenialIn yX0_firstDenialIn, Cond.code yX0_firstDenialIn cX0_firstDenialIn 3 (some .int), Cond.methodLink RX0 38 yX0_isDeniedBy, Cond.instanceMethod yX0_isDeniedBy, Cond.selects RX0 yX0_isDeniedBy yX0_isDeniedBy, Cond.code yX0_isDeniedBy cX0_isDeniedBy 8 (some .boolean)]
def wsX3_keep_r5 : List Cond := [Cond.fieldLink RX0 9 "WordsBeside$Claim" "function" "I", Cond.constant RX0 48 (-2147483648), Cond.fieldLink RX0 15 "WordsBeside$Claim" "kind" "I", Cond.fieldLink RX0 18 "WordsBeside$Claim" "p" "I", Cond.fieldLink RX0 21 "WordsBeside$Claim" "q" "I", Cond.methodLink RX0 42 yX2_given]
def wsX3_keep : List Cond := .code yX3_keep cX3_keep 4 (some .int) :: ((wsX3_keep_r1 ++ (wsX3_keep_r2 ++ (wsX3_keep_r3 ++ (wsX3_keep_r4 ++ wsX3_keep_r5)))) ++ wsX30 ++ wsX00 ++ wsX10 ++ wsX20)
def wsX3_keptState : List Cond := .code yX3_keptState cX3_keptState 2 (some (.object "WordsBeside$World")) :: ([.fieldLink RX3 31 "WordsBeside" "kept" "I", .fieldLink RX3 27 "WordsBeside" "states" "[LWordsBeside$World;"] ++ wsX30)
def wsX3_was : List Cond := .code yX3_was cX3_was 6 (some .int) :: ([.constant RX3 99 (-2147483648), .methodLink RX3 95 yX3_keptState, .instanceMethod yX3_keptState, .selects RX3 yX3_keptState yX3_keptState, .initialized RX3, .code yX3_keptState cX3_keptState 2 (some (.object "WordsBeside$World")), .fieldLink RX3 31 "WordsBeside" "kept" "I", .fieldLink RX3 27 "WordsBeside" "states" "[LWordsBeside$World;", .methodLink RX3 78 yX3_runNumber, .static yX3_runNumber, .code yX3_runNumber cX3_runNumber 2 (some .int), .methodLink RX3 82 yX2_given, .instanceMethod yX2_given, .selects RX2 yX2_given yX2_given, .initialized RX2, .code yX2_given cX2_given 3 (some .int), .constant RX2 29 (-2147483648), .fieldLink RX2 9 "WordsBeside$World" "gives" "[I"] ++ wsX30 ++ wsX20)
def wsX3_canBeClaimed : List Cond := .code yX3_canBeClaimed cX3_canBeClaimed 3 (some .boolean) :: ([.methodLink RX3 172 yX3_isWithinLimit, .static yX3_isWithinLimit, .initialized RX3, .code yX3_isWithinLimit cX3_isWithinLimit 1 (some .boolean), .constant RX3 170 (-1000000), .constant RX3 171 (1000000), .methodLink RX3 175 yX3_isRun, .static yX3_isRun, .code yX3_isRun cX3_isRun 1 (some .boolean), .methodLink RX3 47 yX3_isFunction, .static yX3_isFunction, .code yX3_isFunction cX3_isFunction 1 (some .boolean)])
def wsX3_lastKeptHolding_r1 : List Cond := [Cond.fieldLink RX3 31 "WordsBeside" "kept" "I", Cond.fieldLink RX3 187 "WordsBeside$Claim" "born" "I", Cond.methodLink RX3 95 yX3_keptState, Cond.instanceMethod yX3_keptState, Cond.selects RX3 yX3_keptState yX3_keptState, Cond.initialized RX3, Cond.code yX3_keptState cX3_keptState 2 (some (.object "WordsBeside$World")), Cond.fieldLink RX3 27 "WordsBeside" "states" "[LWordsBeside$World;", Cond.methodLink RX3 88 yX0_isHeldIn, Cond.instanceMethod yX0_isHeldIn, Cond.selects RX0 yX0_isHeldIn yX0_isHeldIn, Cond.initialized RX0, Cond.code yX0_isHeldIn cX0_isHeldIn 2 (some .boolean), Cond.methodLink RX0 34 yX0_firstDenialIn, Cond.instanceMethod yX0_firstDenialIn, Cond.selects RX0 yX0_firstDenialIn yX0_firstDenialIn, Cond.code yX0_firstDenialIn cX0_firstDenialIn 3 (some .int), Cond.methodLink RX0 38 yX0_isDeniedBy, Cond.instanceMethod yX0_isDeniedBy, Cond.selects RX0 yX0_isDeniedBy yX0_isDeniedBy, Cond.code yX0_isDeniedBy cX0_isDeniedBy 8 (some .boolean), Cond.fieldLink RX0 9 "WordsBeside$Claim" "function" "I", Cond.constant RX0 48 (-2147483648), Cond.fieldLink RX0 15 "WordsBeside$Claim" "kind" "I"]
def wsX3_lastKeptHolding_r2 : List Cond := [Cond.fieldLink RX0 18 "WordsBeside$Claim" "p" "I", Cond.fieldLink RX0 21 "WordsBeside$Claim" "q" "I", Cond.methodLink RX0 42 yX2_given, Cond.instanceMethod yX2_given, Cond.selects RX2 yX2_given yX2_given, Cond.initialized RX2, Cond.code yX2_given cX2_given 3 (some .int), Cond.constant RX2 29 (-2147483648), Cond.fieldLink RX2 9 "WordsBeside$World" "gives" "[I"]
def wsX3_lastKeptHolding : List Cond := .code yX3_lastKeptHolding cX3_lastKeptHolding 4 (some .int) :: ((wsX3_lastKeptHolding_r1 ++ wsX3_lastKeptHolding_r2) ++ wsX30 ++ wsX00 ++ wsX20)
def wsX3_claim_r1 : List Cond := [Cond.fieldLink RX3 40 "WordsBeside" "came" "I", Cond.classLink RX3 34 RX0, Cond.instantiable RX0 7, Cond.initialized RX0, Cond.fieldLink RX3 31 "WordsBeside" "kept" "I", Cond.fieldLink RX3 92 "WordsBeside$Claim" "lastHeld" "I", Cond.fieldLink RX3 36 "WordsBeside" "claims" "[LWordsBeside$Claim;", Cond.methodLink RX3 47 yX3_isFunction, Cond.static yX3_isFunction, Cond.initialized RX3, Cond.code yX3_isFunction cX3_isFunction 1 (some .boolean), Cond.methodLink RX3 100 yX3_canBeClaimed, Cond.static yX3_canBeClaimed, Cond.code yX3_canBeClaimed cX3_canBeClaimed 3 (some .boolean), Cond.methodLink RX3 172 yX3_isWithinLimit, Cond.static yX3_isWithinLimit, Cond.code yX3_isWithinLimit cX3_isWithinLimit 1 (some .boolean), Cond.constant RX3 170 (-1000000), Cond.constant RX3 171 (1000000), Cond.methodLink RX3 175 yX3_isRun, Cond.static yX3_isRun, Cond.code yX3_isRun cX3_isRun 1 (some .boolean), Cond.methodLink RX3 103 yX0_init, Cond.instanceMethod yX0_init]
def wsX3_claim_r2 : List Cond := [Cond.code yX0_init cX0_init 6 none, Cond.methodLink RX0 3 objectInit, Cond.instanceMethod objectInit, Cond.code objectInit ⟨#[0xb1]⟩ 1 none, Cond.fieldLink RX0 9 "WordsBeside$Claim" "function" "I", Cond.fieldLink RX0 15 "WordsBeside$Claim" "kind" "I", Cond.fieldLink RX0 18 "WordsBeside$Claim" "p" "I", Cond.fieldLink RX0 21 "WordsBeside$Claim" "q" "I", Cond.fieldLink RX0 24 "WordsBeside$Claim" "born" "I", Cond.fieldLink RX0 27 "WordsBeside$Claim" "lastHeld" "I", Cond.fieldLink RX0 30 "WordsBeside$Claim" "marked" "Z", Cond.methodLink RX3 106 yX3_lastKeptHolding, Cond.instanceMethod yX3_lastKeptHolding, Cond.selects RX3 yX3_lastKeptHolding yX3_lastKeptHolding, Cond.code yX3_lastKeptHolding cX3_lastKeptHolding 4 (some .int), Cond.fieldLink RX3 187 "WordsBeside$Claim" "born" "I", Cond.methodLink RX3 95 yX3_keptState, Cond.instanceMethod yX3_keptState, Cond.selects RX3 yX3_keptState yX3_keptState, Cond.code yX3_keptState cX3_keptState 2 (some (.object "WordsBeside$World")), Cond.fieldLink RX3 27 "WordsBeside" "states" "[LWordsBeside$World;", Cond.methodLink RX3 88 yX0_isHeldIn, Cond.instanceMethod yX0_isHeldIn, Cond.selects RX0 yX0_isHeldIn yX0_isHeldIn]
def wsX3_claim_r3 : List Cond := [Cond.code yX0_isHeldIn cX0_isHeldIn 2 (some .boolean), Cond.methodLink RX0 34 yX0_firstDenialIn, Cond.instanceMethod yX0_firstDenialIn, Cond.selects RX0 yX0_firstDenialIn yX0_firstDenialIn, Cond.code yX0_firstDenialIn cX0_firstDenialIn 3 (some .int), Cond.methodLink RX0 38 yX0_isDeniedBy, Cond.instanceMethod yX0_isDeniedBy, Cond.selects RX0 yX0_isDeniedBy yX0_isDeniedBy, Cond.code yX0_isDeniedBy cX0_isDeniedBy 8 (some .boolean), Cond.constant RX0 48 (-2147483648), Cond.methodLink RX0 42 yX2_given, Cond.instanceMethod yX2_given, Cond.selects RX2 yX2_given yX2_given, Cond.initialized RX2, Cond.code yX2_given cX2_given 3 (some .int), Cond.constant RX2 29 (-2147483648), Cond.fieldLink RX2 9 "WordsBeside$World" "gives" "[I"]
def wsX3_claim : List Cond := .code yX3_claim cX3_claim 6 (some .int) :: ((wsX3_claim_r1 ++ (wsX3_claim_r2 ++ wsX3_claim_r3)) ++ wsX30 ++ wsX00 ++ wsX20)
def wsX3_claimAt : List Cond := .code yX3_claimAt cX3_claimAt 2 (some (.object "WordsBeside$Claim")) :: ([.fieldLink RX3 40 "WordsBeside" "came" "I", .fieldLink RX3 36 "WordsBeside" "claims" "[LWordsBeside$Claim;"] ++ wsX30)
def wsX3_standing_r1 : List Cond := [Cond.fieldLink RX3 92 "WordsBeside$Claim" "lastHeld" "I", Cond.methodLink RX3 88 yX0_isHeldIn, Cond.instanceMethod yX0_isHeldIn, Cond.selects RX0 yX0_isHeldIn yX0_isHeldIn, Cond.initialized RX0, Cond.code yX0_isHeldIn cX0_isHeldIn 2 (some .boolean), Cond.methodLink RX0 34 yX0_firstDenialIn, Cond.instanceMethod yX0_firstDenialIn, Cond.selects RX0 yX0_firstDenialIn yX0_firstDenialIn, Cond.code yX0_firstDenialIn cX0_firstDenialIn 3 (some .int), Cond.methodLink RX0 38 yX0_isDeniedBy, Cond.instanceMethod yX0_isDeniedBy, Cond.selects RX0 yX0_isDeniedBy yX0_isDeniedBy, Cond.code yX0_isDeniedBy cX0_isDeniedBy 8 (some .boolean), Cond.fieldLink RX0 9 "WordsBeside$Claim" "function" "I", Cond.constant RX0 48 (-2147483648), Cond.fieldLink RX0 15 "WordsBeside$Claim" "kind" "I", Cond.fieldLink RX0 18 "WordsBeside$Claim" "p" "I", Cond.fieldLink RX0 21 "WordsBeside$Claim" "q" "I", Cond.methodLink RX0 42 yX2_given, Cond.instanceMethod yX2_given, Cond.selects RX2 yX2_given yX2_given, Cond.initialized RX2, Cond.code yX2_given cX2_given 3 (some .int)]
def wsX3_standing_r2 : List Cond := [Cond.constant RX2 29 (-2147483648), Cond.fieldLink RX2 9 "WordsBeside$World" "gives" "[I"]
def wsX3_standing : List Cond := .code yX3_standing cX3_standing 2 (some .int) :: ((wsX3_standing_r1 ++ wsX3_standing_r2) ++ wsX00 ++ wsX20)
def wsX3_told_r1 : List Cond := [Cond.constant RX3 99 (-2147483648), Cond.fieldLink RX3 118 "WordsBeside$Claim" "function" "I", Cond.fieldLink RX3 121 "WordsBeside$Claim" "kind" "I", Cond.fieldLink RX3 124 "WordsBeside$Claim" "p" "I", Cond.fieldLink RX3 127 "WordsBeside$Claim" "q" "I", Cond.fieldLink RX3 92 "WordsBeside$Claim" "lastHeld" "I", Cond.fieldLink RX3 134 "WordsBeside$Claim" "marked" "Z", Cond.methodLink RX3 110 yX3_claimAt, Cond.instanceMethod yX3_claimAt, Cond.selects RX3 yX3_claimAt yX3_claimAt, Cond.initialized RX3, Cond.code yX3_claimAt cX3_claimAt 2 (some (.object "WordsBeside$Claim")), Cond.fieldLink RX3 40 "WordsBeside" "came" "I", Cond.fieldLink RX3 36 "WordsBeside" "claims" "[LWordsBeside$Claim;", Cond.methodLink RX3 74 yX3_present, Cond.instanceMethod yX3_present, Cond.selects RX3 yX3_present yX3_present, Cond.code yX3_present cX3_present 2 (some (.object "WordsBeside$World")), Cond.fieldLink RX3 23 "WordsBeside" "settled" "I", Cond.fieldLink RX3 12 "WordsBeside" "code" "LWordsBeside$Code;", Cond.fieldLink RX3 19 "WordsBeside" "now" "LWordsBeside$World;", Cond.methodLink RX3 183 yX1_runAll, Cond.instanceMethod yX1_runAll, Cond.selects RX1 yX1_runAll yX1_runAll]
def wsX3_told_r2 : List Cond := [Cond.initialized RX1, Cond.code yX1_runAll cX1_runAll 4 none, Cond.methodLink RX1 37 yX1_goThrough, Cond.instanceMethod yX1_goThrough, Cond.selects RX1 yX1_goThrough yX1_goThrough, Cond.code yX1_goThrough cX1_goThrough 9 (some .int), Cond.constant RX1 51 (-2147483648), Cond.methodLink RX1 30 yX1_length, Cond.instanceMethod yX1_length, Cond.selects RX1 yX1_length yX1_length, Cond.code yX1_length cX1_length 2 (some .int), Cond.fieldLink RX1 15 "WordsBeside$Code" "lengths" "[I", Cond.static yX3_isFunction, Cond.code yX3_isFunction cX3_isFunction 1 (some .boolean), Cond.methodLink RX1 34 yX1_at, Cond.instanceMethod yX1_at, Cond.selects RX1 yX1_at yX1_at, Cond.code yX1_at cX1_at 3 (some .int), Cond.fieldLink RX1 9 "WordsBeside$Code" "steps" "[I", Cond.methodLink RX1 44 yX1_after, Cond.static yX1_after, Cond.code yX1_after cX1_after 6 (some .int), Cond.methodLink RX1 52 Lib.Math.min.name, Cond.static Lib.Math.min.name]
def wsX3_told_r3 : List Cond := [Cond.initialized "java/lang/Math", Cond.code Lib.Math.min.name Lib.Math.min.code 2 (some .int), Cond.methodLink RX1 57 Lib.Math.max.name, Cond.static Lib.Math.max.name, Cond.code Lib.Math.max.name Lib.Math.max.code 2 (some .int), Cond.methodLink RX1 60 yX2_given, Cond.instanceMethod yX2_given, Cond.selects RX2 yX2_given yX2_given, Cond.initialized RX2, Cond.code yX2_given cX2_given 3 (some .int), Cond.constant RX2 29 (-2147483648), Cond.fieldLink RX2 9 "WordsBeside$World" "gives" "[I", Cond.methodLink RX1 63 yJ9_floorMod_7cf53, Cond.static yJ9_floorMod_7cf53, Cond.initialized RJ9, Cond.code yJ9_floorMod_7cf53 cJ9_floorMod_7cf53 3 (some .int), Cond.static yX3_isWithinLimit, Cond.code yX3_isWithinLimit cX3_isWithinLimit 1 (some .boolean), Cond.constant RX3 170 (-1000000), Cond.constant RX3 171 (1000000), Cond.methodLink RX1 41 yX2_put, Cond.instanceMethod yX2_put, Cond.selects RX2 yX2_put yX2_put, Cond.code yX2_put cX2_put 4 none]
def wsX3_told_r4 : List Cond := [Cond.static yX3_isRun, Cond.code yX3_isRun cX3_isRun 1 (some .boolean), Cond.methodLink RX3 114 yX3_standing, Cond.static yX3_standing, Cond.code yX3_standing cX3_standing 2 (some .int), Cond.methodLink RX3 88 yX0_isHeldIn, Cond.instanceMethod yX0_isHeldIn, Cond.selects RX0 yX0_isHeldIn yX0_isHeldIn, Cond.initialized RX0, Cond.code yX0_isHeldIn cX0_isHeldIn 2 (some .boolean), Cond.methodLink RX0 34 yX0_firstDenialIn, Cond.instanceMethod yX0_firstDenialIn, Cond.selects RX0 yX0_firstDenialIn yX0_firstDenialIn, Cond.code yX0_firstDenialIn cX0_firstDenialIn 3 (some .int), Cond.methodLink RX0 38 yX0_isDeniedBy, Cond.instanceMethod yX0_isDeniedBy, Cond.selects RX0 yX0_isDeniedBy yX0_isDeniedBy, Cond.code yX0_isDeniedBy cX0_isDeniedBy 8 (some .boolean), Cond.fieldLink RX0 9 "WordsBeside$Claim" "function" "I", Cond.constant RX0 48 (-2147483648), Cond.fieldLink RX0 15 "WordsBeside$Claim" "kind" "I", Cond.fieldLink RX0 18 "WordsBeside$Claim" "p" "I", Cond.fieldLink RX0 21 "WordsBeside$Claim" "q" "I", Cond.methodLink RX0 42 yX2_given]
def wsX3_told_r5 : List Cond := [Cond.methodLink RX3 130 yX0_harmIn, Cond.instanceMethod yX0_harmIn, Cond.selects RX0 yX0_harmIn yX0_harmIn, Cond.code yX0_harmIn cX0_harmIn 4 (some .int)]
def wsX3_told : List Cond := .code yX3_told cX3_told 4 (some .int) :: ((wsX3_told_r1 ++ (wsX3_told_r2 ++ (wsX3_told_r3 ++ (wsX3_told_r4 ++ wsX3_told_r5)))) ++ wsX00 ++ wsX30 ++ wsX10 ++ wsX20)
def wsX3_denied_r1 : List Cond := [Cond.methodLink RX3 110 yX3_claimAt, Cond.instanceMethod yX3_claimAt, Cond.selects RX3 yX3_claimAt yX3_claimAt, Cond.initialized RX3, Cond.code yX3_claimAt cX3_claimAt 2 (some (.object "WordsBeside$Claim")), Cond.fieldLink RX3 40 "WordsBeside" "came" "I", Cond.fieldLink RX3 36 "WordsBeside" "claims" "[LWordsBeside$Claim;", Cond.methodLink RX3 74 yX3_present, Cond.instanceMethod yX3_present, Cond.selects RX3 yX3_present yX3_present, Cond.code yX3_present cX3_present 2 (some (.object "WordsBeside$World")), Cond.fieldLink RX3 23 "WordsBeside" "settled" "I", Cond.fieldLink RX3 12 "WordsBeside" "code" "LWordsBeside$Code;", Cond.fieldLink RX3 19 "WordsBeside" "now" "LWordsBeside$World;", Cond.methodLink RX3 183 yX1_runAll, Cond.instanceMethod yX1_runAll, Cond.selects RX1 yX1_runAll yX1_runAll, Cond.initialized RX1, Cond.code yX1_runAll cX1_runAll 4 none, Cond.methodLink RX1 37 yX1_goThrough, Cond.instanceMethod yX1_goThrough, Cond.selects RX1 yX1_goThrough yX1_goThrough, Cond.code yX1_goThrough cX1_goThrough 9 (some .int), Cond.constant RX1 51 (-2147483648)]
def wsX3_denied_r2 : List Cond := [Cond.methodLink RX1 30 yX1_length, Cond.instanceMethod yX1_length, Cond.selects RX1 yX1_length yX1_length, Cond.code yX1_length cX1_length 2 (some .int), Cond.fieldLink RX1 15 "WordsBeside$Code" "lengths" "[I", Cond.static yX3_isFunction, Cond.code yX3_isFunction cX3_isFunction 1 (some .boolean), Cond.methodLink RX1 34 yX1_at, Cond.instanceMethod yX1_at, Cond.selects RX1 yX1_at yX1_at, Cond.code yX1_at cX1_at 3 (some .int), Cond.fieldLink RX1 9 "WordsBeside$Code" "steps" "[I", Cond.methodLink RX1 44 yX1_after, Cond.static yX1_after, Cond.code yX1_after cX1_after 6 (some .int), Cond.methodLink RX1 52 Lib.Math.min.name, Cond.static Lib.Math.min.name, Cond.initialized "java/lang/Math", Cond.code Lib.Math.min.name Lib.Math.min.code 2 (some .int), Cond.methodLink RX1 57 Lib.Math.max.name, Cond.static Lib.Math.max.name, Cond.code Lib.Math.max.name Lib.Math.max.code 2 (some .int), Cond.methodLink RX1 60 yX2_given, Cond.instanceMethod yX2_given]
def wsX3_denied_r3 : List Cond := [Cond.selects RX2 yX2_given yX2_given, Cond.initialized RX2, Cond.code yX2_given cX2_given 3 (some .int), Cond.constant RX2 29 (-2147483648), Cond.fieldLink RX2 9 "WordsBeside$World" "gives" "[I", Cond.methodLink RX1 63 yJ9_floorMod_7cf53, Cond.static yJ9_floorMod_7cf53, Cond.initialized RJ9, Cond.code yJ9_floorMod_7cf53 cJ9_floorMod_7cf53 3 (some .int), Cond.static yX3_isWithinLimit, Cond.code yX3_isWithinLimit cX3_isWithinLimit 1 (some .boolean), Cond.constant RX3 170 (-1000000), Cond.constant RX3 171 (1000000), Cond.methodLink RX1 41 yX2_put, Cond.instanceMethod yX2_put, Cond.selects RX2 yX2_put yX2_put, Cond.code yX2_put cX2_put 4 none, Cond.static yX3_isRun, Cond.code yX3_isRun cX3_isRun 1 (some .boolean), Cond.methodLink RX3 138 yX0_firstDenialIn, Cond.instanceMethod yX0_firstDenialIn, Cond.selects RX0 yX0_firstDenialIn yX0_firstDenialIn, Cond.initialized RX0, Cond.code yX0_firstDenialIn cX0_firstDenialIn 3 (some .int)]
def wsX3_denied_r4 : List Cond := [Cond.methodLink RX0 38 yX0_isDeniedBy, Cond.instanceMethod yX0_isDeniedBy, Cond.selects RX0 yX0_isDeniedBy yX0_isDeniedBy, Cond.code yX0_isDeniedBy cX0_isDeniedBy 8 (some .boolean), Cond.fieldLink RX0 9 "WordsBeside$Claim" "function" "I", Cond.constant RX0 48 (-2147483648), Cond.fieldLink RX0 15 "WordsBeside$Claim" "kind" "I", Cond.fieldLink RX0 18 "WordsBeside$Claim" "p" "I", Cond.fieldLink RX0 21 "WordsBeside$Claim" "q" "I", Cond.methodLink RX0 42 yX2_given]
def wsX3_denied : List Cond := .code yX3_denied cX3_denied 3 (some .int) :: ((wsX3_denied_r1 ++ (wsX3_denied_r2 ++ (wsX3_denied_r3 ++ wsX3_denied_r4))) ++ wsX30 ++ wsX10 ++ wsX20 ++ wsX00)
def wsX3_firstMend_r1 : List Cond := [Cond.fieldLink RX3 121 "WordsBeside$Claim" "kind" "I", Cond.fieldLink RX3 118 "WordsBeside$Claim" "function" "I", Cond.fieldLink RX3 124 "WordsBeside$Claim" "p" "I", Cond.constant RX3 99 (-2147483648), Cond.methodLink RX3 74 yX3_present, Cond.instanceMethod yX3_present, Cond.selects RX3 yX3_present yX3_present, Cond.initialized RX3, Cond.code yX3_present cX3_present 2 (some (.object "WordsBeside$World")), Cond.fieldLink RX3 23 "WordsBeside" "settled" "I", Cond.fieldLink RX3 12 "WordsBeside" "code" "LWordsBeside$Code;", Cond.fieldLink RX3 19 "WordsBeside" "now" "LWordsBeside$World;", Cond.methodLink RX3 183 yX1_runAll, Cond.instanceMethod yX1_runAll, Cond.selects RX1 yX1_runAll yX1_runAll, Cond.initialized RX1, Cond.code yX1_runAll cX1_runAll 4 none, Cond.methodLink RX1 37 yX1_goThrough, Cond.instanceMethod yX1_goThrough, Cond.selects RX1 yX1_goThrough yX1_goThrough, Cond.code yX1_goThrough cX1_goThrough 9 (some .int), Cond.constant RX1 51 (-2147483648), Cond.methodLink RX1 30 yX1_length, Cond.instanceMethod yX1_length]
def wsX3_firstMend_r2 : List Cond := [Cond.selects RX1 yX1_length yX1_length, Cond.code yX1_length cX1_length 2 (some .int), Cond.fieldLink RX1 15 "WordsBeside$Code" "lengths" "[I", Cond.static yX3_isFunction, Cond.code yX3_isFunction cX3_isFunction 1 (some .boolean), Cond.methodLink RX1 34 yX1_at, Cond.instanceMethod yX1_at, Cond.selects RX1 yX1_at yX1_at, Cond.code yX1_at cX1_at 3 (some .int), Cond.fieldLink RX1 9 "WordsBeside$Code" "steps" "[I", Cond.methodLink RX1 44 yX1_after, Cond.static yX1_after, Cond.code yX1_after cX1_after 6 (some .int), Cond.methodLink RX1 52 Lib.Math.min.name, Cond.static Lib.Math.min.name, Cond.initialized "java/lang/Math", Cond.code Lib.Math.min.name Lib.Math.min.code 2 (some .int), Cond.methodLink RX1 57 Lib.Math.max.name, Cond.static Lib.Math.max.name, Cond.code Lib.Math.max.name Lib.Math.max.code 2 (some .int), Cond.methodLink RX1 60 yX2_given, Cond.instanceMethod yX2_given, Cond.selects RX2 yX2_given yX2_given, Cond.initialized RX2]
def wsX3_firstMend_r3 : List Cond := [Cond.code yX2_given cX2_given 3 (some .int), Cond.constant RX2 29 (-2147483648), Cond.fieldLink RX2 9 "WordsBeside$World" "gives" "[I", Cond.methodLink RX1 63 yJ9_floorMod_7cf53, Cond.static yJ9_floorMod_7cf53, Cond.initialized RJ9, Cond.code yJ9_floorMod_7cf53 cJ9_floorMod_7cf53 3 (some .int), Cond.static yX3_isWithinLimit, Cond.code yX3_isWithinLimit cX3_isWithinLimit 1 (some .boolean), Cond.constant RX3 170 (-1000000), Cond.constant RX3 171 (1000000), Cond.methodLink RX1 41 yX2_put, Cond.instanceMethod yX2_put, Cond.selects RX2 yX2_put yX2_put, Cond.code yX2_put cX2_put 4 none, Cond.static yX3_isRun, Cond.code yX3_isRun cX3_isRun 1 (some .boolean), Cond.methodLink RX3 160 yX2_least, Cond.instanceMethod yX2_least, Cond.selects RX2 yX2_least yX2_least, Cond.code yX2_least cX2_least 5 (some .int), Cond.methodLink RX2 30 yX2_given, Cond.methodLink RX3 190 yX2_greatestDivisor, Cond.instanceMethod yX2_greatestDivisor]
def wsX3_firstMend_r4 : List Cond := [Cond.selects RX2 yX2_greatestDivisor yX2_greatestDivisor, Cond.code yX2_greatestDivisor cX2_greatestDivisor 5 (some .int), Cond.methodLink RX2 39 Lib.Math.abs.name, Cond.static Lib.Math.abs.name, Cond.code Lib.Math.abs.name Lib.Math.abs.code 1 (some .int), Cond.methodLink RX2 43 yX2_commonDivisor, Cond.static yX2_commonDivisor, Cond.code yX2_commonDivisor cX2_commonDivisor 6 (some .int), Cond.methodLink RX3 82 yX2_given, Cond.methodLink RX3 193 yX2_refusesFrom, Cond.instanceMethod yX2_refusesFrom, Cond.selects RX2 yX2_refusesFrom yX2_refusesFrom, Cond.code yX2_refusesFrom cX2_refusesFrom 3 (some .int), Cond.methodLink RX2 46 yX2_firstRefusal, Cond.instanceMethod yX2_firstRefusal, Cond.selects RX2 yX2_firstRefusal yX2_firstRefusal, Cond.code yX2_firstRefusal cX2_firstRefusal 3 (some .int), Cond.methodLink RX2 49 yX2_refusals, Cond.instanceMethod yX2_refusals, Cond.selects RX2 yX2_refusals yX2_refusals, Cond.code yX2_refusals cX2_refusals 4 (some .int)]
def wsX3_firstMend : List Cond := .code yX3_firstMend cX3_firstMend 2 (some .int) :: ((wsX3_firstMend_r1 ++ (wsX3_firstMend_r2 ++ (wsX3_firstMend_r3 ++ wsX3_firstMend_r4))) ++ wsX00 ++ wsX30 ++ wsX10 ++ wsX20)
def wsX3_secondMend_r1 : List Cond := [Cond.fieldLink RX3 121 "WordsBeside$Claim" "kind" "I", Cond.fieldLink RX3 118 "WordsBeside$Claim" "function" "I", Cond.constant RX3 99 (-2147483648), Cond.methodLink RX3 74 yX3_present, Cond.instanceMethod yX3_present, Cond.selects RX3 yX3_present yX3_present, Cond.initialized RX3, Cond.code yX3_present cX3_present 2 (some (.object "WordsBeside$World")), Cond.fieldLink RX3 23 "WordsBeside" "settled" "I", Cond.fieldLink RX3 12 "WordsBeside" "code" "LWordsBeside$Code;", Cond.fieldLink RX3 19 "WordsBeside" "now" "LWordsBeside$World;", Cond.methodLink RX3 183 yX1_runAll, Cond.instanceMethod yX1_runAll, Cond.selects RX1 yX1_runAll yX1_runAll, Cond.initialized RX1, Cond.code yX1_runAll cX1_runAll 4 none, Cond.methodLink RX1 37 yX1_goThrough, Cond.instanceMethod yX1_goThrough, Cond.selects RX1 yX1_goThrough yX1_goThrough, Cond.code yX1_goThrough cX1_goThrough 9 (some .int), Cond.constant RX1 51 (-2147483648), Cond.methodLink RX1 30 yX1_length, Cond.instanceMethod yX1_length, Cond.selects RX1 yX1_length yX1_length]
def wsX3_secondMend_r2 : List Cond := [Cond.code yX1_length cX1_length 2 (some .int), Cond.fieldLink RX1 15 "WordsBeside$Code" "lengths" "[I", Cond.static yX3_isFunction, Cond.code yX3_isFunction cX3_isFunction 1 (some .boolean), Cond.methodLink RX1 34 yX1_at, Cond.instanceMethod yX1_at, Cond.selects RX1 yX1_at yX1_at, Cond.code yX1_at cX1_at 3 (some .int), Cond.fieldLink RX1 9 "WordsBeside$Code" "steps" "[I", Cond.methodLink RX1 44 yX1_after, Cond.static yX1_after, Cond.code yX1_after cX1_after 6 (some .int), Cond.methodLink RX1 52 Lib.Math.min.name, Cond.static Lib.Math.min.name, Cond.initialized "java/lang/Math", Cond.code Lib.Math.min.name Lib.Math.min.code 2 (some .int), Cond.methodLink RX1 57 Lib.Math.max.name, Cond.static Lib.Math.max.name, Cond.code Lib.Math.max.name Lib.Math.max.code 2 (some .int), Cond.methodLink RX1 60 yX2_given, Cond.instanceMethod yX2_given, Cond.selects RX2 yX2_given yX2_given, Cond.initialized RX2, Cond.code yX2_given cX2_given 3 (some .int)]
def wsX3_secondMend_r3 : List Cond := [Cond.constant RX2 29 (-2147483648), Cond.fieldLink RX2 9 "WordsBeside$World" "gives" "[I", Cond.methodLink RX1 63 yJ9_floorMod_7cf53, Cond.static yJ9_floorMod_7cf53, Cond.initialized RJ9, Cond.code yJ9_floorMod_7cf53 cJ9_floorMod_7cf53 3 (some .int), Cond.static yX3_isWithinLimit, Cond.code yX3_isWithinLimit cX3_isWithinLimit 1 (some .boolean), Cond.constant RX3 170 (-1000000), Cond.constant RX3 171 (1000000), Cond.methodLink RX1 41 yX2_put, Cond.instanceMethod yX2_put, Cond.selects RX2 yX2_put yX2_put, Cond.code yX2_put cX2_put 4 none, Cond.static yX3_isRun, Cond.code yX3_isRun cX3_isRun 1 (some .boolean), Cond.methodLink RX3 196 yX2_most, Cond.instanceMethod yX2_most, Cond.selects RX2 yX2_most yX2_most, Cond.code yX2_most cX2_most 4 (some .int), Cond.methodLink RX2 34 Lib.Math.max.name, Cond.methodLink RX2 30 yX2_given]
def wsX3_secondMend : List Cond := .code yX3_secondMend cX3_secondMend 2 (some .int) :: ((wsX3_secondMend_r1 ++ (wsX3_secondMend_r2 ++ wsX3_secondMend_r3)) ++ wsX00 ++ wsX30 ++ wsX10 ++ wsX20)
def wsX3_mend_r1 : List Cond := [Cond.constant RX3 99 (-2147483648), Cond.methodLink RX3 110 yX3_claimAt, Cond.instanceMethod yX3_claimAt, Cond.selects RX3 yX3_claimAt yX3_claimAt, Cond.initialized RX3, Cond.code yX3_claimAt cX3_claimAt 2 (some (.object "WordsBeside$Claim")), Cond.fieldLink RX3 40 "WordsBeside" "came" "I", Cond.fieldLink RX3 36 "WordsBeside" "claims" "[LWordsBeside$Claim;", Cond.methodLink RX3 74 yX3_present, Cond.instanceMethod yX3_present, Cond.selects RX3 yX3_present yX3_present, Cond.code yX3_present cX3_present 2 (some (.object "WordsBeside$World")), Cond.fieldLink RX3 23 "WordsBeside" "settled" "I", Cond.fieldLink RX3 12 "WordsBeside" "code" "LWordsBeside$Code;", Cond.fieldLink RX3 19 "WordsBeside" "now" "LWordsBeside$World;", Cond.methodLink RX3 183 yX1_runAll, Cond.instanceMethod yX1_runAll, Cond.selects RX1 yX1_runAll yX1_runAll, Cond.initialized RX1, Cond.code yX1_runAll cX1_runAll 4 none, Cond.methodLink RX1 37 yX1_goThrough, Cond.instanceMethod yX1_goThrough, Cond.selects RX1 yX1_goThrough yX1_goThrough, Cond.code yX1_goThrough cX1_goThrough 9 (some .int)]
def wsX3_mend_r2 : List Cond := [Cond.constant RX1 51 (-2147483648), Cond.methodLink RX1 30 yX1_length, Cond.instanceMethod yX1_length, Cond.selects RX1 yX1_length yX1_length, Cond.code yX1_length cX1_length 2 (some .int), Cond.fieldLink RX1 15 "WordsBeside$Code" "lengths" "[I", Cond.static yX3_isFunction, Cond.code yX3_isFunction cX3_isFunction 1 (some .boolean), Cond.methodLink RX1 34 yX1_at, Cond.instanceMethod yX1_at, Cond.selects RX1 yX1_at yX1_at, Cond.code yX1_at cX1_at 3 (some .int), Cond.fieldLink RX1 9 "WordsBeside$Code" "steps" "[I", Cond.methodLink RX1 44 yX1_after, Cond.static yX1_after, Cond.code yX1_after cX1_after 6 (some .int), Cond.methodLink RX1 52 Lib.Math.min.name, Cond.static Lib.Math.min.name, Cond.initialized "java/lang/Math", Cond.code Lib.Math.min.name Lib.Math.min.code 2 (some .int), Cond.methodLink RX1 57 Lib.Math.max.name, Cond.static Lib.Math.max.name, Cond.code Lib.Math.max.name Lib.Math.max.code 2 (some .int), Cond.methodLink RX1 60 yX2_given]
def wsX3_mend_r3 : List Cond := [Cond.instanceMethod yX2_given, Cond.selects RX2 yX2_given yX2_given, Cond.initialized RX2, Cond.code yX2_given cX2_given 3 (some .int), Cond.constant RX2 29 (-2147483648), Cond.fieldLink RX2 9 "WordsBeside$World" "gives" "[I", Cond.methodLink RX1 63 yJ9_floorMod_7cf53, Cond.static yJ9_floorMod_7cf53, Cond.initialized RJ9, Cond.code yJ9_floorMod_7cf53 cJ9_floorMod_7cf53 3 (some .int), Cond.static yX3_isWithinLimit, Cond.code yX3_isWithinLimit cX3_isWithinLimit 1 (some .boolean), Cond.constant RX3 170 (-1000000), Cond.constant RX3 171 (1000000), Cond.methodLink RX1 41 yX2_put, Cond.instanceMethod yX2_put, Cond.selects RX2 yX2_put yX2_put, Cond.code yX2_put cX2_put 4 none, Cond.static yX3_isRun, Cond.code yX3_isRun cX3_isRun 1 (some .boolean), Cond.methodLink RX3 88 yX0_isHeldIn, Cond.instanceMethod yX0_isHeldIn, Cond.selects RX0 yX0_isHeldIn yX0_isHeldIn, Cond.initialized RX0]
def wsX3_mend_r4 : List Cond := [Cond.code yX0_isHeldIn cX0_isHeldIn 2 (some .boolean), Cond.methodLink RX0 34 yX0_firstDenialIn, Cond.instanceMethod yX0_firstDenialIn, Cond.selects RX0 yX0_firstDenialIn yX0_firstDenialIn, Cond.code yX0_firstDenialIn cX0_firstDenialIn 3 (some .int), Cond.methodLink RX0 38 yX0_isDeniedBy, Cond.instanceMethod yX0_isDeniedBy, Cond.selects RX0 yX0_isDeniedBy yX0_isDeniedBy, Cond.code yX0_isDeniedBy cX0_isDeniedBy 8 (some .boolean), Cond.fieldLink RX0 9 "WordsBeside$Claim" "function" "I", Cond.constant RX0 48 (-2147483648), Cond.fieldLink RX0 15 "WordsBeside$Claim" "kind" "I", Cond.fieldLink RX0 18 "WordsBeside$Claim" "p" "I", Cond.fieldLink RX0 21 "WordsBeside$Claim" "q" "I", Cond.methodLink RX0 42 yX2_given, Cond.methodLink RX3 141 yX3_firstMend, Cond.instanceMethod yX3_firstMend, Cond.selects RX3 yX3_firstMend yX3_firstMend, Cond.code yX3_firstMend cX3_firstMend 2 (some .int), Cond.fieldLink RX3 121 "WordsBeside$Claim" "kind" "I", Cond.fieldLink RX3 118 "WordsBeside$Claim" "function" "I", Cond.fieldLink RX3 124 "WordsBeside$Claim" "p" "I", Cond.methodLink RX3 160 yX2_least, Cond.instanceMethod yX2_least]
def wsX3_mend_r5 : List Cond := [Cond.selects RX2 yX2_least yX2_least, Cond.code yX2_least cX2_least 5 (some .int), Cond.methodLink RX2 30 yX2_given, Cond.methodLink RX3 190 yX2_greatestDivisor, Cond.instanceMethod yX2_greatestDivisor, Cond.selects RX2 yX2_greatestDivisor yX2_greatestDivisor, Cond.code yX2_greatestDivisor cX2_greatestDivisor 5 (some .int), Cond.methodLink RX2 39 Lib.Math.abs.name, Cond.static Lib.Math.abs.name, Cond.code Lib.Math.abs.name Lib.Math.abs.code 1 (some .int), Cond.methodLink RX2 43 yX2_commonDivisor, Cond.static yX2_commonDivisor, Cond.code yX2_commonDivisor cX2_commonDivisor 6 (some .int), Cond.methodLink RX3 82 yX2_given, Cond.methodLink RX3 193 yX2_refusesFrom, Cond.instanceMethod yX2_refusesFrom, Cond.selects RX2 yX2_refusesFrom yX2_refusesFrom, Cond.code yX2_refusesFrom cX2_refusesFrom 3 (some .int), Cond.methodLink RX2 46 yX2_firstRefusal, Cond.instanceMethod yX2_firstRefusal, Cond.selects RX2 yX2_firstRefusal yX2_firstRefusal, Cond.code yX2_firstRefusal cX2_firstRefusal 3 (some .int), Cond.methodLink RX2 49 yX2_refusals, Cond.instanceMethod yX2_refusals]
def wsX3_mend_r6 : List Cond := [Cond.selects RX2 yX2_refusals yX2_refusals, Cond.code yX2_refusals cX2_refusals 4 (some .int), Cond.methodLink RX3 144 yX3_secondMend, Cond.instanceMethod yX3_secondMend, Cond.selects RX3 yX3_secondMend yX3_secondMend, Cond.code yX3_secondMend cX3_secondMend 2 (some .int), Cond.methodLink RX3 196 yX2_most, Cond.instanceMethod yX2_most, Cond.selects RX2 yX2_most yX2_most, Cond.code yX2_most cX2_most 4 (some .int), Cond.methodLink RX2 34 Lib.Math.max.name]
def wsX3_mend : List Cond := .code yX3_mend cX3_mend 4 (some .int) :: ((wsX3_mend_r1 ++ (wsX3_mend_r2 ++ (wsX3_mend_r3 ++ (wsX3_mend_r4 ++ (wsX3_mend_r5 ++ wsX3_mend_r6))))) ++ wsX30 ++ wsX10 ++ wsX20 ++ wsX00)
def wsX3_mended_r1 : List Cond := [Cond.constant RX3 99 (-2147483648), Cond.fieldLink RX3 121 "WordsBeside$Claim" "kind" "I", Cond.fieldLink RX3 127 "WordsBeside$Claim" "q" "I", Cond.fieldLink RX3 124 "WordsBeside$Claim" "p" "I", Cond.fieldLink RX3 92 "WordsBeside$Claim" "lastHeld" "I", Cond.methodLink RX3 110 yX3_claimAt, Cond.instanceMethod yX3_claimAt, Cond.selects RX3 yX3_claimAt yX3_claimAt, Cond.initialized RX3, Cond.code yX3_claimAt cX3_claimAt 2 (some (.object "WordsBeside$Claim")), Cond.fieldLink RX3 40 "WordsBeside" "came" "I", Cond.fieldLink RX3 36 "WordsBeside" "claims" "[LWordsBeside$Claim;", Cond.methodLink RX3 74 yX3_present, Cond.instanceMethod yX3_present, Cond.selects RX3 yX3_present yX3_present, Cond.code yX3_present cX3_present 2 (some (.object "WordsBeside$World")), Cond.fieldLink RX3 23 "WordsBeside" "settled" "I", Cond.fieldLink RX3 12 "WordsBeside" "code" "LWordsBeside$Code;", Cond.fieldLink RX3 19 "WordsBeside" "now" "LWordsBeside$World;", Cond.methodLink RX3 183 yX1_runAll, Cond.instanceMethod yX1_runAll, Cond.selects RX1 yX1_runAll yX1_runAll, Cond.initialized RX1, Cond.code yX1_runAll cX1_runAll 4 none]
def wsX3_mended_r2 : List Cond := [Cond.methodLink RX1 37 yX1_goThrough, Cond.instanceMethod yX1_goThrough, Cond.selects RX1 yX1_goThrough yX1_goThrough, Cond.code yX1_goThrough cX1_goThrough 9 (some .int), Cond.constant RX1 51 (-2147483648), Cond.methodLink RX1 30 yX1_length, Cond.instanceMethod yX1_length, Cond.selects RX1 yX1_length yX1_length, Cond.code yX1_length cX1_length 2 (some .int), Cond.fieldLink RX1 15 "WordsBeside$Code" "lengths" "[I", Cond.static yX3_isFunction, Cond.code yX3_isFunction cX3_isFunction 1 (some .boolean), Cond.methodLink RX1 34 yX1_at, Cond.instanceMethod yX1_at, Cond.selects RX1 yX1_at yX1_at, Cond.code yX1_at cX1_at 3 (some .int), Cond.fieldLink RX1 9 "WordsBeside$Code" "steps" "[I", Cond.methodLink RX1 44 yX1_after, Cond.static yX1_after, Cond.code yX1_after cX1_after 6 (some .int), Cond.methodLink RX1 52 Lib.Math.min.name, Cond.static Lib.Math.min.name, Cond.initialized "java/lang/Math", Cond.code Lib.Math.min.name Lib.Math.min.code 2 (some .int)]
def wsX3_mended_r3 : List Cond := [Cond.methodLink RX1 57 Lib.Math.max.name, Cond.static Lib.Math.max.name, Cond.code Lib.Math.max.name Lib.Math.max.code 2 (some .int), Cond.methodLink RX1 60 yX2_given, Cond.instanceMethod yX2_given, Cond.selects RX2 yX2_given yX2_given, Cond.initialized RX2, Cond.code yX2_given cX2_given 3 (some .int), Cond.constant RX2 29 (-2147483648), Cond.fieldLink RX2 9 "WordsBeside$World" "gives" "[I", Cond.methodLink RX1 63 yJ9_floorMod_7cf53, Cond.static yJ9_floorMod_7cf53, Cond.initialized RJ9, Cond.code yJ9_floorMod_7cf53 cJ9_floorMod_7cf53 3 (some .int), Cond.static yX3_isWithinLimit, Cond.code yX3_isWithinLimit cX3_isWithinLimit 1 (some .boolean), Cond.constant RX3 170 (-1000000), Cond.constant RX3 171 (1000000), Cond.methodLink RX1 41 yX2_put, Cond.instanceMethod yX2_put, Cond.selects RX2 yX2_put yX2_put, Cond.code yX2_put cX2_put 4 none, Cond.static yX3_isRun, Cond.code yX3_isRun cX3_isRun 1 (some .boolean)]
def wsX3_mended_r4 : List Cond := [Cond.methodLink RX3 88 yX0_isHeldIn, Cond.instanceMethod yX0_isHeldIn, Cond.selects RX0 yX0_isHeldIn yX0_isHeldIn, Cond.initialized RX0, Cond.code yX0_isHeldIn cX0_isHeldIn 2 (some .boolean), Cond.methodLink RX0 34 yX0_firstDenialIn, Cond.instanceMethod yX0_firstDenialIn, Cond.selects RX0 yX0_firstDenialIn yX0_firstDenialIn, Cond.code yX0_firstDenialIn cX0_firstDenialIn 3 (some .int), Cond.methodLink RX0 38 yX0_isDeniedBy, Cond.instanceMethod yX0_isDeniedBy, Cond.selects RX0 yX0_isDeniedBy yX0_isDeniedBy, Cond.code yX0_isDeniedBy cX0_isDeniedBy 8 (some .boolean), Cond.fieldLink RX0 9 "WordsBeside$Claim" "function" "I", Cond.constant RX0 48 (-2147483648), Cond.fieldLink RX0 15 "WordsBeside$Claim" "kind" "I", Cond.fieldLink RX0 18 "WordsBeside$Claim" "p" "I", Cond.fieldLink RX0 21 "WordsBeside$Claim" "q" "I", Cond.methodLink RX0 42 yX2_given, Cond.methodLink RX3 141 yX3_firstMend, Cond.instanceMethod yX3_firstMend, Cond.selects RX3 yX3_firstMend yX3_firstMend, Cond.code yX3_firstMend cX3_firstMend 2 (some .int), Cond.fieldLink RX3 118 "WordsBeside$Claim" "function" "I"]
def wsX3_mended_r5 : List Cond := [Cond.methodLink RX3 160 yX2_least, Cond.instanceMethod yX2_least, Cond.selects RX2 yX2_least yX2_least, Cond.code yX2_least cX2_least 5 (some .int), Cond.methodLink RX2 30 yX2_given, Cond.methodLink RX3 190 yX2_greatestDivisor, Cond.instanceMethod yX2_greatestDivisor, Cond.selects RX2 yX2_greatestDivisor yX2_greatestDivisor, Cond.code yX2_greatestDivisor cX2_greatestDivisor 5 (some .int), Cond.methodLink RX2 39 Lib.Math.abs.name, Cond.static Lib.Math.abs.name, Cond.code Lib.Math.abs.name Lib.Math.abs.code 1 (some .int), Cond.methodLink RX2 43 yX2_commonDivisor, Cond.static yX2_commonDivisor, Cond.code yX2_commonDivisor cX2_commonDivisor 6 (some .int), Cond.methodLink RX3 82 yX2_given, Cond.methodLink RX3 193 yX2_refusesFrom, Cond.instanceMethod yX2_refusesFrom, Cond.selects RX2 yX2_refusesFrom yX2_refusesFrom, Cond.code yX2_refusesFrom cX2_refusesFrom 3 (some .int), Cond.methodLink RX2 46 yX2_firstRefusal, Cond.instanceMethod yX2_firstRefusal, Cond.selects RX2 yX2_firstRefusal yX2_firstRefusal, Cond.code yX2_firstRefusal cX2_firstRefusal 3 (some .int)]
def wsX3_mended_r6 : List Cond := [Cond.methodLink RX2 49 yX2_refusals, Cond.instanceMethod yX2_refusals, Cond.selects RX2 yX2_refusals yX2_refusals, Cond.code yX2_refusals cX2_refusals 4 (some .int), Cond.methodLink RX3 144 yX3_secondMend, Cond.instanceMethod yX3_secondMend, Cond.selects RX3 yX3_secondMend yX3_secondMend, Cond.code yX3_secondMend cX3_secondMend 2 (some .int), Cond.methodLink RX3 196 yX2_most, Cond.instanceMethod yX2_most, Cond.selects RX2 yX2_most yX2_most, Cond.code yX2_most cX2_most 4 (some .int), Cond.methodLink RX2 34 Lib.Math.max.name, Cond.methodLink RX3 106 yX3_lastKeptHolding, Cond.instanceMethod yX3_lastKeptHolding, Cond.selects RX3 yX3_lastKeptHolding yX3_lastKeptHolding, Cond.code yX3_lastKeptHolding cX3_lastKeptHolding 4 (some .int), Cond.fieldLink RX3 31 "WordsBeside" "kept" "I", Cond.fieldLink RX3 187 "WordsBeside$Claim" "born" "I", Cond.methodLink RX3 95 yX3_keptState, Cond.instanceMethod yX3_keptState, Cond.selects RX3 yX3_keptState yX3_keptState, Cond.code yX3_keptState cX3_keptState 2 (some (.object "WordsBeside$World")), Cond.fieldLink RX3 27 "WordsBeside" "states" "[LWordsBeside$World;"]
def wsX3_mended : List Cond := .code yX3_mended cX3_mended 4 (some .boolean) :: ((wsX3_mended_r1 ++ (wsX3_mended_r2 ++ (wsX3_mended_r3 ++ (wsX3_mended_r4 ++ (wsX3_mended_r5 ++ wsX3_mended_r6))))) ++ wsX00 ++ wsX30 ++ wsX10 ++ wsX20)
def wsX3_mark : List Cond := .code yX3_mark cX3_mark 3 (some .boolean) :: ([.fieldLink RX3 134 "WordsBeside$Claim" "marked" "Z", .methodLink RX3 110 yX3_claimAt, .instanceMethod yX3_claimAt, .selects RX3 yX3_claimAt yX3_claimAt, .initialized RX3, .code yX3_claimAt cX3_claimAt 2 (some (.object "WordsBeside$Claim")), .fieldLink RX3 40 "WordsBeside" "came" "I", .fieldLink RX3 36 "WordsBeside" "claims" "[LWordsBeside$Claim;"] ++ wsX00 ++ wsX30)
def wsX3_fillListedHarms_r1 : List Cond := [Cond.fieldLink RX3 36 "WordsBeside" "claims" "[LWordsBeside$Claim;", Cond.fieldLink RX3 43 "WordsBeside" "listedHarms" "[I", Cond.fieldLink RX3 134 "WordsBeside$Claim" "marked" "Z", Cond.methodLink RX3 74 yX3_present, Cond.instanceMethod yX3_present, Cond.selects RX3 yX3_present yX3_present, Cond.initialized RX3, Cond.code yX3_present cX3_present 2 (some (.object "WordsBeside$World")), Cond.fieldLink RX3 23 "WordsBeside" "settled" "I", Cond.fieldLink RX3 12 "WordsBeside" "code" "LWordsBeside$Code;", Cond.fieldLink RX3 19 "WordsBeside" "now" "LWordsBeside$World;", Cond.methodLink RX3 183 yX1_runAll, Cond.instanceMethod yX1_runAll, Cond.selects RX1 yX1_runAll yX1_runAll, Cond.initialized RX1, Cond.code yX1_runAll cX1_runAll 4 none, Cond.methodLink RX1 37 yX1_goThrough, Cond.instanceMethod yX1_goThrough, Cond.selects RX1 yX1_goThrough yX1_goThrough, Cond.code yX1_goThrough cX1_goThrough 9 (some .int), Cond.constant RX1 51 (-2147483648), Cond.methodLink RX1 30 yX1_length, Cond.instanceMethod yX1_length, Cond.selects RX1 yX1_length yX1_length]
def wsX3_fillListedHarms_r2 : List Cond := [Cond.code yX1_length cX1_length 2 (some .int), Cond.fieldLink RX1 15 "WordsBeside$Code" "lengths" "[I", Cond.static yX3_isFunction, Cond.code yX3_isFunction cX3_isFunction 1 (some .boolean), Cond.methodLink RX1 34 yX1_at, Cond.instanceMethod yX1_at, Cond.selects RX1 yX1_at yX1_at, Cond.code yX1_at cX1_at 3 (some .int), Cond.fieldLink RX1 9 "WordsBeside$Code" "steps" "[I", Cond.methodLink RX1 44 yX1_after, Cond.static yX1_after, Cond.code yX1_after cX1_after 6 (some .int), Cond.methodLink RX1 52 Lib.Math.min.name, Cond.static Lib.Math.min.name, Cond.initialized "java/lang/Math", Cond.code Lib.Math.min.name Lib.Math.min.code 2 (some .int), Cond.methodLink RX1 57 Lib.Math.max.name, Cond.static Lib.Math.max.name, Cond.code Lib.Math.max.name Lib.Math.max.code 2 (some .int), Cond.methodLink RX1 60 yX2_given, Cond.instanceMethod yX2_given, Cond.selects RX2 yX2_given yX2_given, Cond.initialized RX2, Cond.code yX2_given cX2_given 3 (some .int)]
def wsX3_fillListedHarms_r3 : List Cond := [Cond.constant RX2 29 (-2147483648), Cond.fieldLink RX2 9 "WordsBeside$World" "gives" "[I", Cond.methodLink RX1 63 yJ9_floorMod_7cf53, Cond.static yJ9_floorMod_7cf53, Cond.initialized RJ9, Cond.code yJ9_floorMod_7cf53 cJ9_floorMod_7cf53 3 (some .int), Cond.static yX3_isWithinLimit, Cond.code yX3_isWithinLimit cX3_isWithinLimit 1 (some .boolean), Cond.constant RX3 170 (-1000000), Cond.constant RX3 171 (1000000), Cond.methodLink RX1 41 yX2_put, Cond.instanceMethod yX2_put, Cond.selects RX2 yX2_put yX2_put, Cond.code yX2_put cX2_put 4 none, Cond.static yX3_isRun, Cond.code yX3_isRun cX3_isRun 1 (some .boolean), Cond.methodLink RX3 110 yX3_claimAt, Cond.instanceMethod yX3_claimAt, Cond.selects RX3 yX3_claimAt yX3_claimAt, Cond.code yX3_claimAt cX3_claimAt 2 (some (.object "WordsBeside$Claim")), Cond.fieldLink RX3 40 "WordsBeside" "came" "I", Cond.methodLink RX3 130 yX0_harmIn, Cond.instanceMethod yX0_harmIn, Cond.selects RX0 yX0_harmIn yX0_harmIn]
def wsX3_fillListedHarms_r4 : List Cond := [Cond.initialized RX0, Cond.code yX0_harmIn cX0_harmIn 4 (some .int), Cond.methodLink RX0 38 yX0_isDeniedBy, Cond.instanceMethod yX0_isDeniedBy, Cond.selects RX0 yX0_isDeniedBy yX0_isDeniedBy, Cond.code yX0_isDeniedBy cX0_isDeniedBy 8 (some .boolean), Cond.fieldLink RX0 9 "WordsBeside$Claim" "function" "I", Cond.constant RX0 48 (-2147483648), Cond.fieldLink RX0 15 "WordsBeside$Claim" "kind" "I", Cond.fieldLink RX0 18 "WordsBeside$Claim" "p" "I", Cond.fieldLink RX0 21 "WordsBeside$Claim" "q" "I", Cond.methodLink RX0 42 yX2_given]
def wsX3_fillListedHarms : List Cond := .code yX3_fillListedHarms cX3_fillListedHarms 4 none :: ((wsX3_fillListedHarms_r1 ++ (wsX3_fillListedHarms_r2 ++ (wsX3_fillListedHarms_r3 ++ wsX3_fillListedHarms_r4))) ++ wsX30 ++ wsX00 ++ wsX10 ++ wsX20)
def wsX3_listedAheadOf : List Cond := .code yX3_listedAheadOf cX3_listedAheadOf 5 (some .int) :: ([.fieldLink RX3 43 "WordsBeside" "listedHarms" "[I", .fieldLink RX3 40 "WordsBeside" "came" "I"] ++ wsX30)
def wsX3_listed_r1 : List Cond := [Cond.fieldLink RX3 40 "WordsBeside" "came" "I", Cond.fieldLink RX3 43 "WordsBeside" "listedHarms" "[I", Cond.methodLink RX3 147 yX3_fillListedHarms, Cond.instanceMethod yX3_fillListedHarms, Cond.selects RX3 yX3_fillListedHarms yX3_fillListedHarms, Cond.initialized RX3, Cond.code yX3_fillListedHarms cX3_fillListedHarms 4 none, Cond.fieldLink RX3 36 "WordsBeside" "claims" "[LWordsBeside$Claim;", Cond.fieldLink RX3 134 "WordsBeside$Claim" "marked" "Z", Cond.methodLink RX3 74 yX3_present, Cond.instanceMethod yX3_present, Cond.selects RX3 yX3_present yX3_present, Cond.code yX3_present cX3_present 2 (some (.object "WordsBeside$World")), Cond.fieldLink RX3 23 "WordsBeside" "settled" "I", Cond.fieldLink RX3 12 "WordsBeside" "code" "LWordsBeside$Code;", Cond.fieldLink RX3 19 "WordsBeside" "now" "LWordsBeside$World;", Cond.methodLink RX3 183 yX1_runAll, Cond.instanceMethod yX1_runAll, Cond.selects RX1 yX1_runAll yX1_runAll, Cond.initialized RX1, Cond.code yX1_runAll cX1_runAll 4 none, Cond.methodLink RX1 37 yX1_goThrough, Cond.instanceMethod yX1_goThrough, Cond.selects RX1 yX1_goThrough yX1_goThrough]
def wsX3_listed_r2 : List Cond := [Cond.code yX1_goThrough cX1_goThrough 9 (some .int), Cond.constant RX1 51 (-2147483648), Cond.methodLink RX1 30 yX1_length, Cond.instanceMethod yX1_length, Cond.selects RX1 yX1_length yX1_length, Cond.code yX1_length cX1_length 2 (some .int), Cond.fieldLink RX1 15 "WordsBeside$Code" "lengths" "[I", Cond.static yX3_isFunction, Cond.code yX3_isFunction cX3_isFunction 1 (some .boolean), Cond.methodLink RX1 34 yX1_at, Cond.instanceMethod yX1_at, Cond.selects RX1 yX1_at yX1_at, Cond.code yX1_at cX1_at 3 (some .int), Cond.fieldLink RX1 9 "WordsBeside$Code" "steps" "[I", Cond.methodLink RX1 44 yX1_after, Cond.static yX1_after, Cond.code yX1_after cX1_after 6 (some .int), Cond.methodLink RX1 52 Lib.Math.min.name, Cond.static Lib.Math.min.name, Cond.initialized "java/lang/Math", Cond.code Lib.Math.min.name Lib.Math.min.code 2 (some .int), Cond.methodLink RX1 57 Lib.Math.max.name, Cond.static Lib.Math.max.name, Cond.code Lib.Math.max.name Lib.Math.max.code 2 (some .int)]
def wsX3_listed_r3 : List Cond := [Cond.methodLink RX1 60 yX2_given, Cond.instanceMethod yX2_given, Cond.selects RX2 yX2_given yX2_given, Cond.initialized RX2, Cond.code yX2_given cX2_given 3 (some .int), Cond.constant RX2 29 (-2147483648), Cond.fieldLink RX2 9 "WordsBeside$World" "gives" "[I", Cond.methodLink RX1 63 yJ9_floorMod_7cf53, Cond.static yJ9_floorMod_7cf53, Cond.initialized RJ9, Cond.code yJ9_floorMod_7cf53 cJ9_floorMod_7cf53 3 (some .int), Cond.static yX3_isWithinLimit, Cond.code yX3_isWithinLimit cX3_isWithinLimit 1 (some .boolean), Cond.constant RX3 170 (-1000000), Cond.constant RX3 171 (1000000), Cond.methodLink RX1 41 yX2_put, Cond.instanceMethod yX2_put, Cond.selects RX2 yX2_put yX2_put, Cond.code yX2_put cX2_put 4 none, Cond.static yX3_isRun, Cond.code yX3_isRun cX3_isRun 1 (some .boolean), Cond.methodLink RX3 110 yX3_claimAt, Cond.instanceMethod yX3_claimAt, Cond.selects RX3 yX3_claimAt yX3_claimAt]
def wsX3_listed_r4 : List Cond := [Cond.code yX3_claimAt cX3_claimAt 2 (some (.object "WordsBeside$Claim")), Cond.methodLink RX3 130 yX0_harmIn, Cond.instanceMethod yX0_harmIn, Cond.selects RX0 yX0_harmIn yX0_harmIn, Cond.initialized RX0, Cond.code yX0_harmIn cX0_harmIn 4 (some .int), Cond.methodLink RX0 38 yX0_isDeniedBy, Cond.instanceMethod yX0_isDeniedBy, Cond.selects RX0 yX0_isDeniedBy yX0_isDeniedBy, Cond.code yX0_isDeniedBy cX0_isDeniedBy 8 (some .boolean), Cond.fieldLink RX0 9 "WordsBeside$Claim" "function" "I", Cond.constant RX0 48 (-2147483648), Cond.fieldLink RX0 15 "WordsBeside$Claim" "kind" "I", Cond.fieldLink RX0 18 "WordsBeside$Claim" "p" "I", Cond.fieldLink RX0 21 "WordsBeside$Claim" "q" "I", Cond.methodLink RX0 42 yX2_given, Cond.methodLink RX3 150 yX3_listedAheadOf, Cond.instanceMethod yX3_listedAheadOf, Cond.selects RX3 yX3_listedAheadOf yX3_listedAheadOf, Cond.code yX3_listedAheadOf cX3_listedAheadOf 5 (some .int)]
def wsX3_listed : List Cond := .code yX3_listed cX3_listed 3 (some .int) :: ((wsX3_listed_r1 ++ (wsX3_listed_r2 ++ (wsX3_listed_r3 ++ wsX3_listed_r4))) ++ wsX30 ++ wsX00 ++ wsX10 ++ wsX20)
def wsX3_hasClaim : List Cond := .code yX3_hasClaim cX3_hasClaim 5 (some .boolean) :: ([.fieldLink RX3 40 "WordsBeside" "came" "I", .fieldLink RX3 36 "WordsBeside" "claims" "[LWordsBeside$Claim;", .fieldLink RX3 118 "WordsBeside$Claim" "function" "I", .fieldLink RX3 121 "WordsBeside$Claim" "kind" "I"] ++ wsX30 ++ wsX00)
def wsX3_missing_r1 : List Cond := [Cond.constant RX3 99 (-2147483648), Cond.fieldLink RX3 12 "WordsBeside" "code" "LWordsBeside$Code;", Cond.methodLink RX3 47 yX3_isFunction, Cond.static yX3_isFunction, Cond.initialized RX3, Cond.code yX3_isFunction cX3_isFunction 1 (some .boolean), Cond.methodLink RX3 74 yX3_present, Cond.instanceMethod yX3_present, Cond.selects RX3 yX3_present yX3_present, Cond.code yX3_present cX3_present 2 (some (.object "WordsBeside$World")), Cond.fieldLink RX3 23 "WordsBeside" "settled" "I", Cond.fieldLink RX3 19 "WordsBeside" "now" "LWordsBeside$World;", Cond.methodLink RX3 183 yX1_runAll, Cond.instanceMethod yX1_runAll, Cond.selects RX1 yX1_runAll yX1_runAll, Cond.initialized RX1, Cond.code yX1_runAll cX1_runAll 4 none, Cond.methodLink RX1 37 yX1_goThrough, Cond.instanceMethod yX1_goThrough, Cond.selects RX1 yX1_goThrough yX1_goThrough, Cond.code yX1_goThrough cX1_goThrough 9 (some .int), Cond.constant RX1 51 (-2147483648), Cond.methodLink RX1 30 yX1_length, Cond.instanceMethod yX1_length]
def wsX3_missing_r2 : List Cond := [Cond.selects RX1 yX1_length yX1_length, Cond.code yX1_length cX1_length 2 (some .int), Cond.fieldLink RX1 15 "WordsBeside$Code" "lengths" "[I", Cond.methodLink RX1 34 yX1_at, Cond.instanceMethod yX1_at, Cond.selects RX1 yX1_at yX1_at, Cond.code yX1_at cX1_at 3 (some .int), Cond.fieldLink RX1 9 "WordsBeside$Code" "steps" "[I", Cond.methodLink RX1 44 yX1_after, Cond.static yX1_after, Cond.code yX1_after cX1_after 6 (some .int), Cond.methodLink RX1 52 Lib.Math.min.name, Cond.static Lib.Math.min.name, Cond.initialized "java/lang/Math", Cond.code Lib.Math.min.name Lib.Math.min.code 2 (some .int), Cond.methodLink RX1 57 Lib.Math.max.name, Cond.static Lib.Math.max.name, Cond.code Lib.Math.max.name Lib.Math.max.code 2 (some .int), Cond.methodLink RX1 60 yX2_given, Cond.instanceMethod yX2_given, Cond.selects RX2 yX2_given yX2_given, Cond.initialized RX2, Cond.code yX2_given cX2_given 3 (some .int), Cond.constant RX2 29 (-2147483648)]
def wsX3_missing_r3 : List Cond := [Cond.fieldLink RX2 9 "WordsBeside$World" "gives" "[I", Cond.methodLink RX1 63 yJ9_floorMod_7cf53, Cond.static yJ9_floorMod_7cf53, Cond.initialized RJ9, Cond.code yJ9_floorMod_7cf53 cJ9_floorMod_7cf53 3 (some .int), Cond.static yX3_isWithinLimit, Cond.code yX3_isWithinLimit cX3_isWithinLimit 1 (some .boolean), Cond.constant RX3 170 (-1000000), Cond.constant RX3 171 (1000000), Cond.methodLink RX1 41 yX2_put, Cond.instanceMethod yX2_put, Cond.selects RX2 yX2_put yX2_put, Cond.code yX2_put cX2_put 4 none, Cond.static yX3_isRun, Cond.code yX3_isRun cX3_isRun 1 (some .boolean), Cond.methodLink RX3 153 yX2_refusals, Cond.instanceMethod yX2_refusals, Cond.selects RX2 yX2_refusals yX2_refusals, Cond.code yX2_refusals cX2_refusals 4 (some .int), Cond.methodLink RX2 30 yX2_given, Cond.methodLink RX3 156 yX3_hasClaim, Cond.instanceMethod yX3_hasClaim, Cond.selects RX3 yX3_hasClaim yX3_hasClaim, Cond.code yX3_hasClaim cX3_hasClaim 5 (some .boolean)]
def wsX3_missing_r4 : List Cond := [Cond.fieldLink RX3 40 "WordsBeside" "came" "I", Cond.fieldLink RX3 36 "WordsBeside" "claims" "[LWordsBeside$Claim;", Cond.fieldLink RX3 118 "WordsBeside$Claim" "function" "I", Cond.fieldLink RX3 121 "WordsBeside$Claim" "kind" "I", Cond.methodLink RX3 160 yX2_least, Cond.instanceMethod yX2_least, Cond.selects RX2 yX2_least yX2_least, Cond.code yX2_least cX2_least 5 (some .int), Cond.methodLink RX3 58 yX1_length]
def wsX3_missing : List Cond := .code yX3_missing cX3_missing 5 (some .int) :: ((wsX3_missing_r1 ++ (wsX3_missing_r2 ++ (wsX3_missing_r3 ++ wsX3_missing_r4))) ++ wsX30 ++ wsX10 ++ wsX20 ++ wsX00)
def wsX3_howManyStand_r1 : List Cond := [Cond.fieldLink RX3 40 "WordsBeside" "came" "I", Cond.fieldLink RX3 36 "WordsBeside" "claims" "[LWordsBeside$Claim;", Cond.methodLink RX3 74 yX3_present, Cond.instanceMethod yX3_present, Cond.selects RX3 yX3_present yX3_present, Cond.initialized RX3, Cond.code yX3_present cX3_present 2 (some (.object "WordsBeside$World")), Cond.fieldLink RX3 23 "WordsBeside" "settled" "I", Cond.fieldLink RX3 12 "WordsBeside" "code" "LWordsBeside$Code;", Cond.fieldLink RX3 19 "WordsBeside" "now" "LWordsBeside$World;", Cond.methodLink RX3 183 yX1_runAll, Cond.instanceMethod yX1_runAll, Cond.selects RX1 yX1_runAll yX1_runAll, Cond.initialized RX1, Cond.code yX1_runAll cX1_runAll 4 none, Cond.methodLink RX1 37 yX1_goThrough, Cond.instanceMethod yX1_goThrough, Cond.selects RX1 yX1_goThrough yX1_goThrough, Cond.code yX1_goThrough cX1_goThrough 9 (some .int), Cond.constant RX1 51 (-2147483648), Cond.methodLink RX1 30 yX1_length, Cond.instanceMethod yX1_length, Cond.selects RX1 yX1_length yX1_length, Cond.code yX1_length cX1_length 2 (some .int)]
def wsX3_howManyStand_r2 : List Cond := [Cond.fieldLink RX1 15 "WordsBeside$Code" "lengths" "[I", Cond.static yX3_isFunction, Cond.code yX3_isFunction cX3_isFunction 1 (some .boolean), Cond.methodLink RX1 34 yX1_at, Cond.instanceMethod yX1_at, Cond.selects RX1 yX1_at yX1_at, Cond.code yX1_at cX1_at 3 (some .int), Cond.fieldLink RX1 9 "WordsBeside$Code" "steps" "[I", Cond.methodLink RX1 44 yX1_after, Cond.static yX1_after, Cond.code yX1_after cX1_after 6 (some .int), Cond.methodLink RX1 52 Lib.Math.min.name, Cond.static Lib.Math.min.name, Cond.initialized "java/lang/Math", Cond.code Lib.Math.min.name Lib.Math.min.code 2 (some .int), Cond.methodLink RX1 57 Lib.Math.max.name, Cond.static Lib.Math.max.name, Cond.code Lib.Math.max.name Lib.Math.max.code 2 (some .int), Cond.methodLink RX1 60 yX2_given, Cond.instanceMethod yX2_given, Cond.selects RX2 yX2_given yX2_given, Cond.initialized RX2, Cond.code yX2_given cX2_given 3 (some .int), Cond.constant RX2 29 (-2147483648)]
def wsX3_howManyStand_r3 : List Cond := [Cond.fieldLink RX2 9 "WordsBeside$World" "gives" "[I", Cond.methodLink RX1 63 yJ9_floorMod_7cf53, Cond.static yJ9_floorMod_7cf53, Cond.initialized RJ9, Cond.code yJ9_floorMod_7cf53 cJ9_floorMod_7cf53 3 (some .int), Cond.static yX3_isWithinLimit, Cond.code yX3_isWithinLimit cX3_isWithinLimit 1 (some .boolean), Cond.constant RX3 170 (-1000000), Cond.constant RX3 171 (1000000), Cond.methodLink RX1 41 yX2_put, Cond.instanceMethod yX2_put, Cond.selects RX2 yX2_put yX2_put, Cond.code yX2_put cX2_put 4 none, Cond.static yX3_isRun, Cond.code yX3_isRun cX3_isRun 1 (some .boolean), Cond.methodLink RX3 114 yX3_standing, Cond.static yX3_standing, Cond.code yX3_standing cX3_standing 2 (some .int), Cond.fieldLink RX3 92 "WordsBeside$Claim" "lastHeld" "I", Cond.methodLink RX3 88 yX0_isHeldIn, Cond.instanceMethod yX0_isHeldIn, Cond.selects RX0 yX0_isHeldIn yX0_isHeldIn, Cond.initialized RX0, Cond.code yX0_isHeldIn cX0_isHeldIn 2 (some .boolean)]
def wsX3_howManyStand_r4 : List Cond := [Cond.methodLink RX0 34 yX0_firstDenialIn, Cond.instanceMethod yX0_firstDenialIn, Cond.selects RX0 yX0_firstDenialIn yX0_firstDenialIn, Cond.code yX0_firstDenialIn cX0_firstDenialIn 3 (some .int), Cond.methodLink RX0 38 yX0_isDeniedBy, Cond.instanceMethod yX0_isDeniedBy, Cond.selects RX0 yX0_isDeniedBy yX0_isDeniedBy, Cond.code yX0_isDeniedBy cX0_isDeniedBy 8 (some .boolean), Cond.fieldLink RX0 9 "WordsBeside$Claim" "function" "I", Cond.constant RX0 48 (-2147483648), Cond.fieldLink RX0 15 "WordsBeside$Claim" "kind" "I", Cond.fieldLink RX0 18 "WordsBeside$Claim" "p" "I", Cond.fieldLink RX0 21 "WordsBeside$Claim" "q" "I", Cond.methodLink RX0 42 yX2_given]
def wsX3_howManyStand : List Cond := .code yX3_howManyStand cX3_howManyStand 6 (some .int) :: ((wsX3_howManyStand_r1 ++ (wsX3_howManyStand_r2 ++ (wsX3_howManyStand_r3 ++ wsX3_howManyStand_r4))) ++ wsX30 ++ wsX10 ++ wsX20 ++ wsX00)
def wsX3_howManyMarked : List Cond := .code yX3_howManyMarked cX3_howManyMarked 4 (some .int) :: ([.fieldLink RX3 40 "WordsBeside" "came" "I", .fieldLink RX3 36 "WordsBeside" "claims" "[LWordsBeside$Claim;", .fieldLink RX3 134 "WordsBeside$Claim" "marked" "Z"] ++ wsX30 ++ wsX00)
def wsX3_count_r1 : List Cond := [Cond.fieldLink RX3 12 "WordsBeside" "code" "LWordsBeside$Code;", Cond.fieldLink RX3 40 "WordsBeside" "came" "I", Cond.fieldLink RX3 31 "WordsBeside" "kept" "I", Cond.methodLink RX3 47 yX3_isFunction, Cond.static yX3_isFunction, Cond.initialized RX3, Cond.code yX3_isFunction cX3_isFunction 1 (some .boolean), Cond.methodLink RX3 58 yX1_length, Cond.instanceMethod yX1_length, Cond.selects RX1 yX1_length yX1_length, Cond.initialized RX1, Cond.code yX1_length cX1_length 2 (some .int), Cond.fieldLink RX1 15 "WordsBeside$Code" "lengths" "[I", Cond.methodLink RX3 74 yX3_present, Cond.instanceMethod yX3_present, Cond.selects RX3 yX3_present yX3_present, Cond.code yX3_present cX3_present 2 (some (.object "WordsBeside$World")), Cond.fieldLink RX3 23 "WordsBeside" "settled" "I", Cond.fieldLink RX3 19 "WordsBeside" "now" "LWordsBeside$World;", Cond.methodLink RX3 183 yX1_runAll, Cond.instanceMethod yX1_runAll, Cond.selects RX1 yX1_runAll yX1_runAll, Cond.code yX1_runAll cX1_runAll 4 none, Cond.methodLink RX1 37 yX1_goThrough]
def wsX3_count_r2 : List Cond := [Cond.instanceMethod yX1_goThrough, Cond.selects RX1 yX1_goThrough yX1_goThrough, Cond.code yX1_goThrough cX1_goThrough 9 (some .int), Cond.constant RX1 51 (-2147483648), Cond.methodLink RX1 30 yX1_length, Cond.methodLink RX1 34 yX1_at, Cond.instanceMethod yX1_at, Cond.selects RX1 yX1_at yX1_at, Cond.code yX1_at cX1_at 3 (some .int), Cond.fieldLink RX1 9 "WordsBeside$Code" "steps" "[I", Cond.methodLink RX1 44 yX1_after, Cond.static yX1_after, Cond.code yX1_after cX1_after 6 (some .int), Cond.methodLink RX1 52 Lib.Math.min.name, Cond.static Lib.Math.min.name, Cond.initialized "java/lang/Math", Cond.code Lib.Math.min.name Lib.Math.min.code 2 (some .int), Cond.methodLink RX1 57 Lib.Math.max.name, Cond.static Lib.Math.max.name, Cond.code Lib.Math.max.name Lib.Math.max.code 2 (some .int), Cond.methodLink RX1 60 yX2_given, Cond.instanceMethod yX2_given, Cond.selects RX2 yX2_given yX2_given, Cond.initialized RX2]
def wsX3_count_r3 : List Cond := [Cond.code yX2_given cX2_given 3 (some .int), Cond.constant RX2 29 (-2147483648), Cond.fieldLink RX2 9 "WordsBeside$World" "gives" "[I", Cond.methodLink RX1 63 yJ9_floorMod_7cf53, Cond.static yJ9_floorMod_7cf53, Cond.initialized RJ9, Cond.code yJ9_floorMod_7cf53 cJ9_floorMod_7cf53 3 (some .int), Cond.static yX3_isWithinLimit, Cond.code yX3_isWithinLimit cX3_isWithinLimit 1 (some .boolean), Cond.constant RX3 170 (-1000000), Cond.constant RX3 171 (1000000), Cond.methodLink RX1 41 yX2_put, Cond.instanceMethod yX2_put, Cond.selects RX2 yX2_put yX2_put, Cond.code yX2_put cX2_put 4 none, Cond.static yX3_isRun, Cond.code yX3_isRun cX3_isRun 1 (some .boolean), Cond.methodLink RX3 153 yX2_refusals, Cond.instanceMethod yX2_refusals, Cond.selects RX2 yX2_refusals yX2_refusals, Cond.code yX2_refusals cX2_refusals 4 (some .int), Cond.methodLink RX2 30 yX2_given, Cond.methodLink RX3 163 yX3_howManyStand, Cond.instanceMethod yX3_howManyStand]
def wsX3_count_r4 : List Cond := [Cond.selects RX3 yX3_howManyStand yX3_howManyStand, Cond.code yX3_howManyStand cX3_howManyStand 6 (some .int), Cond.fieldLink RX3 36 "WordsBeside" "claims" "[LWordsBeside$Claim;", Cond.methodLink RX3 114 yX3_standing, Cond.static yX3_standing, Cond.code yX3_standing cX3_standing 2 (some .int), Cond.fieldLink RX3 92 "WordsBeside$Claim" "lastHeld" "I", Cond.methodLink RX3 88 yX0_isHeldIn, Cond.instanceMethod yX0_isHeldIn, Cond.selects RX0 yX0_isHeldIn yX0_isHeldIn, Cond.initialized RX0, Cond.code yX0_isHeldIn cX0_isHeldIn 2 (some .boolean), Cond.methodLink RX0 34 yX0_firstDenialIn, Cond.instanceMethod yX0_firstDenialIn, Cond.selects RX0 yX0_firstDenialIn yX0_firstDenialIn, Cond.code yX0_firstDenialIn cX0_firstDenialIn 3 (some .int), Cond.methodLink RX0 38 yX0_isDeniedBy, Cond.instanceMethod yX0_isDeniedBy, Cond.selects RX0 yX0_isDeniedBy yX0_isDeniedBy, Cond.code yX0_isDeniedBy cX0_isDeniedBy 8 (some .boolean), Cond.fieldLink RX0 9 "WordsBeside$Claim" "function" "I", Cond.constant RX0 48 (-2147483648), Cond.fieldLink RX0 15 "WordsBeside$Claim" "kind" "I", Cond.fieldLink RX0 18 "WordsBeside$Claim" "p" "I"]
def wsX3_count_r5 : List Cond := [Cond.fieldLink RX0 21 "WordsBeside$Claim" "q" "I", Cond.methodLink RX0 42 yX2_given, Cond.methodLink RX3 166 yX3_howManyMarked, Cond.instanceMethod yX3_howManyMarked, Cond.selects RX3 yX3_howManyMarked yX3_howManyMarked, Cond.code yX3_howManyMarked cX3_howManyMarked 4 (some .int), Cond.fieldLink RX3 134 "WordsBeside$Claim" "marked" "Z"]
def wsX3_count : List Cond := .code yX3_count cX3_count 2 (some .int) :: ((wsX3_count_r1 ++ (wsX3_count_r2 ++ (wsX3_count_r3 ++ (wsX3_count_r4 ++ wsX3_count_r5)))) ++ wsX30 ++ wsX10 ++ wsX20 ++ wsX00)
def wsX4_init : List Cond := .code yX4_init cX4_init 1 none :: ([.methodLink RX4 1 objectInit, .instanceMethod objectInit, .code objectInit ⟨#[0xb1]⟩ 1 none, .arrayClass .int, .fieldLink RX4 9 "WordsBesideModel" "longs" "[I", .fieldLink RX4 13 "WordsBesideModel" "steps" "[I", .constant RX4 16 (49152), .fieldLink RX4 17 "WordsBesideModel" "gives" "[I", .fieldLink RX4 20 "WordsBesideModel" "of" "[I", .fieldLink RX4 23 "WordsBesideModel" "kind" "[I", .fieldLink RX4 26 "WordsBesideModel" "first" "[I", .fieldLink RX4 29 "WordsBesideModel" "second" "[I", .fieldLink RX4 32 "WordsBesideModel" "base" "[I", .arrayClass .boolean, .fieldLink RX4 35 "WordsBesideModel" "isMarked" "[Z", .fieldLink RX4 39 "WordsBesideModel" "harms" "[I"] ++ wsX40)
def wsX4_in : List Cond := .code yX4_in cX4_in 3 (some .boolean) :: ([])
def wsX4_isFunction : List Cond := .code yX4_isFunction cX4_isFunction 1 (some .boolean) :: ([.methodLink RX4 42 yX4_in, .static yX4_in, .initialized RX4, .code yX4_in cX4_in 3 (some .boolean)])
def wsX4_canBe : List Cond := .code yX4_canBe cX4_canBe 8 (some .boolean) :: ([.fieldLink RX4 9 "WordsBesideModel" "longs" "[I", .fieldLink RX4 13 "WordsBesideModel" "steps" "[I"] ++ wsX40)
def wsX4_at : List Cond := .code yX4_at cX4_at 3 (some .int) :: ([])
def wsX4_goes : List Cond := .code yX4_goes cX4_goes 9 (some .int) :: ([.fieldLink RX4 9 "WordsBesideModel" "longs" "[I", .fieldLink RX4 13 "WordsBesideModel" "steps" "[I", .constant RX4 64 (-2147483648), .fieldLink RX4 17 "WordsBesideModel" "gives" "[I", .constantLong RX4 65 (1000000), .constantLong RX4 67 (-1000000), .methodLink RX4 56 yX4_at, .static yX4_at, .initialized RX4, .code yX4_at cX4_at 3 (some .int)] ++ wsX40)
def wsX4_runs : List Cond := .code yX4_runs cX4_runs 3 none :: ([.fieldLink RX4 17 "WordsBesideModel" "gives" "[I", .methodLink RX4 56 yX4_at, .static yX4_at, .initialized RX4, .code yX4_at cX4_at 3 (some .int), .methodLink RX4 60 yX4_goes, .instanceMethod yX4_goes, .selects RX4 yX4_goes yX4_goes, .code yX4_goes cX4_goes 9 (some .int), .fieldLink RX4 9 "WordsBesideModel" "longs" "[I", .fieldLink RX4 13 "WordsBesideModel" "steps" "[I", .constant RX4 64 (-2147483648), .constantLong RX4 65 (1000000), .constantLong RX4 67 (-1000000)] ++ wsX40)
def wsX4_clear : List Cond := .code yX4_clear cX4_clear 2 (some .boolean) :: ([.fieldLink RX4 9 "WordsBesideModel" "longs" "[I", .methodLink RX4 46 yX4_isFunction, .static yX4_isFunction, .initialized RX4, .code yX4_isFunction cX4_isFunction 1 (some .boolean), .methodLink RX4 42 yX4_in, .static yX4_in, .code yX4_in cX4_in 3 (some .boolean), .methodLink RX4 50 yX4_runs, .instanceMethod yX4_runs, .selects RX4 yX4_runs yX4_runs, .code yX4_runs cX4_runs 3 none, .fieldLink RX4 17 "WordsBesideModel" "gives" "[I", .methodLink RX4 56 yX4_at, .static yX4_at, .code yX4_at cX4_at 3 (some .int), .methodLink RX4 60 yX4_goes, .instanceMethod yX4_goes, .selects RX4 yX4_goes yX4_goes, .code yX4_goes cX4_goes 9 (some .int), .fieldLink RX4 13 "WordsBesideModel" "steps" "[I", .constant RX4 64 (-2147483648), .constantLong RX4 65 (1000000), .constantLong RX4 67 (-1000000)] ++ wsX40)
def wsX4_step_r1 : List Cond := [Cond.fieldLink RX4 9 "WordsBesideModel" "longs" "[I", Cond.fieldLink RX4 13 "WordsBesideModel" "steps" "[I", Cond.methodLink RX4 46 yX4_isFunction, Cond.static yX4_isFunction, Cond.initialized RX4, Cond.code yX4_isFunction cX4_isFunction 1 (some .boolean), Cond.methodLink RX4 42 yX4_in, Cond.static yX4_in, Cond.code yX4_in cX4_in 3 (some .boolean), Cond.methodLink RX4 53 yX4_canBe, Cond.instanceMethod yX4_canBe, Cond.selects RX4 yX4_canBe yX4_canBe, Cond.code yX4_canBe cX4_canBe 8 (some .boolean), Cond.methodLink RX4 50 yX4_runs, Cond.instanceMethod yX4_runs, Cond.selects RX4 yX4_runs yX4_runs, Cond.code yX4_runs cX4_runs 3 none, Cond.fieldLink RX4 17 "WordsBesideModel" "gives" "[I", Cond.methodLink RX4 56 yX4_at, Cond.static yX4_at, Cond.code yX4_at cX4_at 3 (some .int), Cond.methodLink RX4 60 yX4_goes, Cond.instanceMethod yX4_goes, Cond.selects RX4 yX4_goes yX4_goes]
def wsX4_step_r2 : List Cond := [Cond.code yX4_goes cX4_goes 9 (some .int), Cond.constant RX4 64 (-2147483648), Cond.constantLong RX4 65 (1000000), Cond.constantLong RX4 67 (-1000000)]
def wsX4_step : List Cond := .code yX4_step cX4_step 3 (some .int) :: ((wsX4_step_r1 ++ wsX4_step_r2) ++ wsX40)
def wsX4_change_r1 : List Cond := [Cond.fieldLink RX4 9 "WordsBesideModel" "longs" "[I", Cond.fieldLink RX4 13 "WordsBesideModel" "steps" "[I", Cond.methodLink RX4 46 yX4_isFunction, Cond.static yX4_isFunction, Cond.initialized RX4, Cond.code yX4_isFunction cX4_isFunction 1 (some .boolean), Cond.methodLink RX4 42 yX4_in, Cond.static yX4_in, Cond.code yX4_in cX4_in 3 (some .boolean), Cond.methodLink RX4 53 yX4_canBe, Cond.instanceMethod yX4_canBe, Cond.selects RX4 yX4_canBe yX4_canBe, Cond.code yX4_canBe cX4_canBe 8 (some .boolean), Cond.methodLink RX4 50 yX4_runs, Cond.instanceMethod yX4_runs, Cond.selects RX4 yX4_runs yX4_runs, Cond.code yX4_runs cX4_runs 3 none, Cond.fieldLink RX4 17 "WordsBesideModel" "gives" "[I", Cond.methodLink RX4 56 yX4_at, Cond.static yX4_at, Cond.code yX4_at cX4_at 3 (some .int), Cond.methodLink RX4 60 yX4_goes, Cond.instanceMethod yX4_goes, Cond.selects RX4 yX4_goes yX4_goes]
def wsX4_change_r2 : List Cond := [Cond.code yX4_goes cX4_goes 9 (some .int), Cond.constant RX4 64 (-2147483648), Cond.constantLong RX4 65 (1000000), Cond.constantLong RX4 67 (-1000000)]
def wsX4_change : List Cond := .code yX4_change cX4_change 4 (some .boolean) :: ((wsX4_change_r1 ++ wsX4_change_r2) ++ wsX40)
def wsX4_give : List Cond := .code yX4_give cX4_give 4 (some .int) :: ([.fieldLink RX4 17 "WordsBesideModel" "gives" "[I", .methodLink RX4 56 yX4_at, .static yX4_at, .initialized RX4, .code yX4_at cX4_at 3 (some .int)] ++ wsX40)
def wsX4_isRun : List Cond := .code yX4_isRun cX4_isRun 3 (some .boolean) :: ([.methodLink RX4 46 yX4_isFunction, .static yX4_isFunction, .initialized RX4, .code yX4_isFunction cX4_isFunction 1 (some .boolean), .methodLink RX4 42 yX4_in, .static yX4_in, .code yX4_in cX4_in 3 (some .boolean)])
def wsX4_run : List Cond := .code yX4_run cX4_run 4 (some .int) :: ([.constant RX4 64 (-2147483648), .methodLink RX4 69 yX4_isRun, .static yX4_isRun, .initialized RX4, .code yX4_isRun cX4_isRun 3 (some .boolean), .methodLink RX4 46 yX4_isFunction, .static yX4_isFunction, .code yX4_isFunction cX4_isFunction 1 (some .boolean), .methodLink RX4 42 yX4_in, .static yX4_in, .code yX4_in cX4_in 3 (some .boolean), .methodLink RX4 72 yX4_give, .instanceMethod yX4_give, .selects RX4 yX4_give yX4_give, .code yX4_give cX4_give 4 (some .int), .fieldLink RX4 17 "WordsBesideModel" "gives" "[I", .methodLink RX4 56 yX4_at, .static yX4_at, .code yX4_at cX4_at 3 (some .int)] ++ wsX40)
def wsX4_keep : List Cond := .code yX4_keep cX4_keep 3 (some .int) :: ([.fieldLink RX4 75 "WordsBesideModel" "kept" "I", .fieldLink RX4 17 "WordsBesideModel" "gives" "[I", .methodLink RX4 56 yX4_at, .static yX4_at, .initialized RX4, .code yX4_at cX4_at 3 (some .int), .methodLink RX4 72 yX4_give, .instanceMethod yX4_give, .selects RX4 yX4_give yX4_give, .code yX4_give cX4_give 4 (some .int)] ++ wsX40)
def wsX4_was : List Cond := .code yX4_was cX4_was 5 (some .int) :: ([.fieldLink RX4 75 "WordsBesideModel" "kept" "I", .constant RX4 64 (-2147483648), .methodLink RX4 42 yX4_in, .static yX4_in, .initialized RX4, .code yX4_in cX4_in 3 (some .boolean), .methodLink RX4 69 yX4_isRun, .static yX4_isRun, .code yX4_isRun cX4_isRun 3 (some .boolean), .methodLink RX4 46 yX4_isFunction, .static yX4_isFunction, .code yX4_isFunction cX4_isFunction 1 (some .boolean), .methodLink RX4 72 yX4_give, .instanceMethod yX4_give, .selects RX4 yX4_give yX4_give, .code yX4_give cX4_give 4 (some .int), .fieldLink RX4 17 "WordsBesideModel" "gives" "[I", .methodLink RX4 56 yX4_at, .static yX4_at, .code yX4_at cX4_at 3 (some .int)] ++ wsX40)
def wsX4_claim : List Cond := .code yX4_claim cX4_claim 6 (some .int) :: ([.fieldLink RX4 79 "WordsBesideModel" "claims" "I", .constant RX4 82 (-1000000), .constant RX4 83 (1000000), .fieldLink RX4 20 "WordsBesideModel" "of" "[I", .fieldLink RX4 23 "WordsBesideModel" "kind" "[I", .fieldLink RX4 26 "WordsBesideModel" "first" "[I", .fieldLink RX4 29 "WordsBesideModel" "second" "[I", .fieldLink RX4 32 "WordsBesideModel" "base" "[I", .fieldLink RX4 75 "WordsBesideModel" "kept" "I", .methodLink RX4 46 yX4_isFunction, .static yX4_isFunction, .initialized RX4, .code yX4_isFunction cX4_isFunction 1 (some .boolean), .methodLink RX4 42 yX4_in, .static yX4_in, .code yX4_in cX4_in 3 (some .boolean)] ++ wsX40)
def wsX4_isClaim : List Cond := .code yX4_isClaim cX4_isClaim 2 (some .boolean) :: ([.fieldLink RX4 79 "WordsBesideModel" "claims" "I", .methodLink RX4 42 yX4_in, .static yX4_in, .initialized RX4, .code yX4_in cX4_in 3 (some .boolean)] ++ wsX40)
def wsX4_denies : List Cond := .code yX4_denies cX4_denies 8 (some .boolean) :: ([.fieldLink RX4 20 "WordsBesideModel" "of" "[I", .constant RX4 64 (-2147483648), .fieldLink RX4 26 "WordsBesideModel" "first" "[I", .fieldLink RX4 23 "WordsBesideModel" "kind" "[I", .fieldLink RX4 29 "WordsBesideModel" "second" "[I", .methodLink RX4 72 yX4_give, .instanceMethod yX4_give, .selects RX4 yX4_give yX4_give, .initialized RX4, .code yX4_give cX4_give 4 (some .int), .fieldLink RX4 17 "WordsBesideModel" "gives" "[I", .methodLink RX4 56 yX4_at, .static yX4_at, .code yX4_at cX4_at 3 (some .int)] ++ wsX40)
def wsX4_harm : List Cond := .code yX4_harm cX4_harm 5 (some .int) :: ([.methodLink RX4 84 yX4_denies, .instanceMethod yX4_denies, .selects RX4 yX4_denies yX4_denies, .initialized RX4, .code yX4_denies cX4_denies 8 (some .boolean), .fieldLink RX4 20 "WordsBesideModel" "of" "[I", .constant RX4 64 (-2147483648), .fieldLink RX4 26 "WordsBesideModel" "first" "[I", .fieldLink RX4 23 "WordsBesideModel" "kind" "[I", .fieldLink RX4 29 "WordsBesideModel" "second" "[I", .methodLink RX4 72 yX4_give, .instanceMethod yX4_give, .selects RX4 yX4_give yX4_give, .code yX4_give cX4_give 4 (some .int), .fieldLink RX4 17 "WordsBesideModel" "gives" "[I", .methodLink RX4 56 yX4_at, .static yX4_at, .code yX4_at cX4_at 3 (some .int)] ++ wsX40)
def wsX4_lastHeld : List Cond := .code yX4_lastHeld cX4_lastHeld 3 (some .int) :: ([.fieldLink RX4 75 "WordsBesideModel" "kept" "I", .fieldLink RX4 32 "WordsBesideModel" "base" "[I", .methodLink RX4 87 yX4_harm, .instanceMethod yX4_harm, .selects RX4 yX4_harm yX4_harm, .initialized RX4, .code yX4_harm cX4_harm 5 (some .int), .methodLink RX4 84 yX4_denies, .instanceMethod yX4_denies, .selects RX4 yX4_denies yX4_denies, .code yX4_denies cX4_denies 8 (some .boolean), .fieldLink RX4 20 "WordsBesideModel" "of" "[I", .constant RX4 64 (-2147483648), .fieldLink RX4 26 "WordsBesideModel" "first" "[I", .fieldLink RX4 23 "WordsBesideModel" "kind" "[I", .fieldLink RX4 29 "WordsBesideModel" "second" "[I", .methodLink RX4 72 yX4_give, .instanceMethod yX4_give, .selects RX4 yX4_give yX4_give, .code yX4_give cX4_give 4 (some .int), .fieldLink RX4 17 "WordsBesideModel" "gives" "[I", .methodLink RX4 56 yX4_at, .static yX4_at, .code yX4_at cX4_at 3 (some .int)] ++ wsX40)
def wsX4_isHeld : List Cond := .code yX4_isHeld cX4_isHeld 2 (some .boolean) :: ([.methodLink RX4 87 yX4_harm, .instanceMethod yX4_harm, .selects RX4 yX4_harm yX4_harm, .initialized RX4, .code yX4_harm cX4_harm 5 (some .int), .methodLink RX4 84 yX4_denies, .instanceMethod yX4_denies, .selects RX4 yX4_denies yX4_denies, .code yX4_denies cX4_denies 8 (some .boolean), .fieldLink RX4 20 "WordsBesideModel" "of" "[I", .constant RX4 64 (-2147483648), .fieldLink RX4 26 "WordsBesideModel" "first" "[I", .fieldLink RX4 23 "WordsBesideModel" "kind" "[I", .fieldLink RX4 29 "WordsBesideModel" "second" "[I", .methodLink RX4 72 yX4_give, .instanceMethod yX4_give, .selects RX4 yX4_give yX4_give, .code yX4_give cX4_give 4 (some .int), .fieldLink RX4 17 "WordsBesideModel" "gives" "[I", .methodLink RX4 56 yX4_at, .static yX4_at, .code yX4_at cX4_at 3 (some .int)] ++ wsX40)
def wsX4_stateOf_r1 : List Cond := [Cond.methodLink RX4 90 yX4_isHeld, Cond.instanceMethod yX4_isHeld, Cond.selects RX4 yX4_isHeld yX4_isHeld, Cond.initialized RX4, Cond.code yX4_isHeld cX4_isHeld 2 (some .boolean), Cond.methodLink RX4 87 yX4_harm, Cond.instanceMethod yX4_harm, Cond.selects RX4 yX4_harm yX4_harm, Cond.code yX4_harm cX4_harm 5 (some .int), Cond.methodLink RX4 84 yX4_denies, Cond.instanceMethod yX4_denies, Cond.selects RX4 yX4_denies yX4_denies, Cond.code yX4_denies cX4_denies 8 (some .boolean), Cond.fieldLink RX4 20 "WordsBesideModel" "of" "[I", Cond.constant RX4 64 (-2147483648), Cond.fieldLink RX4 26 "WordsBesideModel" "first" "[I", Cond.fieldLink RX4 23 "WordsBesideModel" "kind" "[I", Cond.fieldLink RX4 29 "WordsBesideModel" "second" "[I", Cond.methodLink RX4 72 yX4_give, Cond.instanceMethod yX4_give, Cond.selects RX4 yX4_give yX4_give, Cond.code yX4_give cX4_give 4 (some .int), Cond.fieldLink RX4 17 "WordsBesideModel" "gives" "[I", Cond.methodLink RX4 56 yX4_at]
def wsX4_stateOf_r2 : List Cond := [Cond.static yX4_at, Cond.code yX4_at cX4_at 3 (some .int), Cond.methodLink RX4 93 yX4_lastHeld, Cond.instanceMethod yX4_lastHeld, Cond.selects RX4 yX4_lastHeld yX4_lastHeld, Cond.code yX4_lastHeld cX4_lastHeld 3 (some .int), Cond.fieldLink RX4 75 "WordsBesideModel" "kept" "I", Cond.fieldLink RX4 32 "WordsBesideModel" "base" "[I"]
def wsX4_stateOf : List Cond := .code yX4_stateOf cX4_stateOf 2 (some .int) :: ((wsX4_stateOf_r1 ++ wsX4_stateOf_r2) ++ wsX40)
def wsX4_told_r1 : List Cond := [Cond.constant RX4 64 (-2147483648), Cond.fieldLink RX4 20 "WordsBesideModel" "of" "[I", Cond.fieldLink RX4 23 "WordsBesideModel" "kind" "[I", Cond.fieldLink RX4 26 "WordsBesideModel" "first" "[I", Cond.fieldLink RX4 29 "WordsBesideModel" "second" "[I", Cond.fieldLink RX4 35 "WordsBesideModel" "isMarked" "[Z", Cond.methodLink RX4 97 yX4_isClaim, Cond.instanceMethod yX4_isClaim, Cond.selects RX4 yX4_isClaim yX4_isClaim, Cond.initialized RX4, Cond.code yX4_isClaim cX4_isClaim 2 (some .boolean), Cond.fieldLink RX4 79 "WordsBesideModel" "claims" "I", Cond.methodLink RX4 42 yX4_in, Cond.static yX4_in, Cond.code yX4_in cX4_in 3 (some .boolean), Cond.methodLink RX4 100 yX4_stateOf, Cond.instanceMethod yX4_stateOf, Cond.selects RX4 yX4_stateOf yX4_stateOf, Cond.code yX4_stateOf cX4_stateOf 2 (some .int), Cond.methodLink RX4 90 yX4_isHeld, Cond.instanceMethod yX4_isHeld, Cond.selects RX4 yX4_isHeld yX4_isHeld, Cond.code yX4_isHeld cX4_isHeld 2 (some .boolean), Cond.methodLink RX4 87 yX4_harm]
def wsX4_told_r2 : List Cond := [Cond.instanceMethod yX4_harm, Cond.selects RX4 yX4_harm yX4_harm, Cond.code yX4_harm cX4_harm 5 (some .int), Cond.methodLink RX4 84 yX4_denies, Cond.instanceMethod yX4_denies, Cond.selects RX4 yX4_denies yX4_denies, Cond.code yX4_denies cX4_denies 8 (some .boolean), Cond.methodLink RX4 72 yX4_give, Cond.instanceMethod yX4_give, Cond.selects RX4 yX4_give yX4_give, Cond.code yX4_give cX4_give 4 (some .int), Cond.fieldLink RX4 17 "WordsBesideModel" "gives" "[I", Cond.methodLink RX4 56 yX4_at, Cond.static yX4_at, Cond.code yX4_at cX4_at 3 (some .int), Cond.methodLink RX4 93 yX4_lastHeld, Cond.instanceMethod yX4_lastHeld, Cond.selects RX4 yX4_lastHeld yX4_lastHeld, Cond.code yX4_lastHeld cX4_lastHeld 3 (some .int), Cond.fieldLink RX4 75 "WordsBesideModel" "kept" "I", Cond.fieldLink RX4 32 "WordsBesideModel" "base" "[I"]
def wsX4_told : List Cond := .code yX4_told cX4_told 3 (some .int) :: ((wsX4_told_r1 ++ wsX4_told_r2) ++ wsX40)
def wsX4_denied_r1 : List Cond := [Cond.methodLink RX4 97 yX4_isClaim, Cond.instanceMethod yX4_isClaim, Cond.selects RX4 yX4_isClaim yX4_isClaim, Cond.initialized RX4, Cond.code yX4_isClaim cX4_isClaim 2 (some .boolean), Cond.fieldLink RX4 79 "WordsBesideModel" "claims" "I", Cond.methodLink RX4 42 yX4_in, Cond.static yX4_in, Cond.code yX4_in cX4_in 3 (some .boolean), Cond.methodLink RX4 84 yX4_denies, Cond.instanceMethod yX4_denies, Cond.selects RX4 yX4_denies yX4_denies, Cond.code yX4_denies cX4_denies 8 (some .boolean), Cond.fieldLink RX4 20 "WordsBesideModel" "of" "[I", Cond.constant RX4 64 (-2147483648), Cond.fieldLink RX4 26 "WordsBesideModel" "first" "[I", Cond.fieldLink RX4 23 "WordsBesideModel" "kind" "[I", Cond.fieldLink RX4 29 "WordsBesideModel" "second" "[I", Cond.methodLink RX4 72 yX4_give, Cond.instanceMethod yX4_give, Cond.selects RX4 yX4_give yX4_give, Cond.code yX4_give cX4_give 4 (some .int), Cond.fieldLink RX4 17 "WordsBesideModel" "gives" "[I", Cond.methodLink RX4 56 yX4_at]
def wsX4_denied_r2 : List Cond := [Cond.static yX4_at, Cond.code yX4_at cX4_at 3 (some .int)]
def wsX4_denied : List Cond := .code yX4_denied cX4_denied 3 (some .int) :: ((wsX4_denied_r1 ++ wsX4_denied_r2) ++ wsX40)
def wsX4_spans : List Cond := .code yX4_spans cX4_spans 4 (some .boolean) :: ([.constant RX4 115 (1000001), .fieldLink RX4 109 "WordsBesideModel" "mendOne" "I", .constant RX4 116 (-1000001), .fieldLink RX4 117 "WordsBesideModel" "mendTwo" "I", .fieldLink RX4 20 "WordsBesideModel" "of" "[I", .constant RX4 64 (-2147483648), .constant RX4 83 (1000000), .methodLink RX4 72 yX4_give, .instanceMethod yX4_give, .selects RX4 yX4_give yX4_give, .initialized RX4, .code yX4_give cX4_give 4 (some .int), .fieldLink RX4 17 "WordsBesideModel" "gives" "[I", .methodLink RX4 56 yX4_at, .static yX4_at, .code yX4_at cX4_at 3 (some .int)] ++ wsX40)
def wsX4_divides : List Cond := .code yX4_divides cX4_divides 5 (some .boolean) :: ([.fieldLink RX4 109 "WordsBesideModel" "mendOne" "I", .fieldLink RX4 20 "WordsBesideModel" "of" "[I", .constant RX4 64 (-2147483648), .methodLink RX4 72 yX4_give, .instanceMethod yX4_give, .selects RX4 yX4_give yX4_give, .initialized RX4, .code yX4_give cX4_give 4 (some .int), .fieldLink RX4 17 "WordsBesideModel" "gives" "[I", .methodLink RX4 56 yX4_at, .static yX4_at, .code yX4_at cX4_at 3 (some .int)] ++ wsX40)
def wsX4_refuses_r1 : List Cond := [Cond.fieldLink RX4 26 "WordsBesideModel" "first" "[I", Cond.fieldLink RX4 109 "WordsBesideModel" "mendOne" "I", Cond.methodLink RX4 90 yX4_isHeld, Cond.instanceMethod yX4_isHeld, Cond.selects RX4 yX4_isHeld yX4_isHeld, Cond.initialized RX4, Cond.code yX4_isHeld cX4_isHeld 2 (some .boolean), Cond.methodLink RX4 87 yX4_harm, Cond.instanceMethod yX4_harm, Cond.selects RX4 yX4_harm yX4_harm, Cond.code yX4_harm cX4_harm 5 (some .int), Cond.methodLink RX4 84 yX4_denies, Cond.instanceMethod yX4_denies, Cond.selects RX4 yX4_denies yX4_denies, Cond.code yX4_denies cX4_denies 8 (some .boolean), Cond.fieldLink RX4 20 "WordsBesideModel" "of" "[I", Cond.constant RX4 64 (-2147483648), Cond.fieldLink RX4 23 "WordsBesideModel" "kind" "[I", Cond.fieldLink RX4 29 "WordsBesideModel" "second" "[I", Cond.methodLink RX4 72 yX4_give, Cond.instanceMethod yX4_give, Cond.selects RX4 yX4_give yX4_give, Cond.code yX4_give cX4_give 4 (some .int), Cond.fieldLink RX4 17 "WordsBesideModel" "gives" "[I"]
def wsX4_refuses_r2 : List Cond := [Cond.methodLink RX4 56 yX4_at, Cond.static yX4_at, Cond.code yX4_at cX4_at 3 (some .int)]
def wsX4_refuses : List Cond := .code yX4_refuses cX4_refuses 5 (some .boolean) :: ((wsX4_refuses_r1 ++ wsX4_refuses_r2) ++ wsX40)
def wsX4_mends_r1 : List Cond := [Cond.fieldLink RX4 23 "WordsBesideModel" "kind" "[I", Cond.fieldLink RX4 20 "WordsBesideModel" "of" "[I", Cond.fieldLink RX4 26 "WordsBesideModel" "first" "[I", Cond.fieldLink RX4 109 "WordsBesideModel" "mendOne" "I", Cond.constant RX4 64 (-2147483648), Cond.methodLink RX4 97 yX4_isClaim, Cond.instanceMethod yX4_isClaim, Cond.selects RX4 yX4_isClaim yX4_isClaim, Cond.initialized RX4, Cond.code yX4_isClaim cX4_isClaim 2 (some .boolean), Cond.fieldLink RX4 79 "WordsBesideModel" "claims" "I", Cond.methodLink RX4 42 yX4_in, Cond.static yX4_in, Cond.code yX4_in cX4_in 3 (some .boolean), Cond.methodLink RX4 90 yX4_isHeld, Cond.instanceMethod yX4_isHeld, Cond.selects RX4 yX4_isHeld yX4_isHeld, Cond.code yX4_isHeld cX4_isHeld 2 (some .boolean), Cond.methodLink RX4 87 yX4_harm, Cond.instanceMethod yX4_harm, Cond.selects RX4 yX4_harm yX4_harm, Cond.code yX4_harm cX4_harm 5 (some .int), Cond.methodLink RX4 84 yX4_denies, Cond.instanceMethod yX4_denies]
def wsX4_mends_r2 : List Cond := [Cond.selects RX4 yX4_denies yX4_denies, Cond.code yX4_denies cX4_denies 8 (some .boolean), Cond.fieldLink RX4 29 "WordsBesideModel" "second" "[I", Cond.methodLink RX4 72 yX4_give, Cond.instanceMethod yX4_give, Cond.selects RX4 yX4_give yX4_give, Cond.code yX4_give cX4_give 4 (some .int), Cond.fieldLink RX4 17 "WordsBesideModel" "gives" "[I", Cond.methodLink RX4 56 yX4_at, Cond.static yX4_at, Cond.code yX4_at cX4_at 3 (some .int), Cond.methodLink RX4 103 yX4_spans, Cond.instanceMethod yX4_spans, Cond.selects RX4 yX4_spans yX4_spans, Cond.code yX4_spans cX4_spans 4 (some .boolean), Cond.constant RX4 115 (1000001), Cond.constant RX4 116 (-1000001), Cond.fieldLink RX4 117 "WordsBesideModel" "mendTwo" "I", Cond.constant RX4 83 (1000000), Cond.methodLink RX4 106 yX4_divides, Cond.instanceMethod yX4_divides, Cond.selects RX4 yX4_divides yX4_divides, Cond.code yX4_divides cX4_divides 5 (some .boolean), Cond.methodLink RX4 112 yX4_refuses]
def wsX4_mends_r3 : List Cond := [Cond.instanceMethod yX4_refuses, Cond.selects RX4 yX4_refuses yX4_refuses, Cond.code yX4_refuses cX4_refuses 5 (some .boolean)]
def wsX4_mends : List Cond := .code yX4_mends cX4_mends 2 (some .boolean) :: ((wsX4_mends_r1 ++ (wsX4_mends_r2 ++ wsX4_mends_r3)) ++ wsX40)
def wsX4_mend_r1 : List Cond := [Cond.fieldLink RX4 23 "WordsBesideModel" "kind" "[I", Cond.constant RX4 64 (-2147483648), Cond.fieldLink RX4 109 "WordsBesideModel" "mendOne" "I", Cond.fieldLink RX4 117 "WordsBesideModel" "mendTwo" "I", Cond.methodLink RX4 120 yX4_mends, Cond.instanceMethod yX4_mends, Cond.selects RX4 yX4_mends yX4_mends, Cond.initialized RX4, Cond.code yX4_mends cX4_mends 2 (some .boolean), Cond.fieldLink RX4 20 "WordsBesideModel" "of" "[I", Cond.fieldLink RX4 26 "WordsBesideModel" "first" "[I", Cond.methodLink RX4 97 yX4_isClaim, Cond.instanceMethod yX4_isClaim, Cond.selects RX4 yX4_isClaim yX4_isClaim, Cond.code yX4_isClaim cX4_isClaim 2 (some .boolean), Cond.fieldLink RX4 79 "WordsBesideModel" "claims" "I", Cond.methodLink RX4 42 yX4_in, Cond.static yX4_in, Cond.code yX4_in cX4_in 3 (some .boolean), Cond.methodLink RX4 90 yX4_isHeld, Cond.instanceMethod yX4_isHeld, Cond.selects RX4 yX4_isHeld yX4_isHeld, Cond.code yX4_isHeld cX4_isHeld 2 (some .boolean), Cond.methodLink RX4 87 yX4_harm]
def wsX4_mend_r2 : List Cond := [Cond.instanceMethod yX4_harm, Cond.selects RX4 yX4_harm yX4_harm, Cond.code yX4_harm cX4_harm 5 (some .int), Cond.methodLink RX4 84 yX4_denies, Cond.instanceMethod yX4_denies, Cond.selects RX4 yX4_denies yX4_denies, Cond.code yX4_denies cX4_denies 8 (some .boolean), Cond.fieldLink RX4 29 "WordsBesideModel" "second" "[I", Cond.methodLink RX4 72 yX4_give, Cond.instanceMethod yX4_give, Cond.selects RX4 yX4_give yX4_give, Cond.code yX4_give cX4_give 4 (some .int), Cond.fieldLink RX4 17 "WordsBesideModel" "gives" "[I", Cond.methodLink RX4 56 yX4_at, Cond.static yX4_at, Cond.code yX4_at cX4_at 3 (some .int), Cond.methodLink RX4 103 yX4_spans, Cond.instanceMethod yX4_spans, Cond.selects RX4 yX4_spans yX4_spans, Cond.code yX4_spans cX4_spans 4 (some .boolean), Cond.constant RX4 115 (1000001), Cond.constant RX4 116 (-1000001), Cond.constant RX4 83 (1000000), Cond.methodLink RX4 106 yX4_divides]
def wsX4_mend_r3 : List Cond := [Cond.instanceMethod yX4_divides, Cond.selects RX4 yX4_divides yX4_divides, Cond.code yX4_divides cX4_divides 5 (some .boolean), Cond.methodLink RX4 112 yX4_refuses, Cond.instanceMethod yX4_refuses, Cond.selects RX4 yX4_refuses yX4_refuses, Cond.code yX4_refuses cX4_refuses 5 (some .boolean)]
def wsX4_mend : List Cond := .code yX4_mend cX4_mend 3 (some .int) :: ((wsX4_mend_r1 ++ (wsX4_mend_r2 ++ wsX4_mend_r3)) ++ wsX40)
def wsX4_mended_r1 : List Cond := [Cond.fieldLink RX4 23 "WordsBesideModel" "kind" "[I", Cond.fieldLink RX4 29 "WordsBesideModel" "second" "[I", Cond.fieldLink RX4 109 "WordsBesideModel" "mendOne" "I", Cond.fieldLink RX4 26 "WordsBesideModel" "first" "[I", Cond.fieldLink RX4 117 "WordsBesideModel" "mendTwo" "I", Cond.methodLink RX4 120 yX4_mends, Cond.instanceMethod yX4_mends, Cond.selects RX4 yX4_mends yX4_mends, Cond.initialized RX4, Cond.code yX4_mends cX4_mends 2 (some .boolean), Cond.fieldLink RX4 20 "WordsBesideModel" "of" "[I", Cond.constant RX4 64 (-2147483648), Cond.methodLink RX4 97 yX4_isClaim, Cond.instanceMethod yX4_isClaim, Cond.selects RX4 yX4_isClaim yX4_isClaim, Cond.code yX4_isClaim cX4_isClaim 2 (some .boolean), Cond.fieldLink RX4 79 "WordsBesideModel" "claims" "I", Cond.methodLink RX4 42 yX4_in, Cond.static yX4_in, Cond.code yX4_in cX4_in 3 (some .boolean), Cond.methodLink RX4 90 yX4_isHeld, Cond.instanceMethod yX4_isHeld, Cond.selects RX4 yX4_isHeld yX4_isHeld, Cond.code yX4_isHeld cX4_isHeld 2 (some .boolean)]
def wsX4_mended_r2 : List Cond := [Cond.methodLink RX4 87 yX4_harm, Cond.instanceMethod yX4_harm, Cond.selects RX4 yX4_harm yX4_harm, Cond.code yX4_harm cX4_harm 5 (some .int), Cond.methodLink RX4 84 yX4_denies, Cond.instanceMethod yX4_denies, Cond.selects RX4 yX4_denies yX4_denies, Cond.code yX4_denies cX4_denies 8 (some .boolean), Cond.methodLink RX4 72 yX4_give, Cond.instanceMethod yX4_give, Cond.selects RX4 yX4_give yX4_give, Cond.code yX4_give cX4_give 4 (some .int), Cond.fieldLink RX4 17 "WordsBesideModel" "gives" "[I", Cond.methodLink RX4 56 yX4_at, Cond.static yX4_at, Cond.code yX4_at cX4_at 3 (some .int), Cond.methodLink RX4 103 yX4_spans, Cond.instanceMethod yX4_spans, Cond.selects RX4 yX4_spans yX4_spans, Cond.code yX4_spans cX4_spans 4 (some .boolean), Cond.constant RX4 115 (1000001), Cond.constant RX4 116 (-1000001), Cond.constant RX4 83 (1000000), Cond.methodLink RX4 106 yX4_divides]
def wsX4_mended_r3 : List Cond := [Cond.instanceMethod yX4_divides, Cond.selects RX4 yX4_divides yX4_divides, Cond.code yX4_divides cX4_divides 5 (some .boolean), Cond.methodLink RX4 112 yX4_refuses, Cond.instanceMethod yX4_refuses, Cond.selects RX4 yX4_refuses yX4_refuses, Cond.code yX4_refuses cX4_refuses 5 (some .boolean)]
def wsX4_mended : List Cond := .code yX4_mended cX4_mended 2 (some .boolean) :: ((wsX4_mended_r1 ++ (wsX4_mended_r2 ++ wsX4_mended_r3)) ++ wsX40)
def wsX4_mark : List Cond := .code yX4_mark cX4_mark 2 (some .boolean) :: ([.fieldLink RX4 35 "WordsBesideModel" "isMarked" "[Z", .methodLink RX4 97 yX4_isClaim, .instanceMethod yX4_isClaim, .selects RX4 yX4_isClaim yX4_isClaim, .initialized RX4, .code yX4_isClaim cX4_isClaim 2 (some .boolean), .fieldLink RX4 79 "WordsBesideModel" "claims" "I", .methodLink RX4 42 yX4_in, .static yX4_in, .code yX4_in cX4_in 3 (some .boolean)] ++ wsX40)
def wsX4_listed_r1 : List Cond := [Cond.fieldLink RX4 79 "WordsBesideModel" "claims" "I", Cond.fieldLink RX4 39 "WordsBesideModel" "harms" "[I", Cond.fieldLink RX4 35 "WordsBesideModel" "isMarked" "[Z", Cond.methodLink RX4 87 yX4_harm, Cond.instanceMethod yX4_harm, Cond.selects RX4 yX4_harm yX4_harm, Cond.initialized RX4, Cond.code yX4_harm cX4_harm 5 (some .int), Cond.methodLink RX4 84 yX4_denies, Cond.instanceMethod yX4_denies, Cond.selects RX4 yX4_denies yX4_denies, Cond.code yX4_denies cX4_denies 8 (some .boolean), Cond.fieldLink RX4 20 "WordsBesideModel" "of" "[I", Cond.constant RX4 64 (-2147483648), Cond.fieldLink RX4 26 "WordsBesideModel" "first" "[I", Cond.fieldLink RX4 23 "WordsBesideModel" "kind" "[I", Cond.fieldLink RX4 29 "WordsBesideModel" "second" "[I", Cond.methodLink RX4 72 yX4_give, Cond.instanceMethod yX4_give, Cond.selects RX4 yX4_give yX4_give, Cond.code yX4_give cX4_give 4 (some .int), Cond.fieldLink RX4 17 "WordsBesideModel" "gives" "[I", Cond.methodLink RX4 56 yX4_at, Cond.static yX4_at]
def wsX4_listed_r2 : List Cond := [Cond.code yX4_at cX4_at 3 (some .int)]
def wsX4_listed : List Cond := .code yX4_listed cX4_listed 5 (some .int) :: ((wsX4_listed_r1 ++ wsX4_listed_r2) ++ wsX40)
def wsX4_hasClaim : List Cond := .code yX4_hasClaim cX4_hasClaim 5 (some .boolean) :: ([.fieldLink RX4 79 "WordsBesideModel" "claims" "I", .fieldLink RX4 20 "WordsBesideModel" "of" "[I", .fieldLink RX4 23 "WordsBesideModel" "kind" "[I"] ++ wsX40)
def wsX4_refused : List Cond := .code yX4_refused cX4_refused 4 (some .int) :: ([.constant RX4 64 (-2147483648), .methodLink RX4 72 yX4_give, .instanceMethod yX4_give, .selects RX4 yX4_give yX4_give, .initialized RX4, .code yX4_give cX4_give 4 (some .int), .fieldLink RX4 17 "WordsBesideModel" "gives" "[I", .methodLink RX4 56 yX4_at, .static yX4_at, .code yX4_at cX4_at 3 (some .int)] ++ wsX40)
def wsX4_missing_r1 : List Cond := [Cond.constant RX4 64 (-2147483648), Cond.fieldLink RX4 9 "WordsBesideModel" "longs" "[I", Cond.methodLink RX4 46 yX4_isFunction, Cond.static yX4_isFunction, Cond.initialized RX4, Cond.code yX4_isFunction cX4_isFunction 1 (some .boolean), Cond.methodLink RX4 42 yX4_in, Cond.static yX4_in, Cond.code yX4_in cX4_in 3 (some .boolean), Cond.methodLink RX4 72 yX4_give, Cond.instanceMethod yX4_give, Cond.selects RX4 yX4_give yX4_give, Cond.code yX4_give cX4_give 4 (some .int), Cond.fieldLink RX4 17 "WordsBesideModel" "gives" "[I", Cond.methodLink RX4 56 yX4_at, Cond.static yX4_at, Cond.code yX4_at cX4_at 3 (some .int), Cond.methodLink RX4 123 yX4_refused, Cond.instanceMethod yX4_refused, Cond.selects RX4 yX4_refused yX4_refused, Cond.code yX4_refused cX4_refused 4 (some .int), Cond.methodLink RX4 126 yX4_hasClaim, Cond.instanceMethod yX4_hasClaim, Cond.selects RX4 yX4_hasClaim yX4_hasClaim]
def wsX4_missing_r2 : List Cond := [Cond.code yX4_hasClaim cX4_hasClaim 5 (some .boolean), Cond.fieldLink RX4 79 "WordsBesideModel" "claims" "I", Cond.fieldLink RX4 20 "WordsBesideModel" "of" "[I", Cond.fieldLink RX4 23 "WordsBesideModel" "kind" "[I"]
def wsX4_missing : List Cond := .code yX4_missing cX4_missing 5 (some .int) :: ((wsX4_missing_r1 ++ wsX4_missing_r2) ++ wsX40)
def wsX4_count_r1 : List Cond := [Cond.fieldLink RX4 9 "WordsBesideModel" "longs" "[I", Cond.fieldLink RX4 79 "WordsBesideModel" "claims" "I", Cond.fieldLink RX4 75 "WordsBesideModel" "kept" "I", Cond.fieldLink RX4 35 "WordsBesideModel" "isMarked" "[Z", Cond.methodLink RX4 42 yX4_in, Cond.static yX4_in, Cond.initialized RX4, Cond.code yX4_in cX4_in 3 (some .boolean), Cond.methodLink RX4 123 yX4_refused, Cond.instanceMethod yX4_refused, Cond.selects RX4 yX4_refused yX4_refused, Cond.code yX4_refused cX4_refused 4 (some .int), Cond.constant RX4 64 (-2147483648), Cond.methodLink RX4 72 yX4_give, Cond.instanceMethod yX4_give, Cond.selects RX4 yX4_give yX4_give, Cond.code yX4_give cX4_give 4 (some .int), Cond.fieldLink RX4 17 "WordsBesideModel" "gives" "[I", Cond.methodLink RX4 56 yX4_at, Cond.static yX4_at, Cond.code yX4_at cX4_at 3 (some .int), Cond.methodLink RX4 100 yX4_stateOf, Cond.instanceMethod yX4_stateOf, Cond.selects RX4 yX4_stateOf yX4_stateOf]
def wsX4_count_r2 : List Cond := [Cond.code yX4_stateOf cX4_stateOf 2 (some .int), Cond.methodLink RX4 90 yX4_isHeld, Cond.instanceMethod yX4_isHeld, Cond.selects RX4 yX4_isHeld yX4_isHeld, Cond.code yX4_isHeld cX4_isHeld 2 (some .boolean), Cond.methodLink RX4 87 yX4_harm, Cond.instanceMethod yX4_harm, Cond.selects RX4 yX4_harm yX4_harm, Cond.code yX4_harm cX4_harm 5 (some .int), Cond.methodLink RX4 84 yX4_denies, Cond.instanceMethod yX4_denies, Cond.selects RX4 yX4_denies yX4_denies, Cond.code yX4_denies cX4_denies 8 (some .boolean), Cond.fieldLink RX4 20 "WordsBesideModel" "of" "[I", Cond.fieldLink RX4 26 "WordsBesideModel" "first" "[I", Cond.fieldLink RX4 23 "WordsBesideModel" "kind" "[I", Cond.fieldLink RX4 29 "WordsBesideModel" "second" "[I", Cond.methodLink RX4 93 yX4_lastHeld, Cond.instanceMethod yX4_lastHeld, Cond.selects RX4 yX4_lastHeld yX4_lastHeld, Cond.code yX4_lastHeld cX4_lastHeld 3 (some .int), Cond.fieldLink RX4 32 "WordsBesideModel" "base" "[I"]
def wsX4_count : List Cond := .code yX4_count cX4_count 4 (some .int) :: ((wsX4_count_r1 ++ wsX4_count_r2) ++ wsX40)
def wsJ9_abs_0f7a4 : List Cond := .code yJ9_abs_0f7a4 cJ9_abs_0f7a4 1 (some .int) :: ([])
def wsJ9_max_7cf53 : List Cond := .code yJ9_max_7cf53 cJ9_max_7cf53 2 (some .int) :: ([])
def wsJ9_min_7cf53 : List Cond := .code yJ9_min_7cf53 cJ9_min_7cf53 2 (some .int) :: ([])
abbrev vwCl : List vw_C := [(RX0, TX0, 7), (RX1, TX1, 2), (RX2, TX2, 1), (RX3, TX3, 8), (RX4, TX4, 14)]
end
section
theorem dX0_init_0 : decode cX0_init 0 = .ok (.aload_n 0, 1) := by decide +kernel
theorem dX0_init_1 : decode cX0_init 1 = .ok (.invokespecial 3, 3) := by decide +kernel
theorem dX0_init_4 : decode cX0_init 4 = .ok (.aload_n 0, 1) := by decide +kernel
theorem dX0_init_5 : decode cX0_init 5 = .ok (.iload_n 1, 1) := by decide +kernel
theorem dX0_init_6 : decode cX0_init 6 = .ok (.putfield 9, 3) := by decide +kernel
theorem dX0_init_9 : decode cX0_init 9 = .ok (.aload_n 0, 1) := by decide +kernel
theorem dX0_init_10 : decode cX0_init 10 = .ok (.iload_n 2, 1) := by decide +kernel
theorem dX0_init_11 : decode cX0_init 11 = .ok (.putfield 15, 3) := by decide +kernel
theorem dX0_init_14 : decode cX0_init 14 = .ok (.aload_n 0, 1) := by decide +kernel
theorem dX0_init_15 : decode cX0_init 15 = .ok (.iload_n 3, 1) := by decide +kernel
theorem dX0_init_16 : decode cX0_init 16 = .ok (.putfield 18, 3) := by decide +kernel
theorem dX0_init_19 : decode cX0_init 19 = .ok (.aload_n 0, 1) := by decide +kernel
theorem dX0_init_20 : decode cX0_init 20 = .ok (.iload 4, 2) := by decide +kernel
theorem dX0_init_22 : decode cX0_init 22 = .ok (.putfield 21, 3) := by decide +kernel
theorem dX0_init_25 : decode cX0_init 25 = .ok (.aload_n 0, 1) := by decide +kernel
theorem dX0_init_26 : decode cX0_init 26 = .ok (.iload 5, 2) := by decide +kernel
theorem dX0_init_28 : decode cX0_init 28 = .ok (.putfield 24, 3) := by decide +kernel
theorem dX0_init_31 : decode cX0_init 31 = .ok (.aload_n 0, 1) := by decide +kernel
theorem dX0_init_32 : decode cX0_init 32 = .ok (.iconst (-1), 1) := by decide +kernel
theorem dX0_init_33 : decode cX0_init 33 = .ok (.putfield 27, 3) := by decide +kernel
theorem dX0_init_36 : decode cX0_init 36 = .ok (.aload_n 0, 1) := by decide +kernel
theorem dX0_init_37 : decode cX0_init 37 = .ok (.iconst 0, 1) := by decide +kernel
theorem dX0_init_38 : decode cX0_init 38 = .ok (.putfield 30, 3) := by decide +kernel
theorem dX0_init_41 : decode cX0_init 41 = .ok (.return_, 1) := by decide +kernel
set_option maxRecDepth 20000 in
theorem ggX0_isHeldIn_X0_firstDenialIn : GoodIn wsX0_isHeldIn wsX0_firstDenialIn := goodIn_r _ [5, 6, 7, 8, 4, 9, 10, 11, 12, 13, 14, 15, 16, 17, 18, 19, 20, 21, 22, 23, 24, 25, 26, 27, 28, 29] (by decide +kernel) (by decide +kernel)
set_option maxRecDepth 20000 in
theorem gX0_isHeldIn_X0_firstDenialIn : GoodIn wsX0_isHeldIn (wsV RX0 34 RX0 yX0_firstDenialIn wsX0_firstDenialIn) := goodIn_app (goodIn_of _ (by decide +kernel)) ggX0_isHeldIn_X0_firstDenialIn
theorem dX0_isHeldIn_0 : decode cX0_isHeldIn 0 = .ok (.aload_n 0, 1) := by decide +kernel
theorem dX0_isHeldIn_1 : decode cX0_isHeldIn 1 = .ok (.aload_n 1, 1) := by decide +kernel
theorem dX0_isHeldIn_2 : decode cX0_isHeldIn 2 = .ok (.invokevirtual 34, 3) := by decide +kernel
theorem dX0_isHeldIn_5 : decode cX0_isHeldIn 5 = .ok (.iconst (-1), 1) := by decide +kernel
theorem dX0_isHeldIn_6 : decode cX0_isHeldIn 6 = .ok (.if_icmp .ne 7, 3) := by decide +kernel
theorem dX0_isHeldIn_9 : decode cX0_isHeldIn 9 = .ok (.iconst 1, 1) := by decide +kernel
theorem dX0_isHeldIn_10 : decode cX0_isHeldIn 10 = .ok (.goto 4, 3) := by decide +kernel
theorem dX0_isHeldIn_13 : decode cX0_isHeldIn 13 = .ok (.iconst 0, 1) := by decide +kernel
theorem dX0_isHeldIn_14 : decode cX0_isHeldIn 14 = .ok (.ireturn, 1) := by decide +kernel
set_option maxRecDepth 20000 in
theorem ggX0_firstDenialIn_X0_isDeniedBy : GoodIn wsX0_firstDenialIn wsX0_isDeniedBy := goodIn_r _ [5, 6, 7, 8, 9, 10, 11, 12, 13, 14, 15, 16, 17, 18, 19, 20, 21, 22, 23, 24, 25] (by decide +kernel) (by decide +kernel)
set_option maxRecDepth 20000 in
theorem gX0_firstDenialIn_X0_isDeniedBy : GoodIn wsX0_firstDenialIn (wsV RX0 38 RX0 yX0_isDeniedBy wsX0_isDeniedBy) := goodIn_app (goodIn_of _ (by decide +kernel)) ggX0_firstDenialIn_X0_isDeniedBy
theorem dX0_firstDenialIn_0 : decode cX0_firstDenialIn 0 = .ok (.iconst 0, 1) := by decide +kernel
theorem dX0_firstDenialIn_1 : decode cX0_firstDenialIn 1 = .ok (.istore_n 2, 1) := by decide +kernel
theorem dX0_firstDenialIn_2 : decode cX0_firstDenialIn 2 = .ok (.iload_n 2, 1) := by decide +kernel
theorem dX0_firstDenialIn_3 : decode cX0_firstDenialIn 3 = .ok (.sipush 256, 3) := by decide +kernel
theorem dX0_firstDenialIn_6 : decode cX0_firstDenialIn 6 = .ok (.if_icmp .ge 20, 3) := by decide +kernel
theorem dX0_firstDenialIn_9 : decode cX0_firstDenialIn 9 = .ok (.aload_n 0, 1) := by decide +kernel
theorem dX0_firstDenialIn_10 : decode cX0_firstDenialIn 10 = .ok (.iload_n 2, 1) := by decide +kernel
theorem dX0_firstDenialIn_11 : decode cX0_firstDenialIn 11 = .ok (.aload_n 1, 1) := by decide +kernel
theorem dX0_firstDenialIn_12 : decode cX0_firstDenialIn 12 = .ok (.invokevirtual 38, 3) := by decide +kernel
theorem dX0_firstDenialIn_15 : decode cX0_firstDenialIn 15 = .ok (.ifCond .eq 5, 3) := by decide +kernel
theorem dX0_firstDenialIn_18 : decode cX0_firstDenialIn 18 = .ok (.iload_n 2, 1) := by decide +kernel
theorem dX0_firstDenialIn_19 : decode cX0_firstDenialIn 19 = .ok (.ireturn, 1) := by decide +kernel
theorem dX0_firstDenialIn_20 : decode cX0_firstDenialIn 20 = .ok (.iinc 2 1, 3) := by decide +kernel
theorem dX0_firstDenialIn_23 : decode cX0_firstDenialIn 23 = .ok (.goto (-21), 3) := by decide +kernel
theorem dX0_firstDenialIn_26 : decode cX0_firstDenialIn 26 = .ok (.iconst (-1), 1) := by decide +kernel
theorem dX0_firstDenialIn_27 : decode cX0_firstDenialIn 27 = .ok (.ireturn, 1) := by decide +kernel
set_option maxRecDepth 20000 in
theorem ggX0_harmIn_X0_isDeniedBy : GoodIn wsX0_harmIn wsX0_isDeniedBy := goodIn_r _ [5, 6, 7, 8, 9, 10, 11, 12, 13, 14, 15, 16, 17, 18, 19, 20, 21, 22, 23, 24, 25] (by decide +kernel) (by decide +kernel)
set_option maxRecDepth 20000 in
theorem gX0_harmIn_X0_isDeniedBy : GoodIn wsX0_harmIn (wsV RX0 38 RX0 yX0_isDeniedBy wsX0_isDeniedBy) := goodIn_app (goodIn_of _ (by decide +kernel)) ggX0_harmIn_X0_isDeniedBy
theorem dX0_harmIn_0 : decode cX0_harmIn 0 = .ok (.iconst 0, 1) := by decide +kernel
theorem dX0_harmIn_1 : decode cX0_harmIn 1 = .ok (.istore_n 2, 1) := by decide +kernel
theorem dX0_harmIn_2 : decode cX0_harmIn 2 = .ok (.iconst 0, 1) := by decide +kernel
theorem dX0_harmIn_3 : decode cX0_harmIn 3 = .ok (.istore_n 3, 1) := by decide +kernel
theorem dX0_harmIn_4 : decode cX0_harmIn 4 = .ok (.iload_n 3, 1) := by decide +kernel
theorem dX0_harmIn_5 : decode cX0_harmIn 5 = .ok (.sipush 256, 3) := by decide +kernel
theorem dX0_harmIn_8 : decode cX0_harmIn 8 = .ok (.if_icmp .ge 21, 3) := by decide +kernel
theorem dX0_harmIn_11 : decode cX0_harmIn 11 = .ok (.aload_n 0, 1) := by decide +kernel
theorem dX0_harmIn_12 : decode cX0_harmIn 12 = .ok (.iload_n 3, 1) := by decide +kernel
theorem dX0_harmIn_13 : decode cX0_harmIn 13 = .ok (.aload_n 1, 1) := by decide +kernel
theorem dX0_harmIn_14 : decode cX0_harmIn 14 = .ok (.invokevirtual 38, 3) := by decide +kernel
theorem dX0_harmIn_17 : decode cX0_harmIn 17 = .ok (.ifCond .eq 6, 3) := by decide +kernel
theorem dX0_harmIn_20 : decode cX0_harmIn 20 = .ok (.iinc 2 1, 3) := by decide +kernel
theorem dX0_harmIn_23 : decode cX0_harmIn 23 = .ok (.iinc 3 1, 3) := by decide +kernel
theorem dX0_harmIn_26 : decode cX0_harmIn 26 = .ok (.goto (-22), 3) := by decide +kernel
theorem dX0_harmIn_29 : decode cX0_harmIn 29 = .ok (.iload_n 2, 1) := by decide +kernel
theorem dX0_harmIn_30 : decode cX0_harmIn 30 = .ok (.ireturn, 1) := by decide +kernel
set_option maxRecDepth 20000 in
theorem ggX0_isDeniedBy_X2_given : GoodIn wsX0_isDeniedBy wsX2_given := goodIn_r _ [10, 11, 12, 20] (by decide +kernel) (by decide +kernel)
set_option maxRecDepth 20000 in
theorem gX0_isDeniedBy_X2_given : GoodIn wsX0_isDeniedBy (wsV RX0 42 RX2 yX2_given wsX2_given) := goodIn_app (goodIn_of _ (by decide +kernel)) ggX0_isDeniedBy_X2_given
theorem dX0_isDeniedBy_0 : decode cX0_isDeniedBy 0 = .ok (.aload_n 2, 1) := by decide +kernel
theorem dX0_isDeniedBy_1 : decode cX0_isDeniedBy 1 = .ok (.aload_n 0, 1) := by decide +kernel
theorem dX0_isDeniedBy_2 : decode cX0_isDeniedBy 2 = .ok (.getfield 9, 3) := by decide +kernel
theorem dX0_isDeniedBy_5 : decode cX0_isDeniedBy 5 = .ok (.iload_n 1, 1) := by decide +kernel
theorem dX0_isDeniedBy_6 : decode cX0_isDeniedBy 6 = .ok (.invokevirtual 42, 3) := by decide +kernel
theorem dX0_isDeniedBy_9 : decode cX0_isDeniedBy 9 = .ok (.istore_n 3, 1) := by decide +kernel
theorem dX0_isDeniedBy_10 : decode cX0_isDeniedBy 10 = .ok (.iload_n 3, 1) := by decide +kernel
theorem dX0_isDeniedBy_11 : decode cX0_isDeniedBy 11 = .ok (.ldc 48, 2) := by decide +kernel
theorem dX0_isDeniedBy_13 : decode cX0_isDeniedBy 13 = .ok (.if_icmp .ne 7, 3) := by decide +kernel
theorem dX0_isDeniedBy_16 : decode cX0_isDeniedBy 16 = .ok (.iconst 1, 1) := by decide +kernel
theorem dX0_isDeniedBy_17 : decode cX0_isDeniedBy 17 = .ok (.goto 4, 3) := by decide +kernel
theorem dX0_isDeniedBy_20 : decode cX0_isDeniedBy 20 = .ok (.iconst 0, 1) := by decide +kernel
theorem dX0_isDeniedBy_21 : decode cX0_isDeniedBy 21 = .ok (.istore 4, 2) := by decide +kernel
theorem dX0_isDeniedBy_23 : decode cX0_isDeniedBy 23 = .ok (.iload_n 1, 1) := by decide +kernel
theorem dX0_isDeniedBy_24 : decode cX0_isDeniedBy 24 = .ok (.bipush 16, 2) := by decide +kernel
theorem dX0_isDeniedBy_26 : decode cX0_isDeniedBy 26 = .ok (.idiv, 1) := by decide +kernel
theorem dX0_isDeniedBy_27 : decode cX0_isDeniedBy 27 = .ok (.istore 5, 2) := by decide +kernel
theorem dX0_isDeniedBy_29 : decode cX0_isDeniedBy 29 = .ok (.iload_n 1, 1) := by decide +kernel
theorem dX0_isDeniedBy_30 : decode cX0_isDeniedBy 30 = .ok (.bipush 16, 2) := by decide +kernel
theorem dX0_isDeniedBy_32 : decode cX0_isDeniedBy 32 = .ok (.irem, 1) := by decide +kernel
theorem dX0_isDeniedBy_33 : decode cX0_isDeniedBy 33 = .ok (.istore 6, 2) := by decide +kernel
theorem dX0_isDeniedBy_35 : decode cX0_isDeniedBy 35 = .ok (.aload_n 0, 1) := by decide +kernel
theorem dX0_isDeniedBy_36 : decode cX0_isDeniedBy 36 = .ok (.getfield 15, 3) := by decide +kernel
theorem dX0_isDeniedBy_39 : decode cX0_isDeniedBy 39 = .ok (.tableswitch 232 0 7 #[45, 72, 75, 113, 140, 166, 188, 213], 45) := by decide +kernel
theorem dX0_isDeniedBy_84 : decode cX0_isDeniedBy 84 = .ok (.iload 4, 2) := by decide +kernel
theorem dX0_isDeniedBy_86 : decode cX0_isDeniedBy 86 = .ok (.ifCond .ne 23, 3) := by decide +kernel
theorem dX0_isDeniedBy_89 : decode cX0_isDeniedBy 89 = .ok (.iload_n 3, 1) := by decide +kernel
theorem dX0_isDeniedBy_90 : decode cX0_isDeniedBy 90 = .ok (.aload_n 0, 1) := by decide +kernel
theorem dX0_isDeniedBy_91 : decode cX0_isDeniedBy 91 = .ok (.getfield 18, 3) := by decide +kernel
theorem dX0_isDeniedBy_94 : decode cX0_isDeniedBy 94 = .ok (.if_icmp .lt 11, 3) := by decide +kernel
theorem dX0_isDeniedBy_97 : decode cX0_isDeniedBy 97 = .ok (.iload_n 3, 1) := by decide +kernel
theorem dX0_isDeniedBy_98 : decode cX0_isDeniedBy 98 = .ok (.aload_n 0, 1) := by decide +kernel
theorem dX0_isDeniedBy_99 : decode cX0_isDeniedBy 99 = .ok (.getfield 21, 3) := by decide +kernel
theorem dX0_isDeniedBy_102 : decode cX0_isDeniedBy 102 = .ok (.if_icmp .le 7, 3) := by decide +kernel
theorem dX0_isDeniedBy_105 : decode cX0_isDeniedBy 105 = .ok (.iconst 1, 1) := by decide +kernel
theorem dX0_isDeniedBy_106 : decode cX0_isDeniedBy 106 = .ok (.goto 4, 3) := by decide +kernel
theorem dX0_isDeniedBy_109 : decode cX0_isDeniedBy 109 = .ok (.iconst 0, 1) := by decide +kernel
theorem dX0_isDeniedBy_110 : decode cX0_isDeniedBy 110 = .ok (.ireturn, 1) := by decide +kernel
theorem dX0_isDeniedBy_111 : decode cX0_isDeniedBy 111 = .ok (.iload 4, 2) := by decide +kernel
theorem dX0_isDeniedBy_113 : decode cX0_isDeniedBy 113 = .ok (.ireturn, 1) := by decide +kernel
theorem dX0_isDeniedBy_114 : decode cX0_isDeniedBy 114 = .ok (.aload_n 2, 1) := by decide +kernel
theorem dX0_isDeniedBy_115 : decode cX0_isDeniedBy 115 = .ok (.aload_n 0, 1) := by decide +kernel
theorem dX0_isDeniedBy_116 : decode cX0_isDeniedBy 116 = .ok (.getfield 9, 3) := by decide +kernel
theorem dX0_isDeniedBy_119 : decode cX0_isDeniedBy 119 = .ok (.iload_n 1, 1) := by decide +kernel
theorem dX0_isDeniedBy_120 : decode cX0_isDeniedBy 120 = .ok (.bipush 16, 2) := by decide +kernel
theorem dX0_isDeniedBy_122 : decode cX0_isDeniedBy 122 = .ok (.iadd, 1) := by decide +kernel
theorem dX0_isDeniedBy_123 : decode cX0_isDeniedBy 123 = .ok (.invokevirtual 42, 3) := by decide +kernel
theorem dX0_isDeniedBy_126 : decode cX0_isDeniedBy 126 = .ok (.istore 7, 2) := by decide +kernel
theorem dX0_isDeniedBy_128 : decode cX0_isDeniedBy 128 = .ok (.iload 4, 2) := by decide +kernel
theorem dX0_isDeniedBy_130 : decode cX0_isDeniedBy 130 = .ok (.ifCond .ne 20, 3) := by decide +kernel
theorem dX0_isDeniedBy_133 : decode cX0_isDeniedBy 133 = .ok (.iload 7, 2) := by decide +kernel
theorem dX0_isDeniedBy_135 : decode cX0_isDeniedBy 135 = .ok (.ldc 48, 2) := by decide +kernel
theorem dX0_isDeniedBy_137 : decode cX0_isDeniedBy 137 = .ok (.if_icmp .eq 13, 3) := by decide +kernel
theorem dX0_isDeniedBy_140 : decode cX0_isDeniedBy 140 = .ok (.iload 7, 2) := by decide +kernel
theorem dX0_isDeniedBy_142 : decode cX0_isDeniedBy 142 = .ok (.iload_n 3, 1) := by decide +kernel
theorem dX0_isDeniedBy_143 : decode cX0_isDeniedBy 143 = .ok (.if_icmp .ge 7, 3) := by decide +kernel
theorem dX0_isDeniedBy_146 : decode cX0_isDeniedBy 146 = .ok (.iconst 1, 1) := by decide +kernel
theorem dX0_isDeniedBy_147 : decode cX0_isDeniedBy 147 = .ok (.goto 4, 3) := by decide +kernel
theorem dX0_isDeniedBy_150 : decode cX0_isDeniedBy 150 = .ok (.iconst 0, 1) := by decide +kernel
theorem dX0_isDeniedBy_151 : decode cX0_isDeniedBy 151 = .ok (.ireturn, 1) := by decide +kernel
theorem dX0_isDeniedBy_152 : decode cX0_isDeniedBy 152 = .ok (.iload 4, 2) := by decide +kernel
theorem dX0_isDeniedBy_154 : decode cX0_isDeniedBy 154 = .ok (.ifCond .ne 23, 3) := by decide +kernel
theorem dX0_isDeniedBy_157 : decode cX0_isDeniedBy 157 = .ok (.aload_n 0, 1) := by decide +kernel
theorem dX0_isDeniedBy_158 : decode cX0_isDeniedBy 158 = .ok (.getfield 18, 3) := by decide +kernel
theorem dX0_isDeniedBy_161 : decode cX0_isDeniedBy 161 = .ok (.ifCond .le 16, 3) := by decide +kernel
theorem dX0_isDeniedBy_164 : decode cX0_isDeniedBy 164 = .ok (.iload_n 3, 1) := by decide +kernel
theorem dX0_isDeniedBy_165 : decode cX0_isDeniedBy 165 = .ok (.aload_n 0, 1) := by decide +kernel
theorem dX0_isDeniedBy_166 : decode cX0_isDeniedBy 166 = .ok (.getfield 18, 3) := by decide +kernel
theorem dX0_isDeniedBy_169 : decode cX0_isDeniedBy 169 = .ok (.irem, 1) := by decide +kernel
theorem dX0_isDeniedBy_170 : decode cX0_isDeniedBy 170 = .ok (.ifCond .eq 7, 3) := by decide +kernel
theorem dX0_isDeniedBy_173 : decode cX0_isDeniedBy 173 = .ok (.iconst 1, 1) := by decide +kernel
theorem dX0_isDeniedBy_174 : decode cX0_isDeniedBy 174 = .ok (.goto 4, 3) := by decide +kernel
theorem dX0_isDeniedBy_177 : decode cX0_isDeniedBy 177 = .ok (.iconst 0, 1) := by decide +kernel
theorem dX0_isDeniedBy_178 : decode cX0_isDeniedBy 178 = .ok (.ireturn, 1) := by decide +kernel
theorem dX0_isDeniedBy_179 : decode cX0_isDeniedBy 179 = .ok (.iload_n 3, 1) := by decide +kernel
theorem dX0_isDeniedBy_180 : decode cX0_isDeniedBy 180 = .ok (.aload_n 2, 1) := by decide +kernel
theorem dX0_isDeniedBy_181 : decode cX0_isDeniedBy 181 = .ok (.aload_n 0, 1) := by decide +kernel
theorem dX0_isDeniedBy_182 : decode cX0_isDeniedBy 182 = .ok (.getfield 9, 3) := by decide +kernel
theorem dX0_isDeniedBy_185 : decode cX0_isDeniedBy 185 = .ok (.iload 6, 2) := by decide +kernel
theorem dX0_isDeniedBy_187 : decode cX0_isDeniedBy 187 = .ok (.bipush 16, 2) := by decide +kernel
theorem dX0_isDeniedBy_189 : decode cX0_isDeniedBy 189 = .ok (.imul, 1) := by decide +kernel
theorem dX0_isDeniedBy_190 : decode cX0_isDeniedBy 190 = .ok (.iload 5, 2) := by decide +kernel
theorem dX0_isDeniedBy_192 : decode cX0_isDeniedBy 192 = .ok (.iadd, 1) := by decide +kernel
theorem dX0_isDeniedBy_193 : decode cX0_isDeniedBy 193 = .ok (.invokevirtual 42, 3) := by decide +kernel
theorem dX0_isDeniedBy_196 : decode cX0_isDeniedBy 196 = .ok (.if_icmp .eq 7, 3) := by decide +kernel
theorem dX0_isDeniedBy_199 : decode cX0_isDeniedBy 199 = .ok (.iconst 1, 1) := by decide +kernel
theorem dX0_isDeniedBy_200 : decode cX0_isDeniedBy 200 = .ok (.goto 4, 3) := by decide +kernel
theorem dX0_isDeniedBy_203 : decode cX0_isDeniedBy 203 = .ok (.iconst 0, 1) := by decide +kernel
theorem dX0_isDeniedBy_204 : decode cX0_isDeniedBy 204 = .ok (.ireturn, 1) := by decide +kernel
theorem dX0_isDeniedBy_205 : decode cX0_isDeniedBy 205 = .ok (.iload_n 1, 1) := by decide +kernel
theorem dX0_isDeniedBy_206 : decode cX0_isDeniedBy 206 = .ok (.aload_n 0, 1) := by decide +kernel
theorem dX0_isDeniedBy_207 : decode cX0_isDeniedBy 207 = .ok (.getfield 18, 3) := by decide +kernel
theorem dX0_isDeniedBy_210 : decode cX0_isDeniedBy 210 = .ok (.if_icmp .ne 15, 3) := by decide +kernel
theorem dX0_isDeniedBy_213 : decode cX0_isDeniedBy 213 = .ok (.iload_n 3, 1) := by decide +kernel
theorem dX0_isDeniedBy_214 : decode cX0_isDeniedBy 214 = .ok (.aload_n 0, 1) := by decide +kernel
theorem dX0_isDeniedBy_215 : decode cX0_isDeniedBy 215 = .ok (.getfield 21, 3) := by decide +kernel
theorem dX0_isDeniedBy_218 : decode cX0_isDeniedBy 218 = .ok (.if_icmp .eq 7, 3) := by decide +kernel
theorem dX0_isDeniedBy_221 : decode cX0_isDeniedBy 221 = .ok (.iconst 1, 1) := by decide +kernel
theorem dX0_isDeniedBy_222 : decode cX0_isDeniedBy 222 = .ok (.goto 4, 3) := by decide +kernel
theorem dX0_isDeniedBy_225 : decode cX0_isDeniedBy 225 = .ok (.iconst 0, 1) := by decide +kernel
theorem dX0_isDeniedBy_226 : decode cX0_isDeniedBy 226 = .ok (.ireturn, 1) := by decide +kernel
theorem dX0_isDeniedBy_227 : decode cX0_isDeniedBy 227 = .ok (.iload 4, 2) := by decide +kernel
theorem dX0_isDeniedBy_229 : decode cX0_isDeniedBy 229 = .ok (.iload 5, 2) := by decide +kernel
theorem dX0_isDeniedBy_231 : decode cX0_isDeniedBy 231 = .ok (.aload_n 0, 1) := by decide +kernel
theorem dX0_isDeniedBy_232 : decode cX0_isDeniedBy 232 = .ok (.getfield 18, 3) := by decide +kernel
theorem dX0_isDeniedBy_235 : decode cX0_isDeniedBy 235 = .ok (.if_icmp .ge 7, 3) := by decide +kernel
theorem dX0_isDeniedBy_238 : decode cX0_isDeniedBy 238 = .ok (.iconst 1, 1) := by decide +kernel
theorem dX0_isDeniedBy_239 : decode cX0_isDeniedBy 239 = .ok (.goto 4, 3) := by decide +kernel
theorem dX0_isDeniedBy_242 : decode cX0_isDeniedBy 242 = .ok (.iconst 0, 1) := by decide +kernel
theorem dX0_isDeniedBy_243 : decode cX0_isDeniedBy 243 = .ok (.if_icmp .ne 7, 3) := by decide +kernel
theorem dX0_isDeniedBy_246 : decode cX0_isDeniedBy 246 = .ok (.iconst 1, 1) := by decide +kernel
theorem dX0_isDeniedBy_247 : decode cX0_isDeniedBy 247 = .ok (.goto 4, 3) := by decide +kernel
theorem dX0_isDeniedBy_250 : decode cX0_isDeniedBy 250 = .ok (.iconst 0, 1) := by decide +kernel
theorem dX0_isDeniedBy_251 : decode cX0_isDeniedBy 251 = .ok (.ireturn, 1) := by decide +kernel
theorem dX0_isDeniedBy_252 : decode cX0_isDeniedBy 252 = .ok (.iload_n 3, 1) := by decide +kernel
theorem dX0_isDeniedBy_253 : decode cX0_isDeniedBy 253 = .ok (.aload_n 2, 1) := by decide +kernel
theorem dX0_isDeniedBy_254 : decode cX0_isDeniedBy 254 = .ok (.aload_n 0, 1) := by decide +kernel
theorem dX0_isDeniedBy_255 : decode cX0_isDeniedBy 255 = .ok (.getfield 18, 3) := by decide +kernel
theorem dX0_isDeniedBy_258 : decode cX0_isDeniedBy 258 = .ok (.iload_n 1, 1) := by decide +kernel
theorem dX0_isDeniedBy_259 : decode cX0_isDeniedBy 259 = .ok (.invokevirtual 42, 3) := by decide +kernel
theorem dX0_isDeniedBy_262 : decode cX0_isDeniedBy 262 = .ok (.if_icmp .eq 7, 3) := by decide +kernel
theorem dX0_isDeniedBy_265 : decode cX0_isDeniedBy 265 = .ok (.iconst 1, 1) := by decide +kernel
theorem dX0_isDeniedBy_266 : decode cX0_isDeniedBy 266 = .ok (.goto 4, 3) := by decide +kernel
theorem dX0_isDeniedBy_269 : decode cX0_isDeniedBy 269 = .ok (.iconst 0, 1) := by decide +kernel
theorem dX0_isDeniedBy_270 : decode cX0_isDeniedBy 270 = .ok (.ireturn, 1) := by decide +kernel
theorem dX0_isDeniedBy_271 : decode cX0_isDeniedBy 271 = .ok (.iconst 0, 1) := by decide +kernel
theorem dX0_isDeniedBy_272 : decode cX0_isDeniedBy 272 = .ok (.ireturn, 1) := by decide +kernel
theorem dX1_init_0 : decode cX1_init 0 = .ok (.aload_n 0, 1) := by decide +kernel
theorem dX1_init_1 : decode cX1_init 1 = .ok (.invokespecial 3, 3) := by decide +kernel
theorem dX1_init_4 : decode cX1_init 4 = .ok (.aload_n 0, 1) := by decide +kernel
theorem dX1_init_5 : decode cX1_init 5 = .ok (.bipush 72, 2) := by decide +kernel
theorem dX1_init_7 : decode cX1_init 7 = .ok (.newarray .int, 2) := by decide +kernel
theorem dX1_init_9 : decode cX1_init 9 = .ok (.putfield 9, 3) := by decide +kernel
theorem dX1_init_12 : decode cX1_init 12 = .ok (.aload_n 0, 1) := by decide +kernel
theorem dX1_init_13 : decode cX1_init 13 = .ok (.bipush 6, 2) := by decide +kernel
theorem dX1_init_15 : decode cX1_init 15 = .ok (.newarray .int, 2) := by decide +kernel
theorem dX1_init_17 : decode cX1_init 17 = .ok (.putfield 15, 3) := by decide +kernel
theorem dX1_init_20 : decode cX1_init 20 = .ok (.return_, 1) := by decide +kernel
set_option maxRecDepth 20000 in
theorem ggX1_length_X3_isFunction : GoodIn wsX1_length wsX3_isFunction := goodIn_r _ [4] (by decide +kernel) (by decide +kernel)
set_option maxRecDepth 20000 in
theorem gX1_length_X3_isFunction_n18 : GoodIn wsX1_length (wsX3_isFunction) := ggX1_length_X3_isFunction
theorem dX1_length_0 : decode cX1_length 0 = .ok (.iload_n 1, 1) := by decide +kernel
theorem dX1_length_1 : decode cX1_length 1 = .ok (.invokestatic 18, 3) := by decide +kernel
theorem dX1_length_4 : decode cX1_length 4 = .ok (.ifCond .eq 12, 3) := by decide +kernel
theorem dX1_length_7 : decode cX1_length 7 = .ok (.aload_n 0, 1) := by decide +kernel
theorem dX1_length_8 : decode cX1_length 8 = .ok (.getfield 15, 3) := by decide +kernel
theorem dX1_length_11 : decode cX1_length 11 = .ok (.iload_n 1, 1) := by decide +kernel
theorem dX1_length_12 : decode cX1_length 12 = .ok (.iaload, 1) := by decide +kernel
theorem dX1_length_13 : decode cX1_length 13 = .ok (.goto 4, 3) := by decide +kernel
theorem dX1_length_16 : decode cX1_length 16 = .ok (.iconst 0, 1) := by decide +kernel
theorem dX1_length_17 : decode cX1_length 17 = .ok (.ireturn, 1) := by decide +kernel
set_option maxRecDepth 20000 in
theorem ggX1_empty_X3_isFunction : GoodIn wsX1_empty wsX3_isFunction := goodIn_r _ [4] (by decide +kernel) (by decide +kernel)
set_option maxRecDepth 20000 in
theorem gX1_empty_X3_isFunction_n18 : GoodIn wsX1_empty (wsX3_isFunction) := ggX1_empty_X3_isFunction
theorem dX1_empty_0 : decode cX1_empty 0 = .ok (.iload_n 1, 1) := by decide +kernel
theorem dX1_empty_1 : decode cX1_empty 1 = .ok (.invokestatic 18, 3) := by decide +kernel
theorem dX1_empty_4 : decode cX1_empty 4 = .ok (.ifCond .eq 10, 3) := by decide +kernel
theorem dX1_empty_7 : decode cX1_empty 7 = .ok (.aload_n 0, 1) := by decide +kernel
theorem dX1_empty_8 : decode cX1_empty 8 = .ok (.getfield 15, 3) := by decide +kernel
theorem dX1_empty_11 : decode cX1_empty 11 = .ok (.iload_n 1, 1) := by decide +kernel
theorem dX1_empty_12 : decode cX1_empty 12 = .ok (.iconst 0, 1) := by decide +kernel
theorem dX1_empty_13 : decode cX1_empty 13 = .ok (.iastore, 1) := by decide +kernel
theorem dX1_empty_14 : decode cX1_empty 14 = .ok (.return_, 1) := by decide +kernel
set_option maxRecDepth 20000 in
theorem ggX1_append_X3_isFunction : GoodIn wsX1_append wsX3_isFunction := goodIn_r _ [4] (by decide +kernel) (by decide +kernel)
set_option maxRecDepth 20000 in
theorem gX1_append_X3_isFunction_n18 : GoodIn wsX1_append (wsX3_isFunction) := ggX1_append_X3_isFunction
set_option maxRecDepth 20000 in
theorem ggX1_append_X1_put : GoodIn wsX1_append wsX1_put := goodIn_r _ [9, 10, 2, 3, 4, 11, 12] (by decide +kernel) (by decide +kernel)
set_option maxRecDepth 20000 in
theorem gX1_append_X1_put : GoodIn wsX1_append (wsV RX1 22 RX1 yX1_put wsX1_put) := goodIn_app (goodIn_of _ (by decide +kernel)) ggX1_append_X1_put
theorem dX1_append_0 : decode cX1_append 0 = .ok (.iload_n 1, 1) := by decide +kernel
theorem dX1_append_1 : decode cX1_append 1 = .ok (.invokestatic 18, 3) := by decide +kernel
theorem dX1_append_4 : decode cX1_append 4 = .ok (.ifCond .eq 38, 3) := by decide +kernel
theorem dX1_append_7 : decode cX1_append 7 = .ok (.aload_n 0, 1) := by decide +kernel
theorem dX1_append_8 : decode cX1_append 8 = .ok (.getfield 15, 3) := by decide +kernel
theorem dX1_append_11 : decode cX1_append 11 = .ok (.iload_n 1, 1) := by decide +kernel
theorem dX1_append_12 : decode cX1_append 12 = .ok (.iaload, 1) := by decide +kernel
theorem dX1_append_13 : decode cX1_append 13 = .ok (.bipush 12, 2) := by decide +kernel
theorem dX1_append_15 : decode cX1_append 15 = .ok (.if_icmp .ge 27, 3) := by decide +kernel
theorem dX1_append_18 : decode cX1_append 18 = .ok (.aload_n 0, 1) := by decide +kernel
theorem dX1_append_19 : decode cX1_append 19 = .ok (.getfield 15, 3) := by decide +kernel
theorem dX1_append_22 : decode cX1_append 22 = .ok (.iload_n 1, 1) := by decide +kernel
theorem dX1_append_23 : decode cX1_append 23 = .ok (.dup2, 1) := by decide +kernel
theorem dX1_append_24 : decode cX1_append 24 = .ok (.iaload, 1) := by decide +kernel
theorem dX1_append_25 : decode cX1_append 25 = .ok (.iconst 1, 1) := by decide +kernel
theorem dX1_append_26 : decode cX1_append 26 = .ok (.iadd, 1) := by decide +kernel
theorem dX1_append_27 : decode cX1_append 27 = .ok (.iastore, 1) := by decide +kernel
theorem dX1_append_28 : decode cX1_append 28 = .ok (.aload_n 0, 1) := by decide +kernel
theorem dX1_append_29 : decode cX1_append 29 = .ok (.iload_n 1, 1) := by decide +kernel
theorem dX1_append_30 : decode cX1_append 30 = .ok (.aload_n 0, 1) := by decide +kernel
theorem dX1_append_31 : decode cX1_append 31 = .ok (.getfield 15, 3) := by decide +kernel
theorem dX1_append_34 : decode cX1_append 34 = .ok (.iload_n 1, 1) := by decide +kernel
theorem dX1_append_35 : decode cX1_append 35 = .ok (.iaload, 1) := by decide +kernel
theorem dX1_append_36 : decode cX1_append 36 = .ok (.iconst 1, 1) := by decide +kernel
theorem dX1_append_37 : decode cX1_append 37 = .ok (.isub, 1) := by decide +kernel
theorem dX1_append_38 : decode cX1_append 38 = .ok (.iload_n 2, 1) := by decide +kernel
theorem dX1_append_39 : decode cX1_append 39 = .ok (.invokevirtual 22, 3) := by decide +kernel
theorem dX1_append_42 : decode cX1_append 42 = .ok (.return_, 1) := by decide +kernel
set_option maxRecDepth 20000 in
theorem ggX1_put_X3_isFunction : GoodIn wsX1_put wsX3_isFunction := goodIn_r _ [4] (by decide +kernel) (by decide +kernel)
set_option maxRecDepth 20000 in
theorem gX1_put_X3_isFunction_n18 : GoodIn wsX1_put (wsX3_isFunction) := ggX1_put_X3_isFunction
theorem dX1_put_0 : decode cX1_put 0 = .ok (.iload_n 1, 1) := by decide +kernel
theorem dX1_put_1 : decode cX1_put 1 = .ok (.invokestatic 18, 3) := by decide +kernel
theorem dX1_put_4 : decode cX1_put 4 = .ok (.ifCond .eq 25, 3) := by decide +kernel
theorem dX1_put_7 : decode cX1_put 7 = .ok (.iload_n 2, 1) := by decide +kernel
theorem dX1_put_8 : decode cX1_put 8 = .ok (.ifCond .lt 21, 3) := by decide +kernel
theorem dX1_put_11 : decode cX1_put 11 = .ok (.iload_n 2, 1) := by decide +kernel
theorem dX1_put_12 : decode cX1_put 12 = .ok (.bipush 12, 2) := by decide +kernel
theorem dX1_put_14 : decode cX1_put 14 = .ok (.if_icmp .ge 15, 3) := by decide +kernel
theorem dX1_put_17 : decode cX1_put 17 = .ok (.aload_n 0, 1) := by decide +kernel
theorem dX1_put_18 : decode cX1_put 18 = .ok (.getfield 9, 3) := by decide +kernel
theorem dX1_put_21 : decode cX1_put 21 = .ok (.iload_n 1, 1) := by decide +kernel
theorem dX1_put_22 : decode cX1_put 22 = .ok (.bipush 12, 2) := by decide +kernel
theorem dX1_put_24 : decode cX1_put 24 = .ok (.imul, 1) := by decide +kernel
theorem dX1_put_25 : decode cX1_put 25 = .ok (.iload_n 2, 1) := by decide +kernel
theorem dX1_put_26 : decode cX1_put 26 = .ok (.iadd, 1) := by decide +kernel
theorem dX1_put_27 : decode cX1_put 27 = .ok (.iload_n 3, 1) := by decide +kernel
theorem dX1_put_28 : decode cX1_put 28 = .ok (.iastore, 1) := by decide +kernel
theorem dX1_put_29 : decode cX1_put 29 = .ok (.return_, 1) := by decide +kernel
set_option maxRecDepth 20000 in
theorem ggX1_at_X3_isFunction : GoodIn wsX1_at wsX3_isFunction := goodIn_r _ [4] (by decide +kernel) (by decide +kernel)
set_option maxRecDepth 20000 in
theorem gX1_at_X3_isFunction_n18 : GoodIn wsX1_at (wsX3_isFunction) := ggX1_at_X3_isFunction
theorem dX1_at_0 : decode cX1_at 0 = .ok (.iload_n 1, 1) := by decide +kernel
theorem dX1_at_1 : decode cX1_at 1 = .ok (.invokestatic 18, 3) := by decide +kernel
theorem dX1_at_4 : decode cX1_at 4 = .ok (.ifCond .eq 13, 3) := by decide +kernel
theorem dX1_at_7 : decode cX1_at 7 = .ok (.iload_n 2, 1) := by decide +kernel
theorem dX1_at_8 : decode cX1_at 8 = .ok (.ifCond .lt 9, 3) := by decide +kernel
theorem dX1_at_11 : decode cX1_at 11 = .ok (.iload_n 2, 1) := by decide +kernel
theorem dX1_at_12 : decode cX1_at 12 = .ok (.bipush 12, 2) := by decide +kernel
theorem dX1_at_14 : decode cX1_at 14 = .ok (.if_icmp .lt 5, 3) := by decide +kernel
theorem dX1_at_17 : decode cX1_at 17 = .ok (.iconst (-1), 1) := by decide +kernel
theorem dX1_at_18 : decode cX1_at 18 = .ok (.ireturn, 1) := by decide +kernel
theorem dX1_at_19 : decode cX1_at 19 = .ok (.aload_n 0, 1) := by decide +kernel
theorem dX1_at_20 : decode cX1_at 20 = .ok (.getfield 9, 3) := by decide +kernel
theorem dX1_at_23 : decode cX1_at 23 = .ok (.iload_n 1, 1) := by decide +kernel
theorem dX1_at_24 : decode cX1_at 24 = .ok (.bipush 12, 2) := by decide +kernel
theorem dX1_at_26 : decode cX1_at 26 = .ok (.imul, 1) := by decide +kernel
theorem dX1_at_27 : decode cX1_at 27 = .ok (.iload_n 2, 1) := by decide +kernel
theorem dX1_at_28 : decode cX1_at 28 = .ok (.iadd, 1) := by decide +kernel
theorem dX1_at_29 : decode cX1_at 29 = .ok (.iaload, 1) := by decide +kernel
theorem dX1_at_30 : decode cX1_at 30 = .ok (.ireturn, 1) := by decide +kernel
set_option maxRecDepth 20000 in
theorem ggX1_canStand_X1_innerStepsBut : GoodIn wsX1_canStand wsX1_innerStepsBut := goodIn_r _ [5, 6, 7, 8, 4, 9, 10, 11, 12, 13, 14, 15, 16, 17, 18, 19, 20] (by decide +kernel) (by decide +kernel)
set_option maxRecDepth 20000 in
theorem gX1_canStand_X1_innerStepsBut : GoodIn wsX1_canStand (wsV RX1 26 RX1 yX1_innerStepsBut wsX1_innerStepsBut) := goodIn_app (goodIn_of _ (by decide +kernel)) ggX1_canStand_X1_innerStepsBut
theorem dX1_canStand_0 : decode cX1_canStand 0 = .ok (.iload_n 3, 1) := by decide +kernel
theorem dX1_canStand_1 : decode cX1_canStand 1 = .ok (.ifCond .ge 5, 3) := by decide +kernel
theorem dX1_canStand_4 : decode cX1_canStand 4 = .ok (.iconst 0, 1) := by decide +kernel
theorem dX1_canStand_5 : decode cX1_canStand 5 = .ok (.ireturn, 1) := by decide +kernel
theorem dX1_canStand_6 : decode cX1_canStand 6 = .ok (.iload_n 3, 1) := by decide +kernel
theorem dX1_canStand_7 : decode cX1_canStand 7 = .ok (.sipush 1000, 3) := by decide +kernel
theorem dX1_canStand_10 : decode cX1_canStand 10 = .ok (.idiv, 1) := by decide +kernel
theorem dX1_canStand_11 : decode cX1_canStand 11 = .ok (.istore 4, 2) := by decide +kernel
theorem dX1_canStand_13 : decode cX1_canStand 13 = .ok (.iload_n 3, 1) := by decide +kernel
theorem dX1_canStand_14 : decode cX1_canStand 14 = .ok (.sipush 1000, 3) := by decide +kernel
theorem dX1_canStand_17 : decode cX1_canStand 17 = .ok (.irem, 1) := by decide +kernel
theorem dX1_canStand_18 : decode cX1_canStand 18 = .ok (.istore 5, 2) := by decide +kernel
theorem dX1_canStand_20 : decode cX1_canStand 20 = .ok (.iload 4, 2) := by decide +kernel
theorem dX1_canStand_22 : decode cX1_canStand 22 = .ok (.bipush 9, 2) := by decide +kernel
theorem dX1_canStand_24 : decode cX1_canStand 24 = .ok (.if_icmp .ne 25, 3) := by decide +kernel
theorem dX1_canStand_27 : decode cX1_canStand 27 = .ok (.iload 5, 2) := by decide +kernel
theorem dX1_canStand_29 : decode cX1_canStand 29 = .ok (.iload_n 1, 1) := by decide +kernel
theorem dX1_canStand_30 : decode cX1_canStand 30 = .ok (.if_icmp .ge 17, 3) := by decide +kernel
theorem dX1_canStand_33 : decode cX1_canStand 33 = .ok (.aload_n 0, 1) := by decide +kernel
theorem dX1_canStand_34 : decode cX1_canStand 34 = .ok (.iload_n 1, 1) := by decide +kernel
theorem dX1_canStand_35 : decode cX1_canStand 35 = .ok (.iload_n 2, 1) := by decide +kernel
theorem dX1_canStand_36 : decode cX1_canStand 36 = .ok (.invokevirtual 26, 3) := by decide +kernel
theorem dX1_canStand_39 : decode cX1_canStand 39 = .ok (.iconst 2, 1) := by decide +kernel
theorem dX1_canStand_40 : decode cX1_canStand 40 = .ok (.if_icmp .ge 7, 3) := by decide +kernel
theorem dX1_canStand_43 : decode cX1_canStand 43 = .ok (.iconst 1, 1) := by decide +kernel
theorem dX1_canStand_44 : decode cX1_canStand 44 = .ok (.goto 4, 3) := by decide +kernel
theorem dX1_canStand_47 : decode cX1_canStand 47 = .ok (.iconst 0, 1) := by decide +kernel
theorem dX1_canStand_48 : decode cX1_canStand 48 = .ok (.ireturn, 1) := by decide +kernel
theorem dX1_canStand_49 : decode cX1_canStand 49 = .ok (.iload 4, 2) := by decide +kernel
theorem dX1_canStand_51 : decode cX1_canStand 51 = .ok (.bipush 10, 2) := by decide +kernel
theorem dX1_canStand_53 : decode cX1_canStand 53 = .ok (.if_icmp .ne 15, 3) := by decide +kernel
theorem dX1_canStand_56 : decode cX1_canStand 56 = .ok (.iload 5, 2) := by decide +kernel
theorem dX1_canStand_58 : decode cX1_canStand 58 = .ok (.iconst 1, 1) := by decide +kernel
theorem dX1_canStand_59 : decode cX1_canStand 59 = .ok (.if_icmp .lt 7, 3) := by decide +kernel
theorem dX1_canStand_62 : decode cX1_canStand 62 = .ok (.iconst 1, 1) := by decide +kernel
theorem dX1_canStand_63 : decode cX1_canStand 63 = .ok (.goto 4, 3) := by decide +kernel
theorem dX1_canStand_66 : decode cX1_canStand 66 = .ok (.iconst 0, 1) := by decide +kernel
theorem dX1_canStand_67 : decode cX1_canStand 67 = .ok (.ireturn, 1) := by decide +kernel
theorem dX1_canStand_68 : decode cX1_canStand 68 = .ok (.iload 4, 2) := by decide +kernel
theorem dX1_canStand_70 : decode cX1_canStand 70 = .ok (.bipush 9, 2) := by decide +kernel
theorem dX1_canStand_72 : decode cX1_canStand 72 = .ok (.if_icmp .ge 7, 3) := by decide +kernel
theorem dX1_canStand_75 : decode cX1_canStand 75 = .ok (.iconst 1, 1) := by decide +kernel
theorem dX1_canStand_76 : decode cX1_canStand 76 = .ok (.goto 4, 3) := by decide +kernel
theorem dX1_canStand_79 : decode cX1_canStand 79 = .ok (.iconst 0, 1) := by decide +kernel
theorem dX1_canStand_80 : decode cX1_canStand 80 = .ok (.ireturn, 1) := by decide +kernel
set_option maxRecDepth 20000 in
theorem ggX1_innerStepsBut_X1_length : GoodIn wsX1_innerStepsBut wsX1_length := goodIn_r _ [5, 6, 7, 8, 9, 15, 16] (by decide +kernel) (by decide +kernel)
set_option maxRecDepth 20000 in
theorem gX1_innerStepsBut_X1_length : GoodIn wsX1_innerStepsBut (wsV RX1 30 RX1 yX1_length wsX1_length) := goodIn_app (goodIn_of _ (by decide +kernel)) ggX1_innerStepsBut_X1_length
set_option maxRecDepth 20000 in
theorem ggX1_innerStepsBut_X1_at : GoodIn wsX1_innerStepsBut wsX1_at := goodIn_r _ [13, 14, 7, 8, 9, 15, 16] (by decide +kernel) (by decide +kernel)
set_option maxRecDepth 20000 in
theorem gX1_innerStepsBut_X1_at : GoodIn wsX1_innerStepsBut (wsV RX1 34 RX1 yX1_at wsX1_at) := goodIn_app (goodIn_of _ (by decide +kernel)) ggX1_innerStepsBut_X1_at
theorem dX1_innerStepsBut_0 : decode cX1_innerStepsBut 0 = .ok (.iconst 0, 1) := by decide +kernel
theorem dX1_innerStepsBut_1 : decode cX1_innerStepsBut 1 = .ok (.istore_n 3, 1) := by decide +kernel
theorem dX1_innerStepsBut_2 : decode cX1_innerStepsBut 2 = .ok (.iconst 0, 1) := by decide +kernel
theorem dX1_innerStepsBut_3 : decode cX1_innerStepsBut 3 = .ok (.istore 4, 2) := by decide +kernel
theorem dX1_innerStepsBut_5 : decode cX1_innerStepsBut 5 = .ok (.iload 4, 2) := by decide +kernel
theorem dX1_innerStepsBut_7 : decode cX1_innerStepsBut 7 = .ok (.aload_n 0, 1) := by decide +kernel
theorem dX1_innerStepsBut_8 : decode cX1_innerStepsBut 8 = .ok (.iload_n 1, 1) := by decide +kernel
theorem dX1_innerStepsBut_9 : decode cX1_innerStepsBut 9 = .ok (.invokevirtual 30, 3) := by decide +kernel
theorem dX1_innerStepsBut_12 : decode cX1_innerStepsBut 12 = .ok (.if_icmp .ge 34, 3) := by decide +kernel
theorem dX1_innerStepsBut_15 : decode cX1_innerStepsBut 15 = .ok (.iload 4, 2) := by decide +kernel
theorem dX1_innerStepsBut_17 : decode cX1_innerStepsBut 17 = .ok (.iload_n 2, 1) := by decide +kernel
theorem dX1_innerStepsBut_18 : decode cX1_innerStepsBut 18 = .ok (.if_icmp .eq 22, 3) := by decide +kernel
theorem dX1_innerStepsBut_21 : decode cX1_innerStepsBut 21 = .ok (.aload_n 0, 1) := by decide +kernel
theorem dX1_innerStepsBut_22 : decode cX1_innerStepsBut 22 = .ok (.iload_n 1, 1) := by decide +kernel
theorem dX1_innerStepsBut_23 : decode cX1_innerStepsBut 23 = .ok (.iload 4, 2) := by decide +kernel
theorem dX1_innerStepsBut_25 : decode cX1_innerStepsBut 25 = .ok (.invokevirtual 34, 3) := by decide +kernel
theorem dX1_innerStepsBut_28 : decode cX1_innerStepsBut 28 = .ok (.sipush 1000, 3) := by decide +kernel
theorem dX1_innerStepsBut_31 : decode cX1_innerStepsBut 31 = .ok (.idiv, 1) := by decide +kernel
theorem dX1_innerStepsBut_32 : decode cX1_innerStepsBut 32 = .ok (.bipush 9, 2) := by decide +kernel
theorem dX1_innerStepsBut_34 : decode cX1_innerStepsBut 34 = .ok (.if_icmp .ne 6, 3) := by decide +kernel
theorem dX1_innerStepsBut_37 : decode cX1_innerStepsBut 37 = .ok (.iinc 3 1, 3) := by decide +kernel
theorem dX1_innerStepsBut_40 : decode cX1_innerStepsBut 40 = .ok (.iinc 4 1, 3) := by decide +kernel
theorem dX1_innerStepsBut_43 : decode cX1_innerStepsBut 43 = .ok (.goto (-38), 3) := by decide +kernel
theorem dX1_innerStepsBut_46 : decode cX1_innerStepsBut 46 = .ok (.iload_n 3, 1) := by decide +kernel
theorem dX1_innerStepsBut_47 : decode cX1_innerStepsBut 47 = .ok (.ireturn, 1) := by decide +kernel
set_option maxRecDepth 20000 in
theorem ggX1_runAll_X1_goThrough : GoodIn wsX1_runAll wsX1_goThrough := goodIn_r _ [5, 6, 7, 8, 9, 4, 10, 11, 12, 13, 14, 15, 16, 17, 18, 19, 20, 21, 22, 23, 24, 25, 26, 27, 28, 29, 30, 31, 32, 33, 34, 35, 36, 37, 38, 39, 40, 41, 42, 43, 44, 51, 52, 53] (by decide +kernel) (by decide +kernel)
set_option maxRecDepth 20000 in
theorem gX1_runAll_X1_goThrough : GoodIn wsX1_runAll (wsV RX1 37 RX1 yX1_goThrough wsX1_goThrough) := goodIn_app (goodIn_of _ (by decide +kernel)) ggX1_runAll_X1_goThrough
set_option maxRecDepth 20000 in
theorem ggX1_runAll_X2_put : GoodIn wsX1_runAll wsX2_put := goodIn_r _ [48, 36, 12, 13, 14, 49, 50, 53] (by decide +kernel) (by decide +kernel)
set_option maxRecDepth 20000 in
theorem gX1_runAll_X2_put : GoodIn wsX1_runAll (wsV RX1 41 RX2 yX2_put wsX2_put) := goodIn_app (goodIn_of _ (by decide +kernel)) ggX1_runAll_X2_put
theorem dX1_runAll_0 : decode cX1_runAll 0 = .ok (.iconst 0, 1) := by decide +kernel
theorem dX1_runAll_1 : decode cX1_runAll 1 = .ok (.istore_n 3, 1) := by decide +kernel
theorem dX1_runAll_2 : decode cX1_runAll 2 = .ok (.iload_n 3, 1) := by decide +kernel
theorem dX1_runAll_3 : decode cX1_runAll 3 = .ok (.sipush 256, 3) := by decide +kernel
theorem dX1_runAll_6 : decode cX1_runAll 6 = .ok (.if_icmp .ge 22, 3) := by decide +kernel
theorem dX1_runAll_9 : decode cX1_runAll 9 = .ok (.aload_n 2, 1) := by decide +kernel
theorem dX1_runAll_10 : decode cX1_runAll 10 = .ok (.iload_n 1, 1) := by decide +kernel
theorem dX1_runAll_11 : decode cX1_runAll 11 = .ok (.iload_n 3, 1) := by decide +kernel
theorem dX1_runAll_12 : decode cX1_runAll 12 = .ok (.aload_n 0, 1) := by decide +kernel
theorem dX1_runAll_13 : decode cX1_runAll 13 = .ok (.iload_n 1, 1) := by decide +kernel
theorem dX1_runAll_14 : decode cX1_runAll 14 = .ok (.iload_n 3, 1) := by decide +kernel
theorem dX1_runAll_15 : decode cX1_runAll 15 = .ok (.aload_n 2, 1) := by decide +kernel
theorem dX1_runAll_16 : decode cX1_runAll 16 = .ok (.invokevirtual 37, 3) := by decide +kernel
theorem dX1_runAll_19 : decode cX1_runAll 19 = .ok (.invokevirtual 41, 3) := by decide +kernel
theorem dX1_runAll_22 : decode cX1_runAll 22 = .ok (.iinc 3 1, 3) := by decide +kernel
theorem dX1_runAll_25 : decode cX1_runAll 25 = .ok (.goto (-23), 3) := by decide +kernel
theorem dX1_runAll_28 : decode cX1_runAll 28 = .ok (.return_, 1) := by decide +kernel
set_option maxRecDepth 20000 in
theorem ggX1_goThrough_X1_length : GoodIn wsX1_goThrough wsX1_length := goodIn_r _ [6, 7, 8, 9, 10, 41, 42] (by decide +kernel) (by decide +kernel)
set_option maxRecDepth 20000 in
theorem gX1_goThrough_X1_length : GoodIn wsX1_goThrough (wsV RX1 30 RX1 yX1_length wsX1_length) := goodIn_app (goodIn_of _ (by decide +kernel)) ggX1_goThrough_X1_length
set_option maxRecDepth 20000 in
theorem ggX1_goThrough_X1_at : GoodIn wsX1_goThrough wsX1_at := goodIn_r _ [14, 15, 8, 9, 10, 41, 42] (by decide +kernel) (by decide +kernel)
set_option maxRecDepth 20000 in
theorem gX1_goThrough_X1_at : GoodIn wsX1_goThrough (wsV RX1 34 RX1 yX1_at wsX1_at) := goodIn_app (goodIn_of _ (by decide +kernel)) ggX1_goThrough_X1_at
set_option maxRecDepth 20000 in
theorem ggX1_goThrough_X1_after : GoodIn wsX1_goThrough wsX1_after := goodIn_r _ [18, 19, 20, 21, 22, 23, 24, 25, 1, 26, 27, 28, 29, 30, 31, 32, 33, 34, 35, 36, 43] (by decide +kernel) (by decide +kernel)
set_option maxRecDepth 20000 in
theorem gX1_goThrough_X1_after : GoodIn wsX1_goThrough (va_wsS RX1 44 yX1_after wsX1_after) := goodIn_app (goodIn_of _ (by decide +kernel)) ggX1_goThrough_X1_after
set_option maxRecDepth 20000 in
theorem ggX1_goThrough_X3_isWithinLimit : GoodIn wsX1_goThrough wsX3_isWithinLimit := goodIn_r _ [38, 39, 40] (by decide +kernel) (by decide +kernel)
set_option maxRecDepth 20000 in
theorem gX1_goThrough_X3_isWithinLimit_n48 : GoodIn wsX1_goThrough (wsX3_isWithinLimit) := ggX1_goThrough_X3_isWithinLimit
theorem dX1_goThrough_0 : decode cX1_goThrough 0 = .ok (.iconst 0, 1) := by decide +kernel
theorem dX1_goThrough_1 : decode cX1_goThrough 1 = .ok (.istore 4, 2) := by decide +kernel
theorem dX1_goThrough_3 : decode cX1_goThrough 3 = .ok (.iconst 0, 1) := by decide +kernel
theorem dX1_goThrough_4 : decode cX1_goThrough 4 = .ok (.istore 5, 2) := by decide +kernel
theorem dX1_goThrough_6 : decode cX1_goThrough 6 = .ok (.aload_n 0, 1) := by decide +kernel
theorem dX1_goThrough_7 : decode cX1_goThrough 7 = .ok (.iload_n 1, 1) := by decide +kernel
theorem dX1_goThrough_8 : decode cX1_goThrough 8 = .ok (.invokevirtual 30, 3) := by decide +kernel
theorem dX1_goThrough_11 : decode cX1_goThrough 11 = .ok (.istore 6, 2) := by decide +kernel
theorem dX1_goThrough_13 : decode cX1_goThrough 13 = .ok (.iconst 0, 1) := by decide +kernel
theorem dX1_goThrough_14 : decode cX1_goThrough 14 = .ok (.istore 7, 2) := by decide +kernel
theorem dX1_goThrough_16 : decode cX1_goThrough 16 = .ok (.iload 7, 2) := by decide +kernel
theorem dX1_goThrough_18 : decode cX1_goThrough 18 = .ok (.iload 6, 2) := by decide +kernel
theorem dX1_goThrough_20 : decode cX1_goThrough 20 = .ok (.if_icmp .ge 87, 3) := by decide +kernel
theorem dX1_goThrough_23 : decode cX1_goThrough 23 = .ok (.aload_n 0, 1) := by decide +kernel
theorem dX1_goThrough_24 : decode cX1_goThrough 24 = .ok (.iload_n 1, 1) := by decide +kernel
theorem dX1_goThrough_25 : decode cX1_goThrough 25 = .ok (.iload 7, 2) := by decide +kernel
theorem dX1_goThrough_27 : decode cX1_goThrough 27 = .ok (.invokevirtual 34, 3) := by decide +kernel
theorem dX1_goThrough_30 : decode cX1_goThrough 30 = .ok (.istore 8, 2) := by decide +kernel
theorem dX1_goThrough_32 : decode cX1_goThrough 32 = .ok (.iload 5, 2) := by decide +kernel
theorem dX1_goThrough_34 : decode cX1_goThrough 34 = .ok (.ifCond .eq 9, 3) := by decide +kernel
theorem dX1_goThrough_37 : decode cX1_goThrough 37 = .ok (.iconst 0, 1) := by decide +kernel
theorem dX1_goThrough_38 : decode cX1_goThrough 38 = .ok (.istore 5, 2) := by decide +kernel
theorem dX1_goThrough_40 : decode cX1_goThrough 40 = .ok (.goto 61, 3) := by decide +kernel
theorem dX1_goThrough_43 : decode cX1_goThrough 43 = .ok (.iload 8, 2) := by decide +kernel
theorem dX1_goThrough_45 : decode cX1_goThrough 45 = .ok (.sipush 1000, 3) := by decide +kernel
theorem dX1_goThrough_48 : decode cX1_goThrough 48 = .ok (.idiv, 1) := by decide +kernel
theorem dX1_goThrough_49 : decode cX1_goThrough 49 = .ok (.bipush 7, 2) := by decide +kernel
theorem dX1_goThrough_51 : decode cX1_goThrough 51 = .ok (.if_icmp .ne 28, 3) := by decide +kernel
theorem dX1_goThrough_54 : decode cX1_goThrough 54 = .ok (.iload 4, 2) := by decide +kernel
theorem dX1_goThrough_56 : decode cX1_goThrough 56 = .ok (.iload 8, 2) := by decide +kernel
theorem dX1_goThrough_58 : decode cX1_goThrough 58 = .ok (.sipush 1000, 3) := by decide +kernel
theorem dX1_goThrough_61 : decode cX1_goThrough 61 = .ok (.irem, 1) := by decide +kernel
theorem dX1_goThrough_62 : decode cX1_goThrough 62 = .ok (.sipush 500, 3) := by decide +kernel
theorem dX1_goThrough_65 : decode cX1_goThrough 65 = .ok (.isub, 1) := by decide +kernel
theorem dX1_goThrough_66 : decode cX1_goThrough 66 = .ok (.if_icmp .ge 7, 3) := by decide +kernel
theorem dX1_goThrough_69 : decode cX1_goThrough 69 = .ok (.iconst 1, 1) := by decide +kernel
theorem dX1_goThrough_70 : decode cX1_goThrough 70 = .ok (.goto 4, 3) := by decide +kernel
theorem dX1_goThrough_73 : decode cX1_goThrough 73 = .ok (.iconst 0, 1) := by decide +kernel
theorem dX1_goThrough_74 : decode cX1_goThrough 74 = .ok (.istore 5, 2) := by decide +kernel
theorem dX1_goThrough_76 : decode cX1_goThrough 76 = .ok (.goto 25, 3) := by decide +kernel
theorem dX1_goThrough_79 : decode cX1_goThrough 79 = .ok (.iload 8, 2) := by decide +kernel
theorem dX1_goThrough_81 : decode cX1_goThrough 81 = .ok (.iload 4, 2) := by decide +kernel
theorem dX1_goThrough_83 : decode cX1_goThrough 83 = .ok (.iload_n 2, 1) := by decide +kernel
theorem dX1_goThrough_84 : decode cX1_goThrough 84 = .ok (.aload_n 3, 1) := by decide +kernel
theorem dX1_goThrough_85 : decode cX1_goThrough 85 = .ok (.invokestatic 44, 3) := by decide +kernel
theorem dX1_goThrough_88 : decode cX1_goThrough 88 = .ok (.istore 4, 2) := by decide +kernel
theorem dX1_goThrough_90 : decode cX1_goThrough 90 = .ok (.iload 4, 2) := by decide +kernel
theorem dX1_goThrough_92 : decode cX1_goThrough 92 = .ok (.invokestatic 48, 3) := by decide +kernel
theorem dX1_goThrough_95 : decode cX1_goThrough 95 = .ok (.ifCond .ne 6, 3) := by decide +kernel
theorem dX1_goThrough_98 : decode cX1_goThrough 98 = .ok (.ldc 51, 2) := by decide +kernel
theorem dX1_goThrough_100 : decode cX1_goThrough 100 = .ok (.ireturn, 1) := by decide +kernel
theorem dX1_goThrough_101 : decode cX1_goThrough 101 = .ok (.iinc 7 1, 3) := by decide +kernel
theorem dX1_goThrough_104 : decode cX1_goThrough 104 = .ok (.goto (-88), 3) := by decide +kernel
theorem dX1_goThrough_107 : decode cX1_goThrough 107 = .ok (.iload 4, 2) := by decide +kernel
theorem dX1_goThrough_109 : decode cX1_goThrough 109 = .ok (.ireturn, 1) := by decide +kernel
set_option maxRecDepth 20000 in
theorem ggX1_after_X2_given : GoodIn wsX1_after wsX2_given := goodIn_r _ [13, 14, 15, 20] (by decide +kernel) (by decide +kernel)
set_option maxRecDepth 20000 in
theorem gX1_after_X2_given : GoodIn wsX1_after (wsV RX1 60 RX2 yX2_given wsX2_given) := goodIn_app (goodIn_of _ (by decide +kernel)) ggX1_after_X2_given
set_option maxRecDepth 20000 in
theorem ggX1_after_J9_floorMod_7cf53 : GoodIn wsX1_after wsJ9_floorMod_7cf53 := goodIn_r _ [19] (by decide +kernel) (by decide +kernel)
set_option maxRecDepth 20000 in
theorem gX1_after_J9_floorMod_7cf53 : GoodIn wsX1_after (va_wsS RX1 63 yJ9_floorMod_7cf53 wsJ9_floorMod_7cf53) := goodIn_app (goodIn_of _ (by decide +kernel)) ggX1_after_J9_floorMod_7cf53
theorem dX1_after_0 : decode cX1_after 0 = .ok (.iload_n 0, 1) := by decide +kernel
theorem dX1_after_1 : decode cX1_after 1 = .ok (.sipush 1000, 3) := by decide +kernel
theorem dX1_after_4 : decode cX1_after 4 = .ok (.irem, 1) := by decide +kernel
theorem dX1_after_5 : decode cX1_after 5 = .ok (.istore 4, 2) := by decide +kernel
theorem dX1_after_7 : decode cX1_after 7 = .ok (.iload 4, 2) := by decide +kernel
theorem dX1_after_9 : decode cX1_after 9 = .ok (.sipush 500, 3) := by decide +kernel
theorem dX1_after_12 : decode cX1_after 12 = .ok (.isub, 1) := by decide +kernel
theorem dX1_after_13 : decode cX1_after 13 = .ok (.istore 5, 2) := by decide +kernel
theorem dX1_after_15 : decode cX1_after 15 = .ok (.iload_n 0, 1) := by decide +kernel
theorem dX1_after_16 : decode cX1_after 16 = .ok (.sipush 1000, 3) := by decide +kernel
theorem dX1_after_19 : decode cX1_after 19 = .ok (.idiv, 1) := by decide +kernel
theorem dX1_after_20 : decode cX1_after 20 = .ok (.tableswitch 135 0 10 #[60, 63, 68, 78, 88, 93, 100, 135, 107, 110, 118], 60) := by decide +kernel
theorem dX1_after_80 : decode cX1_after 80 = .ok (.iload 5, 2) := by decide +kernel
theorem dX1_after_82 : decode cX1_after 82 = .ok (.ireturn, 1) := by decide +kernel
theorem dX1_after_83 : decode cX1_after 83 = .ok (.iload_n 1, 1) := by decide +kernel
theorem dX1_after_84 : decode cX1_after 84 = .ok (.iload 5, 2) := by decide +kernel
theorem dX1_after_86 : decode cX1_after 86 = .ok (.iadd, 1) := by decide +kernel
theorem dX1_after_87 : decode cX1_after 87 = .ok (.ireturn, 1) := by decide +kernel
theorem dX1_after_88 : decode cX1_after 88 = .ok (.iload_n 1, 1) := by decide +kernel
theorem dX1_after_89 : decode cX1_after 89 = .ok (.iload 5, 2) := by decide +kernel
theorem dX1_after_91 : decode cX1_after 91 = .ok (.iload_n 2, 1) := by decide +kernel
theorem dX1_after_92 : decode cX1_after 92 = .ok (.bipush 16, 2) := by decide +kernel
theorem dX1_after_94 : decode cX1_after 94 = .ok (.idiv, 1) := by decide +kernel
theorem dX1_after_95 : decode cX1_after 95 = .ok (.imul, 1) := by decide +kernel
theorem dX1_after_96 : decode cX1_after 96 = .ok (.iadd, 1) := by decide +kernel
theorem dX1_after_97 : decode cX1_after 97 = .ok (.ireturn, 1) := by decide +kernel
theorem dX1_after_98 : decode cX1_after 98 = .ok (.iload_n 1, 1) := by decide +kernel
theorem dX1_after_99 : decode cX1_after 99 = .ok (.iload 5, 2) := by decide +kernel
theorem dX1_after_101 : decode cX1_after 101 = .ok (.iload_n 2, 1) := by decide +kernel
theorem dX1_after_102 : decode cX1_after 102 = .ok (.bipush 16, 2) := by decide +kernel
theorem dX1_after_104 : decode cX1_after 104 = .ok (.irem, 1) := by decide +kernel
theorem dX1_after_105 : decode cX1_after 105 = .ok (.imul, 1) := by decide +kernel
theorem dX1_after_106 : decode cX1_after 106 = .ok (.iadd, 1) := by decide +kernel
theorem dX1_after_107 : decode cX1_after 107 = .ok (.ireturn, 1) := by decide +kernel
theorem dX1_after_108 : decode cX1_after 108 = .ok (.iload_n 1, 1) := by decide +kernel
theorem dX1_after_109 : decode cX1_after 109 = .ok (.iload 5, 2) := by decide +kernel
theorem dX1_after_111 : decode cX1_after 111 = .ok (.imul, 1) := by decide +kernel
theorem dX1_after_112 : decode cX1_after 112 = .ok (.ireturn, 1) := by decide +kernel
theorem dX1_after_113 : decode cX1_after 113 = .ok (.iload_n 1, 1) := by decide +kernel
theorem dX1_after_114 : decode cX1_after 114 = .ok (.iload 5, 2) := by decide +kernel
theorem dX1_after_116 : decode cX1_after 116 = .ok (.invokestatic 52, 3) := by decide +kernel
theorem dX1_after_119 : decode cX1_after 119 = .ok (.ireturn, 1) := by decide +kernel
theorem dX1_after_120 : decode cX1_after 120 = .ok (.iload_n 1, 1) := by decide +kernel
theorem dX1_after_121 : decode cX1_after 121 = .ok (.iload 5, 2) := by decide +kernel
theorem dX1_after_123 : decode cX1_after 123 = .ok (.invokestatic 57, 3) := by decide +kernel
theorem dX1_after_126 : decode cX1_after 126 = .ok (.ireturn, 1) := by decide +kernel
theorem dX1_after_127 : decode cX1_after 127 = .ok (.ldc 51, 2) := by decide +kernel
theorem dX1_after_129 : decode cX1_after 129 = .ok (.ireturn, 1) := by decide +kernel
theorem dX1_after_130 : decode cX1_after 130 = .ok (.aload_n 3, 1) := by decide +kernel
theorem dX1_after_131 : decode cX1_after 131 = .ok (.iload 4, 2) := by decide +kernel
theorem dX1_after_133 : decode cX1_after 133 = .ok (.iload_n 2, 1) := by decide +kernel
theorem dX1_after_134 : decode cX1_after 134 = .ok (.invokevirtual 60, 3) := by decide +kernel
theorem dX1_after_137 : decode cX1_after 137 = .ok (.ireturn, 1) := by decide +kernel
theorem dX1_after_138 : decode cX1_after 138 = .ok (.iload 4, 2) := by decide +kernel
theorem dX1_after_140 : decode cX1_after 140 = .ok (.ifCond .le 12, 3) := by decide +kernel
theorem dX1_after_143 : decode cX1_after 143 = .ok (.iload_n 1, 1) := by decide +kernel
theorem dX1_after_144 : decode cX1_after 144 = .ok (.iload 4, 2) := by decide +kernel
theorem dX1_after_146 : decode cX1_after 146 = .ok (.invokestatic 63, 3) := by decide +kernel
theorem dX1_after_149 : decode cX1_after 149 = .ok (.goto 5, 3) := by decide +kernel
theorem dX1_after_152 : decode cX1_after 152 = .ok (.ldc 51, 2) := by decide +kernel
theorem dX1_after_154 : decode cX1_after 154 = .ok (.ireturn, 1) := by decide +kernel
theorem dX1_after_155 : decode cX1_after 155 = .ok (.ldc 51, 2) := by decide +kernel
theorem dX1_after_157 : decode cX1_after 157 = .ok (.ireturn, 1) := by decide +kernel
theorem dX2_init_0 : decode cX2_init 0 = .ok (.aload_n 0, 1) := by decide +kernel
theorem dX2_init_1 : decode cX2_init 1 = .ok (.invokespecial 3, 3) := by decide +kernel
theorem dX2_init_4 : decode cX2_init 4 = .ok (.aload_n 0, 1) := by decide +kernel
theorem dX2_init_5 : decode cX2_init 5 = .ok (.sipush 1536, 3) := by decide +kernel
theorem dX2_init_8 : decode cX2_init 8 = .ok (.newarray .int, 2) := by decide +kernel
theorem dX2_init_10 : decode cX2_init 10 = .ok (.putfield 9, 3) := by decide +kernel
theorem dX2_init_13 : decode cX2_init 13 = .ok (.return_, 1) := by decide +kernel
set_option maxRecDepth 20000 in
theorem ggX2_copy_X2_init : GoodIn wsX2_copy wsX2_init := goodIn_r _ [11, 12, 13, 14, 15, 4, 16] (by decide +kernel) (by decide +kernel)
set_option maxRecDepth 20000 in
theorem gX2_copy_X2_init : GoodIn wsX2_copy (wsX2_init) := ggX2_copy_X2_init
theorem dX2_copy_0 : decode cX2_copy 0 = .ok (.new 10, 3) := by decide +kernel
theorem dX2_copy_3 : decode cX2_copy 3 = .ok (.dup, 1) := by decide +kernel
theorem dX2_copy_4 : decode cX2_copy 4 = .ok (.invokespecial 15, 3) := by decide +kernel
theorem dX2_copy_7 : decode cX2_copy 7 = .ok (.astore_n 1, 1) := by decide +kernel
theorem dX2_copy_8 : decode cX2_copy 8 = .ok (.aload_n 0, 1) := by decide +kernel
theorem dX2_copy_9 : decode cX2_copy 9 = .ok (.getfield 9, 3) := by decide +kernel
theorem dX2_copy_12 : decode cX2_copy 12 = .ok (.iconst 0, 1) := by decide +kernel
theorem dX2_copy_13 : decode cX2_copy 13 = .ok (.aload_n 1, 1) := by decide +kernel
theorem dX2_copy_14 : decode cX2_copy 14 = .ok (.getfield 9, 3) := by decide +kernel
theorem dX2_copy_17 : decode cX2_copy 17 = .ok (.iconst 0, 1) := by decide +kernel
theorem dX2_copy_18 : decode cX2_copy 18 = .ok (.aload_n 0, 1) := by decide +kernel
theorem dX2_copy_19 : decode cX2_copy 19 = .ok (.getfield 9, 3) := by decide +kernel
theorem dX2_copy_22 : decode cX2_copy 22 = .ok (.arraylength, 1) := by decide +kernel
theorem dX2_copy_23 : decode cX2_copy 23 = .ok (.invokestatic 16, 3) := by decide +kernel
theorem dX2_copy_26 : decode cX2_copy 26 = .ok (.aload_n 1, 1) := by decide +kernel
theorem dX2_copy_27 : decode cX2_copy 27 = .ok (.areturn, 1) := by decide +kernel
set_option maxRecDepth 20000 in
theorem ggX2_put_X3_isFunction : GoodIn wsX2_put wsX3_isFunction := goodIn_r _ [4] (by decide +kernel) (by decide +kernel)
set_option maxRecDepth 20000 in
theorem gX2_put_X3_isFunction_n22 : GoodIn wsX2_put (wsX3_isFunction) := ggX2_put_X3_isFunction
set_option maxRecDepth 20000 in
theorem ggX2_put_X3_isRun : GoodIn wsX2_put wsX3_isRun := goodIn_r _ [6] (by decide +kernel) (by decide +kernel)
set_option maxRecDepth 20000 in
theorem gX2_put_X3_isRun_n26 : GoodIn wsX2_put (wsX3_isRun) := ggX2_put_X3_isRun
theorem dX2_put_0 : decode cX2_put 0 = .ok (.iload_n 1, 1) := by decide +kernel
theorem dX2_put_1 : decode cX2_put 1 = .ok (.invokestatic 22, 3) := by decide +kernel
theorem dX2_put_4 : decode cX2_put 4 = .ok (.ifCond .eq 23, 3) := by decide +kernel
theorem dX2_put_7 : decode cX2_put 7 = .ok (.iload_n 2, 1) := by decide +kernel
theorem dX2_put_8 : decode cX2_put 8 = .ok (.invokestatic 26, 3) := by decide +kernel
theorem dX2_put_11 : decode cX2_put 11 = .ok (.ifCond .eq 16, 3) := by decide +kernel
theorem dX2_put_14 : decode cX2_put 14 = .ok (.aload_n 0, 1) := by decide +kernel
theorem dX2_put_15 : decode cX2_put 15 = .ok (.getfield 9, 3) := by decide +kernel
theorem dX2_put_18 : decode cX2_put 18 = .ok (.iload_n 1, 1) := by decide +kernel
theorem dX2_put_19 : decode cX2_put 19 = .ok (.sipush 256, 3) := by decide +kernel
theorem dX2_put_22 : decode cX2_put 22 = .ok (.imul, 1) := by decide +kernel
theorem dX2_put_23 : decode cX2_put 23 = .ok (.iload_n 2, 1) := by decide +kernel
theorem dX2_put_24 : decode cX2_put 24 = .ok (.iadd, 1) := by decide +kernel
theorem dX2_put_25 : decode cX2_put 25 = .ok (.iload_n 3, 1) := by decide +kernel
theorem dX2_put_26 : decode cX2_put 26 = .ok (.iastore, 1) := by decide +kernel
theorem dX2_put_27 : decode cX2_put 27 = .ok (.return_, 1) := by decide +kernel
theorem dX2_given_0 : decode cX2_given 0 = .ok (.iload_n 1, 1) := by decide +kernel
theorem dX2_given_1 : decode cX2_given 1 = .ok (.ifCond .lt 20, 3) := by decide +kernel
theorem dX2_given_4 : decode cX2_given 4 = .ok (.iload_n 1, 1) := by decide +kernel
theorem dX2_given_5 : decode cX2_given 5 = .ok (.bipush 6, 2) := by decide +kernel
theorem dX2_given_7 : decode cX2_given 7 = .ok (.if_icmp .ge 14, 3) := by decide +kernel
theorem dX2_given_10 : decode cX2_given 10 = .ok (.iload_n 2, 1) := by decide +kernel
theorem dX2_given_11 : decode cX2_given 11 = .ok (.ifCond .lt 10, 3) := by decide +kernel
theorem dX2_given_14 : decode cX2_given 14 = .ok (.iload_n 2, 1) := by decide +kernel
theorem dX2_given_15 : decode cX2_given 15 = .ok (.sipush 256, 3) := by decide +kernel
theorem dX2_given_18 : decode cX2_given 18 = .ok (.if_icmp .lt 6, 3) := by decide +kernel
theorem dX2_given_21 : decode cX2_given 21 = .ok (.ldc 29, 2) := by decide +kernel
theorem dX2_given_23 : decode cX2_given 23 = .ok (.ireturn, 1) := by decide +kernel
theorem dX2_given_24 : decode cX2_given 24 = .ok (.aload_n 0, 1) := by decide +kernel
theorem dX2_given_25 : decode cX2_given 25 = .ok (.getfield 9, 3) := by decide +kernel
theorem dX2_given_28 : decode cX2_given 28 = .ok (.iload_n 1, 1) := by decide +kernel
theorem dX2_given_29 : decode cX2_given 29 = .ok (.sipush 256, 3) := by decide +kernel
theorem dX2_given_32 : decode cX2_given 32 = .ok (.imul, 1) := by decide +kernel
theorem dX2_given_33 : decode cX2_given 33 = .ok (.iload_n 2, 1) := by decide +kernel
theorem dX2_given_34 : decode cX2_given 34 = .ok (.iadd, 1) := by decide +kernel
theorem dX2_given_35 : decode cX2_given 35 = .ok (.iaload, 1) := by decide +kernel
theorem dX2_given_36 : decode cX2_given 36 = .ok (.ireturn, 1) := by decide +kernel
set_option maxRecDepth 20000 in
theorem ggX2_refusals_X2_given : GoodIn wsX2_refusals wsX2_given := goodIn_r _ [6, 1, 7, 8] (by decide +kernel) (by decide +kernel)
set_option maxRecDepth 20000 in
theorem gX2_refusals_X2_given : GoodIn wsX2_refusals (wsV RX2 30 RX2 yX2_given wsX2_given) := goodIn_app (goodIn_of _ (by decide +kernel)) ggX2_refusals_X2_given
theorem dX2_refusals_0 : decode cX2_refusals 0 = .ok (.iconst 0, 1) := by decide +kernel
theorem dX2_refusals_1 : decode cX2_refusals 1 = .ok (.istore_n 2, 1) := by decide +kernel
theorem dX2_refusals_2 : decode cX2_refusals 2 = .ok (.iconst 0, 1) := by decide +kernel
theorem dX2_refusals_3 : decode cX2_refusals 3 = .ok (.istore_n 3, 1) := by decide +kernel
theorem dX2_refusals_4 : decode cX2_refusals 4 = .ok (.iload_n 3, 1) := by decide +kernel
theorem dX2_refusals_5 : decode cX2_refusals 5 = .ok (.sipush 256, 3) := by decide +kernel
theorem dX2_refusals_8 : decode cX2_refusals 8 = .ok (.if_icmp .ge 23, 3) := by decide +kernel
theorem dX2_refusals_11 : decode cX2_refusals 11 = .ok (.aload_n 0, 1) := by decide +kernel
theorem dX2_refusals_12 : decode cX2_refusals 12 = .ok (.iload_n 1, 1) := by decide +kernel
theorem dX2_refusals_13 : decode cX2_refusals 13 = .ok (.iload_n 3, 1) := by decide +kernel
theorem dX2_refusals_14 : decode cX2_refusals 14 = .ok (.invokevirtual 30, 3) := by decide +kernel
theorem dX2_refusals_17 : decode cX2_refusals 17 = .ok (.ldc 29, 2) := by decide +kernel
theorem dX2_refusals_19 : decode cX2_refusals 19 = .ok (.if_icmp .ne 6, 3) := by decide +kernel
theorem dX2_refusals_22 : decode cX2_refusals 22 = .ok (.iinc 2 1, 3) := by decide +kernel
theorem dX2_refusals_25 : decode cX2_refusals 25 = .ok (.iinc 3 1, 3) := by decide +kernel
theorem dX2_refusals_28 : decode cX2_refusals 28 = .ok (.goto (-24), 3) := by decide +kernel
theorem dX2_refusals_31 : decode cX2_refusals 31 = .ok (.iload_n 2, 1) := by decide +kernel
theorem dX2_refusals_32 : decode cX2_refusals 32 = .ok (.ireturn, 1) := by decide +kernel
set_option maxRecDepth 20000 in
theorem ggX2_least_X2_given : GoodIn wsX2_least wsX2_given := goodIn_r _ [6, 1, 7, 8] (by decide +kernel) (by decide +kernel)
set_option maxRecDepth 20000 in
theorem gX2_least_X2_given : GoodIn wsX2_least (wsV RX2 30 RX2 yX2_given wsX2_given) := goodIn_app (goodIn_of _ (by decide +kernel)) ggX2_least_X2_given
theorem dX2_least_0 : decode cX2_least 0 = .ok (.ldc 29, 2) := by decide +kernel
theorem dX2_least_2 : decode cX2_least 2 = .ok (.istore_n 2, 1) := by decide +kernel
theorem dX2_least_3 : decode cX2_least 3 = .ok (.iconst 0, 1) := by decide +kernel
theorem dX2_least_4 : decode cX2_least 4 = .ok (.istore_n 3, 1) := by decide +kernel
theorem dX2_least_5 : decode cX2_least 5 = .ok (.iload_n 3, 1) := by decide +kernel
theorem dX2_least_6 : decode cX2_least 6 = .ok (.sipush 256, 3) := by decide +kernel
theorem dX2_least_9 : decode cX2_least 9 = .ok (.if_icmp .ge 39, 3) := by decide +kernel
theorem dX2_least_12 : decode cX2_least 12 = .ok (.aload_n 0, 1) := by decide +kernel
theorem dX2_least_13 : decode cX2_least 13 = .ok (.iload_n 1, 1) := by decide +kernel
theorem dX2_least_14 : decode cX2_least 14 = .ok (.iload_n 3, 1) := by decide +kernel
theorem dX2_least_15 : decode cX2_least 15 = .ok (.invokevirtual 30, 3) := by decide +kernel
theorem dX2_least_18 : decode cX2_least 18 = .ok (.istore 4, 2) := by decide +kernel
theorem dX2_least_20 : decode cX2_least 20 = .ok (.iload 4, 2) := by decide +kernel
theorem dX2_least_22 : decode cX2_least 22 = .ok (.ldc 29, 2) := by decide +kernel
theorem dX2_least_24 : decode cX2_least 24 = .ok (.if_icmp .eq 18, 3) := by decide +kernel
theorem dX2_least_27 : decode cX2_least 27 = .ok (.iload_n 2, 1) := by decide +kernel
theorem dX2_least_28 : decode cX2_least 28 = .ok (.ldc 29, 2) := by decide +kernel
theorem dX2_least_30 : decode cX2_least 30 = .ok (.if_icmp .eq 9, 3) := by decide +kernel
theorem dX2_least_33 : decode cX2_least 33 = .ok (.iload 4, 2) := by decide +kernel
theorem dX2_least_35 : decode cX2_least 35 = .ok (.iload_n 2, 1) := by decide +kernel
theorem dX2_least_36 : decode cX2_least 36 = .ok (.if_icmp .ge 6, 3) := by decide +kernel
theorem dX2_least_39 : decode cX2_least 39 = .ok (.iload 4, 2) := by decide +kernel
theorem dX2_least_41 : decode cX2_least 41 = .ok (.istore_n 2, 1) := by decide +kernel
theorem dX2_least_42 : decode cX2_least 42 = .ok (.iinc 3 1, 3) := by decide +kernel
theorem dX2_least_45 : decode cX2_least 45 = .ok (.goto (-40), 3) := by decide +kernel
theorem dX2_least_48 : decode cX2_least 48 = .ok (.iload_n 2, 1) := by decide +kernel
theorem dX2_least_49 : decode cX2_least 49 = .ok (.ireturn, 1) := by decide +kernel
set_option maxRecDepth 20000 in
theorem ggX2_most_X2_given : GoodIn wsX2_most wsX2_given := goodIn_r _ [10, 1, 11, 12] (by decide +kernel) (by decide +kernel)
set_option maxRecDepth 20000 in
theorem gX2_most_X2_given : GoodIn wsX2_most (wsV RX2 30 RX2 yX2_given wsX2_given) := goodIn_app (goodIn_of _ (by decide +kernel)) ggX2_most_X2_given
theorem dX2_most_0 : decode cX2_most 0 = .ok (.ldc 29, 2) := by decide +kernel
theorem dX2_most_2 : decode cX2_most 2 = .ok (.istore_n 2, 1) := by decide +kernel
theorem dX2_most_3 : decode cX2_most 3 = .ok (.iconst 0, 1) := by decide +kernel
theorem dX2_most_4 : decode cX2_most 4 = .ok (.istore_n 3, 1) := by decide +kernel
theorem dX2_most_5 : decode cX2_most 5 = .ok (.iload_n 3, 1) := by decide +kernel
theorem dX2_most_6 : decode cX2_most 6 = .ok (.sipush 256, 3) := by decide +kernel
theorem dX2_most_9 : decode cX2_most 9 = .ok (.if_icmp .ge 20, 3) := by decide +kernel
theorem dX2_most_12 : decode cX2_most 12 = .ok (.iload_n 2, 1) := by decide +kernel
theorem dX2_most_13 : decode cX2_most 13 = .ok (.aload_n 0, 1) := by decide +kernel
theorem dX2_most_14 : decode cX2_most 14 = .ok (.iload_n 1, 1) := by decide +kernel
theorem dX2_most_15 : decode cX2_most 15 = .ok (.iload_n 3, 1) := by decide +kernel
theorem dX2_most_16 : decode cX2_most 16 = .ok (.invokevirtual 30, 3) := by decide +kernel
theorem dX2_most_19 : decode cX2_most 19 = .ok (.invokestatic 34, 3) := by decide +kernel
theorem dX2_most_22 : decode cX2_most 22 = .ok (.istore_n 2, 1) := by decide +kernel
theorem dX2_most_23 : decode cX2_most 23 = .ok (.iinc 3 1, 3) := by decide +kernel
theorem dX2_most_26 : decode cX2_most 26 = .ok (.goto (-21), 3) := by decide +kernel
theorem dX2_most_29 : decode cX2_most 29 = .ok (.iload_n 2, 1) := by decide +kernel
theorem dX2_most_30 : decode cX2_most 30 = .ok (.ireturn, 1) := by decide +kernel
set_option maxRecDepth 20000 in
theorem ggX2_greatestDivisor_X2_given : GoodIn wsX2_greatestDivisor wsX2_given := goodIn_r _ [10, 1, 11, 15] (by decide +kernel) (by decide +kernel)
set_option maxRecDepth 20000 in
theorem gX2_greatestDivisor_X2_given : GoodIn wsX2_greatestDivisor (wsV RX2 30 RX2 yX2_given wsX2_given) := goodIn_app (goodIn_of _ (by decide +kernel)) ggX2_greatestDivisor_X2_given
set_option maxRecDepth 20000 in
theorem ggX2_greatestDivisor_X2_commonDivisor : GoodIn wsX2_greatestDivisor wsX2_commonDivisor := goodIn_r _ [14] (by decide +kernel) (by decide +kernel)
set_option maxRecDepth 20000 in
theorem gX2_greatestDivisor_X2_commonDivisor : GoodIn wsX2_greatestDivisor (va_wsS RX2 43 yX2_commonDivisor wsX2_commonDivisor) := goodIn_app (goodIn_of _ (by decide +kernel)) ggX2_greatestDivisor_X2_commonDivisor
theorem dX2_greatestDivisor_0 : decode cX2_greatestDivisor 0 = .ok (.iconst 0, 1) := by decide +kernel
theorem dX2_greatestDivisor_1 : decode cX2_greatestDivisor 1 = .ok (.istore_n 2, 1) := by decide +kernel
theorem dX2_greatestDivisor_2 : decode cX2_greatestDivisor 2 = .ok (.iconst 0, 1) := by decide +kernel
theorem dX2_greatestDivisor_3 : decode cX2_greatestDivisor 3 = .ok (.istore_n 3, 1) := by decide +kernel
theorem dX2_greatestDivisor_4 : decode cX2_greatestDivisor 4 = .ok (.iload_n 3, 1) := by decide +kernel
theorem dX2_greatestDivisor_5 : decode cX2_greatestDivisor 5 = .ok (.sipush 256, 3) := by decide +kernel
theorem dX2_greatestDivisor_8 : decode cX2_greatestDivisor 8 = .ok (.if_icmp .ge 34, 3) := by decide +kernel
theorem dX2_greatestDivisor_11 : decode cX2_greatestDivisor 11 = .ok (.aload_n 0, 1) := by decide +kernel
theorem dX2_greatestDivisor_12 : decode cX2_greatestDivisor 12 = .ok (.iload_n 1, 1) := by decide +kernel
theorem dX2_greatestDivisor_13 : decode cX2_greatestDivisor 13 = .ok (.iload_n 3, 1) := by decide +kernel
theorem dX2_greatestDivisor_14 : decode cX2_greatestDivisor 14 = .ok (.invokevirtual 30, 3) := by decide +kernel
theorem dX2_greatestDivisor_17 : decode cX2_greatestDivisor 17 = .ok (.istore 4, 2) := by decide +kernel
theorem dX2_greatestDivisor_19 : decode cX2_greatestDivisor 19 = .ok (.iload 4, 2) := by decide +kernel
theorem dX2_greatestDivisor_21 : decode cX2_greatestDivisor 21 = .ok (.ldc 29, 2) := by decide +kernel
theorem dX2_greatestDivisor_23 : decode cX2_greatestDivisor 23 = .ok (.if_icmp .eq 13, 3) := by decide +kernel
theorem dX2_greatestDivisor_26 : decode cX2_greatestDivisor 26 = .ok (.iload 4, 2) := by decide +kernel
theorem dX2_greatestDivisor_28 : decode cX2_greatestDivisor 28 = .ok (.invokestatic 39, 3) := by decide +kernel
theorem dX2_greatestDivisor_31 : decode cX2_greatestDivisor 31 = .ok (.iload_n 2, 1) := by decide +kernel
theorem dX2_greatestDivisor_32 : decode cX2_greatestDivisor 32 = .ok (.invokestatic 43, 3) := by decide +kernel
theorem dX2_greatestDivisor_35 : decode cX2_greatestDivisor 35 = .ok (.istore_n 2, 1) := by decide +kernel
theorem dX2_greatestDivisor_36 : decode cX2_greatestDivisor 36 = .ok (.iinc 3 1, 3) := by decide +kernel
theorem dX2_greatestDivisor_39 : decode cX2_greatestDivisor 39 = .ok (.goto (-35), 3) := by decide +kernel
theorem dX2_greatestDivisor_42 : decode cX2_greatestDivisor 42 = .ok (.sipush 1000, 3) := by decide +kernel
theorem dX2_greatestDivisor_45 : decode cX2_greatestDivisor 45 = .ok (.istore_n 3, 1) := by decide +kernel
theorem dX2_greatestDivisor_46 : decode cX2_greatestDivisor 46 = .ok (.iload_n 3, 1) := by decide +kernel
theorem dX2_greatestDivisor_47 : decode cX2_greatestDivisor 47 = .ok (.iconst 1, 1) := by decide +kernel
theorem dX2_greatestDivisor_48 : decode cX2_greatestDivisor 48 = .ok (.if_icmp .le 17, 3) := by decide +kernel
theorem dX2_greatestDivisor_51 : decode cX2_greatestDivisor 51 = .ok (.iload_n 2, 1) := by decide +kernel
theorem dX2_greatestDivisor_52 : decode cX2_greatestDivisor 52 = .ok (.iload_n 3, 1) := by decide +kernel
theorem dX2_greatestDivisor_53 : decode cX2_greatestDivisor 53 = .ok (.irem, 1) := by decide +kernel
theorem dX2_greatestDivisor_54 : decode cX2_greatestDivisor 54 = .ok (.ifCond .ne 5, 3) := by decide +kernel
theorem dX2_greatestDivisor_57 : decode cX2_greatestDivisor 57 = .ok (.iload_n 3, 1) := by decide +kernel
theorem dX2_greatestDivisor_58 : decode cX2_greatestDivisor 58 = .ok (.ireturn, 1) := by decide +kernel
theorem dX2_greatestDivisor_59 : decode cX2_greatestDivisor 59 = .ok (.iinc 3 (-1), 3) := by decide +kernel
theorem dX2_greatestDivisor_62 : decode cX2_greatestDivisor 62 = .ok (.goto (-16), 3) := by decide +kernel
theorem dX2_greatestDivisor_65 : decode cX2_greatestDivisor 65 = .ok (.iconst 1, 1) := by decide +kernel
theorem dX2_greatestDivisor_66 : decode cX2_greatestDivisor 66 = .ok (.ireturn, 1) := by decide +kernel
theorem dX2_commonDivisor_0 : decode cX2_commonDivisor 0 = .ok (.iload_n 0, 1) := by decide +kernel
theorem dX2_commonDivisor_1 : decode cX2_commonDivisor 1 = .ok (.istore_n 2, 1) := by decide +kernel
theorem dX2_commonDivisor_2 : decode cX2_commonDivisor 2 = .ok (.iload_n 1, 1) := by decide +kernel
theorem dX2_commonDivisor_3 : decode cX2_commonDivisor 3 = .ok (.istore_n 3, 1) := by decide +kernel
theorem dX2_commonDivisor_4 : decode cX2_commonDivisor 4 = .ok (.iconst 0, 1) := by decide +kernel
theorem dX2_commonDivisor_5 : decode cX2_commonDivisor 5 = .ok (.istore 4, 2) := by decide +kernel
theorem dX2_commonDivisor_7 : decode cX2_commonDivisor 7 = .ok (.iload 4, 2) := by decide +kernel
theorem dX2_commonDivisor_9 : decode cX2_commonDivisor 9 = .ok (.bipush 64, 2) := by decide +kernel
theorem dX2_commonDivisor_11 : decode cX2_commonDivisor 11 = .ok (.if_icmp .ge 23, 3) := by decide +kernel
theorem dX2_commonDivisor_14 : decode cX2_commonDivisor 14 = .ok (.iload_n 3, 1) := by decide +kernel
theorem dX2_commonDivisor_15 : decode cX2_commonDivisor 15 = .ok (.ifCond .eq 19, 3) := by decide +kernel
theorem dX2_commonDivisor_18 : decode cX2_commonDivisor 18 = .ok (.iload_n 2, 1) := by decide +kernel
theorem dX2_commonDivisor_19 : decode cX2_commonDivisor 19 = .ok (.iload_n 3, 1) := by decide +kernel
theorem dX2_commonDivisor_20 : decode cX2_commonDivisor 20 = .ok (.irem, 1) := by decide +kernel
theorem dX2_commonDivisor_21 : decode cX2_commonDivisor 21 = .ok (.istore 5, 2) := by decide +kernel
theorem dX2_commonDivisor_23 : decode cX2_commonDivisor 23 = .ok (.iload_n 3, 1) := by decide +kernel
theorem dX2_commonDivisor_24 : decode cX2_commonDivisor 24 = .ok (.istore_n 2, 1) := by decide +kernel
theorem dX2_commonDivisor_25 : decode cX2_commonDivisor 25 = .ok (.iload 5, 2) := by decide +kernel
theorem dX2_commonDivisor_27 : decode cX2_commonDivisor 27 = .ok (.istore_n 3, 1) := by decide +kernel
theorem dX2_commonDivisor_28 : decode cX2_commonDivisor 28 = .ok (.iinc 4 1, 3) := by decide +kernel
theorem dX2_commonDivisor_31 : decode cX2_commonDivisor 31 = .ok (.goto (-24), 3) := by decide +kernel
theorem dX2_commonDivisor_34 : decode cX2_commonDivisor 34 = .ok (.iload_n 2, 1) := by decide +kernel
theorem dX2_commonDivisor_35 : decode cX2_commonDivisor 35 = .ok (.ireturn, 1) := by decide +kernel
set_option maxRecDepth 20000 in
theorem ggX2_refusesFrom_X2_firstRefusal : GoodIn wsX2_refusesFrom wsX2_firstRefusal := goodIn_r _ [6, 1, 7, 8, 9, 5, 10, 11, 16] (by decide +kernel) (by decide +kernel)
set_option maxRecDepth 20000 in
theorem gX2_refusesFrom_X2_firstRefusal : GoodIn wsX2_refusesFrom (wsV RX2 46 RX2 yX2_firstRefusal wsX2_firstRefusal) := goodIn_app (goodIn_of _ (by decide +kernel)) ggX2_refusesFrom_X2_firstRefusal
set_option maxRecDepth 20000 in
theorem ggX2_refusesFrom_X2_refusals : GoodIn wsX2_refusesFrom wsX2_refusals := goodIn_r _ [15, 1, 7, 8, 9, 5, 10, 11, 16] (by decide +kernel) (by decide +kernel)
set_option maxRecDepth 20000 in
theorem gX2_refusesFrom_X2_refusals : GoodIn wsX2_refusesFrom (wsV RX2 49 RX2 yX2_refusals wsX2_refusals) := goodIn_app (goodIn_of _ (by decide +kernel)) ggX2_refusesFrom_X2_refusals
theorem dX2_refusesFrom_0 : decode cX2_refusesFrom 0 = .ok (.aload_n 0, 1) := by decide +kernel
theorem dX2_refusesFrom_1 : decode cX2_refusesFrom 1 = .ok (.iload_n 1, 1) := by decide +kernel
theorem dX2_refusesFrom_2 : decode cX2_refusesFrom 2 = .ok (.invokevirtual 46, 3) := by decide +kernel
theorem dX2_refusesFrom_5 : decode cX2_refusesFrom 5 = .ok (.bipush 16, 2) := by decide +kernel
theorem dX2_refusesFrom_7 : decode cX2_refusesFrom 7 = .ok (.idiv, 1) := by decide +kernel
theorem dX2_refusesFrom_8 : decode cX2_refusesFrom 8 = .ok (.istore_n 2, 1) := by decide +kernel
theorem dX2_refusesFrom_9 : decode cX2_refusesFrom 9 = .ok (.aload_n 0, 1) := by decide +kernel
theorem dX2_refusesFrom_10 : decode cX2_refusesFrom 10 = .ok (.iload_n 1, 1) := by decide +kernel
theorem dX2_refusesFrom_11 : decode cX2_refusesFrom 11 = .ok (.invokevirtual 49, 3) := by decide +kernel
theorem dX2_refusesFrom_14 : decode cX2_refusesFrom 14 = .ok (.sipush 256, 3) := by decide +kernel
theorem dX2_refusesFrom_17 : decode cX2_refusesFrom 17 = .ok (.iload_n 2, 1) := by decide +kernel
theorem dX2_refusesFrom_18 : decode cX2_refusesFrom 18 = .ok (.bipush 16, 2) := by decide +kernel
theorem dX2_refusesFrom_20 : decode cX2_refusesFrom 20 = .ok (.imul, 1) := by decide +kernel
theorem dX2_refusesFrom_21 : decode cX2_refusesFrom 21 = .ok (.isub, 1) := by decide +kernel
theorem dX2_refusesFrom_22 : decode cX2_refusesFrom 22 = .ok (.if_icmp .ne 7, 3) := by decide +kernel
theorem dX2_refusesFrom_25 : decode cX2_refusesFrom 25 = .ok (.iload_n 2, 1) := by decide +kernel
theorem dX2_refusesFrom_26 : decode cX2_refusesFrom 26 = .ok (.goto 5, 3) := by decide +kernel
theorem dX2_refusesFrom_29 : decode cX2_refusesFrom 29 = .ok (.ldc 29, 2) := by decide +kernel
theorem dX2_refusesFrom_31 : decode cX2_refusesFrom 31 = .ok (.ireturn, 1) := by decide +kernel
set_option maxRecDepth 20000 in
theorem ggX2_firstRefusal_X2_given : GoodIn wsX2_firstRefusal wsX2_given := goodIn_r _ [6, 1, 7, 8] (by decide +kernel) (by decide +kernel)
set_option maxRecDepth 20000 in
theorem gX2_firstRefusal_X2_given : GoodIn wsX2_firstRefusal (wsV RX2 30 RX2 yX2_given wsX2_given) := goodIn_app (goodIn_of _ (by decide +kernel)) ggX2_firstRefusal_X2_given
theorem dX2_firstRefusal_0 : decode cX2_firstRefusal 0 = .ok (.iconst 0, 1) := by decide +kernel
theorem dX2_firstRefusal_1 : decode cX2_firstRefusal 1 = .ok (.istore_n 2, 1) := by decide +kernel
theorem dX2_firstRefusal_2 : decode cX2_firstRefusal 2 = .ok (.iload_n 2, 1) := by decide +kernel
theorem dX2_firstRefusal_3 : decode cX2_firstRefusal 3 = .ok (.sipush 256, 3) := by decide +kernel
theorem dX2_firstRefusal_6 : decode cX2_firstRefusal 6 = .ok (.if_icmp .ge 22, 3) := by decide +kernel
theorem dX2_firstRefusal_9 : decode cX2_firstRefusal 9 = .ok (.aload_n 0, 1) := by decide +kernel
theorem dX2_firstRefusal_10 : decode cX2_firstRefusal 10 = .ok (.iload_n 1, 1) := by decide +kernel
theorem dX2_firstRefusal_11 : decode cX2_firstRefusal 11 = .ok (.iload_n 2, 1) := by decide +kernel
theorem dX2_firstRefusal_12 : decode cX2_firstRefusal 12 = .ok (.invokevirtual 30, 3) := by decide +kernel
theorem dX2_firstRefusal_15 : decode cX2_firstRefusal 15 = .ok (.ldc 29, 2) := by decide +kernel
theorem dX2_firstRefusal_17 : decode cX2_firstRefusal 17 = .ok (.if_icmp .ne 5, 3) := by decide +kernel
theorem dX2_firstRefusal_20 : decode cX2_firstRefusal 20 = .ok (.iload_n 2, 1) := by decide +kernel
theorem dX2_firstRefusal_21 : decode cX2_firstRefusal 21 = .ok (.ireturn, 1) := by decide +kernel
theorem dX2_firstRefusal_22 : decode cX2_firstRefusal 22 = .ok (.iinc 2 1, 3) := by decide +kernel
theorem dX2_firstRefusal_25 : decode cX2_firstRefusal 25 = .ok (.goto (-23), 3) := by decide +kernel
theorem dX2_firstRefusal_28 : decode cX2_firstRefusal 28 = .ok (.sipush 256, 3) := by decide +kernel
theorem dX2_firstRefusal_31 : decode cX2_firstRefusal 31 = .ok (.ireturn, 1) := by decide +kernel
theorem dJ9_floorMod_7cf53_0 : decode cJ9_floorMod_7cf53 0 = .ok (.iload_n 0, 1) := by decide +kernel
theorem dJ9_floorMod_7cf53_1 : decode cJ9_floorMod_7cf53 1 = .ok (.iload_n 1, 1) := by decide +kernel
theorem dJ9_floorMod_7cf53_2 : decode cJ9_floorMod_7cf53 2 = .ok (.irem, 1) := by decide +kernel
theorem dJ9_floorMod_7cf53_3 : decode cJ9_floorMod_7cf53 3 = .ok (.istore_n 2, 1) := by decide +kernel
theorem dJ9_floorMod_7cf53_4 : decode cJ9_floorMod_7cf53 4 = .ok (.iload_n 0, 1) := by decide +kernel
theorem dJ9_floorMod_7cf53_5 : decode cJ9_floorMod_7cf53 5 = .ok (.iload_n 1, 1) := by decide +kernel
theorem dJ9_floorMod_7cf53_6 : decode cJ9_floorMod_7cf53 6 = .ok (.ixor, 1) := by decide +kernel
theorem dJ9_floorMod_7cf53_7 : decode cJ9_floorMod_7cf53 7 = .ok (.ifCond .ge 11, 3) := by decide +kernel
theorem dJ9_floorMod_7cf53_10 : decode cJ9_floorMod_7cf53 10 = .ok (.iload_n 2, 1) := by decide +kernel
theorem dJ9_floorMod_7cf53_11 : decode cJ9_floorMod_7cf53 11 = .ok (.ifCond .eq 7, 3) := by decide +kernel
theorem dJ9_floorMod_7cf53_14 : decode cJ9_floorMod_7cf53 14 = .ok (.iload_n 2, 1) := by decide +kernel
theorem dJ9_floorMod_7cf53_15 : decode cJ9_floorMod_7cf53 15 = .ok (.iload_n 1, 1) := by decide +kernel
theorem dJ9_floorMod_7cf53_16 : decode cJ9_floorMod_7cf53 16 = .ok (.iadd, 1) := by decide +kernel
theorem dJ9_floorMod_7cf53_17 : decode cJ9_floorMod_7cf53 17 = .ok (.ireturn, 1) := by decide +kernel
theorem dJ9_floorMod_7cf53_18 : decode cJ9_floorMod_7cf53 18 = .ok (.iload_n 2, 1) := by decide +kernel
theorem dJ9_floorMod_7cf53_19 : decode cJ9_floorMod_7cf53 19 = .ok (.ireturn, 1) := by decide +kernel
theorem dJ9_abs_0f7a4_0 : decode cJ9_abs_0f7a4 0 = .ok (.iload_n 0, 1) := by decide +kernel
theorem dJ9_abs_0f7a4_1 : decode cJ9_abs_0f7a4 1 = .ok (.ifCond .ge 8, 3) := by decide +kernel
theorem dJ9_abs_0f7a4_4 : decode cJ9_abs_0f7a4 4 = .ok (.iload_n 0, 1) := by decide +kernel
theorem dJ9_abs_0f7a4_5 : decode cJ9_abs_0f7a4 5 = .ok (.ineg, 1) := by decide +kernel
theorem dJ9_abs_0f7a4_6 : decode cJ9_abs_0f7a4 6 = .ok (.goto 4, 3) := by decide +kernel
theorem dJ9_abs_0f7a4_9 : decode cJ9_abs_0f7a4 9 = .ok (.iload_n 0, 1) := by decide +kernel
theorem dJ9_abs_0f7a4_10 : decode cJ9_abs_0f7a4 10 = .ok (.ireturn, 1) := by decide +kernel
theorem dJ9_max_7cf53_0 : decode cJ9_max_7cf53 0 = .ok (.iload_n 0, 1) := by decide +kernel
theorem dJ9_max_7cf53_1 : decode cJ9_max_7cf53 1 = .ok (.iload_n 1, 1) := by decide +kernel
theorem dJ9_max_7cf53_2 : decode cJ9_max_7cf53 2 = .ok (.if_icmp .lt 7, 3) := by decide +kernel
theorem dJ9_max_7cf53_5 : decode cJ9_max_7cf53 5 = .ok (.iload_n 0, 1) := by decide +kernel
theorem dJ9_max_7cf53_6 : decode cJ9_max_7cf53 6 = .ok (.goto 4, 3) := by decide +kernel
theorem dJ9_max_7cf53_9 : decode cJ9_max_7cf53 9 = .ok (.iload_n 1, 1) := by decide +kernel
theorem dJ9_max_7cf53_10 : decode cJ9_max_7cf53 10 = .ok (.ireturn, 1) := by decide +kernel
theorem dJ9_min_7cf53_0 : decode cJ9_min_7cf53 0 = .ok (.iload_n 0, 1) := by decide +kernel
theorem dJ9_min_7cf53_1 : decode cJ9_min_7cf53 1 = .ok (.iload_n 1, 1) := by decide +kernel
theorem dJ9_min_7cf53_2 : decode cJ9_min_7cf53 2 = .ok (.if_icmp .gt 7, 3) := by decide +kernel
theorem dJ9_min_7cf53_5 : decode cJ9_min_7cf53 5 = .ok (.iload_n 0, 1) := by decide +kernel
theorem dJ9_min_7cf53_6 : decode cJ9_min_7cf53 6 = .ok (.goto 4, 3) := by decide +kernel
theorem dJ9_min_7cf53_9 : decode cJ9_min_7cf53 9 = .ok (.iload_n 1, 1) := by decide +kernel
theorem dJ9_min_7cf53_10 : decode cJ9_min_7cf53 10 = .ok (.ireturn, 1) := by decide +kernel
end
section
set_option maxRecDepth 20000 in
theorem ggX3_init_X1_init : GoodIn wsX3_init wsX1_init := goodIn_r _ [22, 23, 2, 3, 18, 24, 25, 31, 32] (by decide +kernel) (by decide +kernel)
set_option maxRecDepth 20000 in
theorem gX3_init_X1_init : GoodIn wsX3_init (wsX1_init) := ggX3_init_X1_init
set_option maxRecDepth 20000 in
theorem ggX3_init_X2_init : GoodIn wsX3_init wsX2_init := goodIn_r _ [28, 29, 2, 3, 18, 30, 41] (by decide +kernel) (by decide +kernel)
set_option maxRecDepth 20000 in
theorem gX3_init_X2_init : GoodIn wsX3_init (wsX2_init) := ggX3_init_X2_init
theorem dX3_init_0 : decode cX3_init 0 = .ok (.aload_n 0, 1) := by decide +kernel
theorem dX3_init_1 : decode cX3_init 1 = .ok (.invokespecial 3, 3) := by decide +kernel
theorem dX3_init_4 : decode cX3_init 4 = .ok (.aload_n 0, 1) := by decide +kernel
theorem dX3_init_5 : decode cX3_init 5 = .ok (.new 9, 3) := by decide +kernel
theorem dX3_init_8 : decode cX3_init 8 = .ok (.dup, 1) := by decide +kernel
theorem dX3_init_9 : decode cX3_init 9 = .ok (.invokespecial 11, 3) := by decide +kernel
theorem dX3_init_12 : decode cX3_init 12 = .ok (.putfield 12, 3) := by decide +kernel
theorem dX3_init_15 : decode cX3_init 15 = .ok (.aload_n 0, 1) := by decide +kernel
theorem dX3_init_16 : decode cX3_init 16 = .ok (.new 16, 3) := by decide +kernel
theorem dX3_init_19 : decode cX3_init 19 = .ok (.dup, 1) := by decide +kernel
theorem dX3_init_20 : decode cX3_init 20 = .ok (.invokespecial 18, 3) := by decide +kernel
theorem dX3_init_23 : decode cX3_init 23 = .ok (.putfield 19, 3) := by decide +kernel
theorem dX3_init_26 : decode cX3_init 26 = .ok (.aload_n 0, 1) := by decide +kernel
theorem dX3_init_27 : decode cX3_init 27 = .ok (.bipush 6, 2) := by decide +kernel
theorem dX3_init_29 : decode cX3_init 29 = .ok (.putfield 23, 3) := by decide +kernel
theorem dX3_init_32 : decode cX3_init 32 = .ok (.aload_n 0, 1) := by decide +kernel
theorem dX3_init_33 : decode cX3_init 33 = .ok (.bipush 31, 2) := by decide +kernel
theorem dX3_init_35 : decode cX3_init 35 = .ok (.anewarray 16, 3) := by decide +kernel
theorem dX3_init_38 : decode cX3_init 38 = .ok (.putfield 27, 3) := by decide +kernel
theorem dX3_init_41 : decode cX3_init 41 = .ok (.aload_n 0, 1) := by decide +kernel
theorem dX3_init_42 : decode cX3_init 42 = .ok (.getfield 27, 3) := by decide +kernel
theorem dX3_init_45 : decode cX3_init 45 = .ok (.iconst 0, 1) := by decide +kernel
theorem dX3_init_46 : decode cX3_init 46 = .ok (.new 16, 3) := by decide +kernel
theorem dX3_init_49 : decode cX3_init 49 = .ok (.dup, 1) := by decide +kernel
theorem dX3_init_50 : decode cX3_init 50 = .ok (.invokespecial 18, 3) := by decide +kernel
theorem dX3_init_53 : decode cX3_init 53 = .ok (.aastore, 1) := by decide +kernel
theorem dX3_init_54 : decode cX3_init 54 = .ok (.aload_n 0, 1) := by decide +kernel
theorem dX3_init_55 : decode cX3_init 55 = .ok (.iconst 0, 1) := by decide +kernel
theorem dX3_init_56 : decode cX3_init 56 = .ok (.putfield 31, 3) := by decide +kernel
theorem dX3_init_59 : decode cX3_init 59 = .ok (.aload_n 0, 1) := by decide +kernel
theorem dX3_init_60 : decode cX3_init 60 = .ok (.bipush 40, 2) := by decide +kernel
theorem dX3_init_62 : decode cX3_init 62 = .ok (.anewarray 34, 3) := by decide +kernel
theorem dX3_init_65 : decode cX3_init 65 = .ok (.putfield 36, 3) := by decide +kernel
theorem dX3_init_68 : decode cX3_init 68 = .ok (.aload_n 0, 1) := by decide +kernel
theorem dX3_init_69 : decode cX3_init 69 = .ok (.iconst 0, 1) := by decide +kernel
theorem dX3_init_70 : decode cX3_init 70 = .ok (.putfield 40, 3) := by decide +kernel
theorem dX3_init_73 : decode cX3_init 73 = .ok (.aload_n 0, 1) := by decide +kernel
theorem dX3_init_74 : decode cX3_init 74 = .ok (.bipush 40, 2) := by decide +kernel
theorem dX3_init_76 : decode cX3_init 76 = .ok (.newarray .int, 2) := by decide +kernel
theorem dX3_init_78 : decode cX3_init 78 = .ok (.putfield 43, 3) := by decide +kernel
theorem dX3_init_81 : decode cX3_init 81 = .ok (.return_, 1) := by decide +kernel
set_option maxRecDepth 20000 in
theorem ggX3_clear_X3_isFunction : GoodIn wsX3_clear wsX3_isFunction := goodIn_r _ [5] (by decide +kernel) (by decide +kernel)
set_option maxRecDepth 20000 in
theorem gX3_clear_X3_isFunction : GoodIn wsX3_clear (va_wsS RX3 47 yX3_isFunction wsX3_isFunction) := goodIn_app (goodIn_of _ (by decide +kernel)) ggX3_clear_X3_isFunction
set_option maxRecDepth 20000 in
theorem ggX3_clear_X1_empty : GoodIn wsX3_clear wsX1_empty := goodIn_r _ [10, 11, 3, 4, 5, 29, 30] (by decide +kernel) (by decide +kernel)
set_option maxRecDepth 20000 in
theorem gX3_clear_X1_empty : GoodIn wsX3_clear (wsV RX3 51 RX1 yX1_empty wsX1_empty) := goodIn_app (goodIn_of _ (by decide +kernel)) ggX3_clear_X1_empty
set_option maxRecDepth 20000 in
theorem ggX3_clear_X3_unsettle : GoodIn wsX3_clear wsX3_unsettle := goodIn_r _ [15, 16, 17, 18, 19, 20, 21, 22, 23, 24, 25, 26, 27, 28] (by decide +kernel) (by decide +kernel)
set_option maxRecDepth 20000 in
theorem gX3_clear_X3_unsettle : GoodIn wsX3_clear (wsV RX3 55 RX3 yX3_unsettle wsX3_unsettle) := goodIn_app (goodIn_of _ (by decide +kernel)) ggX3_clear_X3_unsettle
theorem dX3_clear_0 : decode cX3_clear 0 = .ok (.iload_n 1, 1) := by decide +kernel
theorem dX3_clear_1 : decode cX3_clear 1 = .ok (.invokestatic 47, 3) := by decide +kernel
theorem dX3_clear_4 : decode cX3_clear 4 = .ok (.ifCond .ne 5, 3) := by decide +kernel
theorem dX3_clear_7 : decode cX3_clear 7 = .ok (.iconst 0, 1) := by decide +kernel
theorem dX3_clear_8 : decode cX3_clear 8 = .ok (.ireturn, 1) := by decide +kernel
theorem dX3_clear_9 : decode cX3_clear 9 = .ok (.aload_n 0, 1) := by decide +kernel
theorem dX3_clear_10 : decode cX3_clear 10 = .ok (.getfield 12, 3) := by decide +kernel
theorem dX3_clear_13 : decode cX3_clear 13 = .ok (.iload_n 1, 1) := by decide +kernel
theorem dX3_clear_14 : decode cX3_clear 14 = .ok (.invokevirtual 51, 3) := by decide +kernel
theorem dX3_clear_17 : decode cX3_clear 17 = .ok (.aload_n 0, 1) := by decide +kernel
theorem dX3_clear_18 : decode cX3_clear 18 = .ok (.iload_n 1, 1) := by decide +kernel
theorem dX3_clear_19 : decode cX3_clear 19 = .ok (.invokevirtual 55, 3) := by decide +kernel
theorem dX3_clear_22 : decode cX3_clear 22 = .ok (.iconst 1, 1) := by decide +kernel
theorem dX3_clear_23 : decode cX3_clear 23 = .ok (.ireturn, 1) := by decide +kernel
set_option maxRecDepth 20000 in
theorem ggX3_step_X3_isFunction : GoodIn wsX3_step wsX3_isFunction := goodIn_r _ [5] (by decide +kernel) (by decide +kernel)
set_option maxRecDepth 20000 in
theorem gX3_step_X3_isFunction : GoodIn wsX3_step (va_wsS RX3 47 yX3_isFunction wsX3_isFunction) := goodIn_app (goodIn_of _ (by decide +kernel)) ggX3_step_X3_isFunction
set_option maxRecDepth 20000 in
theorem ggX3_step_X1_length : GoodIn wsX3_step wsX1_length := goodIn_r _ [10, 11, 3, 4, 5, 51, 52] (by decide +kernel) (by decide +kernel)
set_option maxRecDepth 20000 in
theorem gX3_step_X1_length : GoodIn wsX3_step (wsV RX3 58 RX1 yX1_length wsX1_length) := goodIn_app (goodIn_of _ (by decide +kernel)) ggX3_step_X1_length
set_option maxRecDepth 20000 in
theorem ggX3_step_X1_canStand : GoodIn wsX3_step wsX1_canStand := goodIn_r _ [15, 16, 17, 18, 9, 19, 20, 7, 8, 10, 11, 3, 4, 5, 21, 22, 23, 24, 25, 51, 52] (by decide +kernel) (by decide +kernel)
set_option maxRecDepth 20000 in
theorem gX3_step_X1_canStand : GoodIn wsX3_step (wsV RX3 62 RX1 yX1_canStand wsX1_canStand) := goodIn_app (goodIn_of _ (by decide +kernel)) ggX3_step_X1_canStand
set_option maxRecDepth 20000 in
theorem ggX3_step_X1_append : GoodIn wsX3_step wsX1_append := goodIn_r _ [29, 11, 3, 4, 5, 30, 31, 32, 9, 33, 25, 51, 52] (by decide +kernel) (by decide +kernel)
set_option maxRecDepth 20000 in
theorem gX3_step_X1_append : GoodIn wsX3_step (wsV RX3 66 RX1 yX1_append wsX1_append) := goodIn_app (goodIn_of _ (by decide +kernel)) ggX3_step_X1_append
set_option maxRecDepth 20000 in
theorem ggX3_step_X3_unsettle : GoodIn wsX3_step wsX3_unsettle := goodIn_r _ [37, 38, 39, 40, 41, 42, 43, 44, 45, 46, 47, 48, 49, 50] (by decide +kernel) (by decide +kernel)
set_option maxRecDepth 20000 in
theorem gX3_step_X3_unsettle : GoodIn wsX3_step (wsV RX3 55 RX3 yX3_unsettle wsX3_unsettle) := goodIn_app (goodIn_of _ (by decide +kernel)) ggX3_step_X3_unsettle
theorem dX3_step_0 : decode cX3_step 0 = .ok (.iload_n 1, 1) := by decide +kernel
theorem dX3_step_1 : decode cX3_step 1 = .ok (.invokestatic 47, 3) := by decide +kernel
theorem dX3_step_4 : decode cX3_step 4 = .ok (.ifCond .ne 5, 3) := by decide +kernel
theorem dX3_step_7 : decode cX3_step 7 = .ok (.iconst (-1), 1) := by decide +kernel
theorem dX3_step_8 : decode cX3_step 8 = .ok (.ireturn, 1) := by decide +kernel
theorem dX3_step_9 : decode cX3_step 9 = .ok (.aload_n 0, 1) := by decide +kernel
theorem dX3_step_10 : decode cX3_step 10 = .ok (.getfield 12, 3) := by decide +kernel
theorem dX3_step_13 : decode cX3_step 13 = .ok (.iload_n 1, 1) := by decide +kernel
theorem dX3_step_14 : decode cX3_step 14 = .ok (.invokevirtual 58, 3) := by decide +kernel
theorem dX3_step_17 : decode cX3_step 17 = .ok (.istore_n 3, 1) := by decide +kernel
theorem dX3_step_18 : decode cX3_step 18 = .ok (.iload_n 3, 1) := by decide +kernel
theorem dX3_step_19 : decode cX3_step 19 = .ok (.bipush 12, 2) := by decide +kernel
theorem dX3_step_21 : decode cX3_step 21 = .ok (.if_icmp .ge 16, 3) := by decide +kernel
theorem dX3_step_24 : decode cX3_step 24 = .ok (.aload_n 0, 1) := by decide +kernel
theorem dX3_step_25 : decode cX3_step 25 = .ok (.getfield 12, 3) := by decide +kernel
theorem dX3_step_28 : decode cX3_step 28 = .ok (.iload_n 1, 1) := by decide +kernel
theorem dX3_step_29 : decode cX3_step 29 = .ok (.iload_n 3, 1) := by decide +kernel
theorem dX3_step_30 : decode cX3_step 30 = .ok (.iload_n 2, 1) := by decide +kernel
theorem dX3_step_31 : decode cX3_step 31 = .ok (.invokevirtual 62, 3) := by decide +kernel
theorem dX3_step_34 : decode cX3_step 34 = .ok (.ifCond .ne 5, 3) := by decide +kernel
theorem dX3_step_37 : decode cX3_step 37 = .ok (.iconst (-1), 1) := by decide +kernel
theorem dX3_step_38 : decode cX3_step 38 = .ok (.ireturn, 1) := by decide +kernel
theorem dX3_step_39 : decode cX3_step 39 = .ok (.aload_n 0, 1) := by decide +kernel
theorem dX3_step_40 : decode cX3_step 40 = .ok (.getfield 12, 3) := by decide +kernel
theorem dX3_step_43 : decode cX3_step 43 = .ok (.iload_n 1, 1) := by decide +kernel
theorem dX3_step_44 : decode cX3_step 44 = .ok (.iload_n 2, 1) := by decide +kernel
theorem dX3_step_45 : decode cX3_step 45 = .ok (.invokevirtual 66, 3) := by decide +kernel
theorem dX3_step_48 : decode cX3_step 48 = .ok (.aload_n 0, 1) := by decide +kernel
theorem dX3_step_49 : decode cX3_step 49 = .ok (.iload_n 1, 1) := by decide +kernel
theorem dX3_step_50 : decode cX3_step 50 = .ok (.invokevirtual 55, 3) := by decide +kernel
theorem dX3_step_53 : decode cX3_step 53 = .ok (.iload_n 3, 1) := by decide +kernel
theorem dX3_step_54 : decode cX3_step 54 = .ok (.iconst 1, 1) := by decide +kernel
theorem dX3_step_55 : decode cX3_step 55 = .ok (.iadd, 1) := by decide +kernel
theorem dX3_step_56 : decode cX3_step 56 = .ok (.ireturn, 1) := by decide +kernel
set_option maxRecDepth 20000 in
theorem ggX3_change_X3_isFunction : GoodIn wsX3_change wsX3_isFunction := goodIn_r _ [5] (by decide +kernel) (by decide +kernel)
set_option maxRecDepth 20000 in
theorem gX3_change_X3_isFunction : GoodIn wsX3_change (va_wsS RX3 47 yX3_isFunction wsX3_isFunction) := goodIn_app (goodIn_of _ (by decide +kernel)) ggX3_change_X3_isFunction
set_option maxRecDepth 20000 in
theorem ggX3_change_X1_length : GoodIn wsX3_change wsX1_length := goodIn_r _ [10, 11, 3, 4, 5, 47, 48] (by decide +kernel) (by decide +kernel)
set_option maxRecDepth 20000 in
theorem gX3_change_X1_length : GoodIn wsX3_change (wsV RX3 58 RX1 yX1_length wsX1_length) := goodIn_app (goodIn_of _ (by decide +kernel)) ggX3_change_X1_length
set_option maxRecDepth 20000 in
theorem ggX3_change_X1_canStand : GoodIn wsX3_change wsX1_canStand := goodIn_r _ [15, 16, 17, 18, 9, 19, 20, 7, 8, 10, 11, 3, 4, 5, 21, 22, 23, 24, 25, 47, 48] (by decide +kernel) (by decide +kernel)
set_option maxRecDepth 20000 in
theorem gX3_change_X1_canStand : GoodIn wsX3_change (wsV RX3 62 RX1 yX1_canStand wsX1_canStand) := goodIn_app (goodIn_of _ (by decide +kernel)) ggX3_change_X1_canStand
set_option maxRecDepth 20000 in
theorem ggX3_change_X1_put : GoodIn wsX3_change wsX1_put := goodIn_r _ [29, 25, 3, 4, 5, 47, 48] (by decide +kernel) (by decide +kernel)
set_option maxRecDepth 20000 in
theorem gX3_change_X1_put : GoodIn wsX3_change (wsV RX3 70 RX1 yX1_put wsX1_put) := goodIn_app (goodIn_of _ (by decide +kernel)) ggX3_change_X1_put
set_option maxRecDepth 20000 in
theorem ggX3_change_X3_unsettle : GoodIn wsX3_change wsX3_unsettle := goodIn_r _ [33, 34, 35, 36, 37, 38, 39, 40, 41, 42, 43, 44, 45, 46] (by decide +kernel) (by decide +kernel)
set_option maxRecDepth 20000 in
theorem gX3_change_X3_unsettle : GoodIn wsX3_change (wsV RX3 55 RX3 yX3_unsettle wsX3_unsettle) := goodIn_app (goodIn_of _ (by decide +kernel)) ggX3_change_X3_unsettle
theorem dX3_change_0 : decode cX3_change 0 = .ok (.iload_n 1, 1) := by decide +kernel
theorem dX3_change_1 : decode cX3_change 1 = .ok (.invokestatic 47, 3) := by decide +kernel
theorem dX3_change_4 : decode cX3_change 4 = .ok (.ifCond .eq 19, 3) := by decide +kernel
theorem dX3_change_7 : decode cX3_change 7 = .ok (.iload_n 2, 1) := by decide +kernel
theorem dX3_change_8 : decode cX3_change 8 = .ok (.ifCond .lt 15, 3) := by decide +kernel
theorem dX3_change_11 : decode cX3_change 11 = .ok (.iload_n 2, 1) := by decide +kernel
theorem dX3_change_12 : decode cX3_change 12 = .ok (.aload_n 0, 1) := by decide +kernel
theorem dX3_change_13 : decode cX3_change 13 = .ok (.getfield 12, 3) := by decide +kernel
theorem dX3_change_16 : decode cX3_change 16 = .ok (.iload_n 1, 1) := by decide +kernel
theorem dX3_change_17 : decode cX3_change 17 = .ok (.invokevirtual 58, 3) := by decide +kernel
theorem dX3_change_20 : decode cX3_change 20 = .ok (.if_icmp .lt 5, 3) := by decide +kernel
theorem dX3_change_23 : decode cX3_change 23 = .ok (.iconst 0, 1) := by decide +kernel
theorem dX3_change_24 : decode cX3_change 24 = .ok (.ireturn, 1) := by decide +kernel
theorem dX3_change_25 : decode cX3_change 25 = .ok (.aload_n 0, 1) := by decide +kernel
theorem dX3_change_26 : decode cX3_change 26 = .ok (.getfield 12, 3) := by decide +kernel
theorem dX3_change_29 : decode cX3_change 29 = .ok (.iload_n 1, 1) := by decide +kernel
theorem dX3_change_30 : decode cX3_change 30 = .ok (.iload_n 2, 1) := by decide +kernel
theorem dX3_change_31 : decode cX3_change 31 = .ok (.iload_n 3, 1) := by decide +kernel
theorem dX3_change_32 : decode cX3_change 32 = .ok (.invokevirtual 62, 3) := by decide +kernel
theorem dX3_change_35 : decode cX3_change 35 = .ok (.ifCond .ne 5, 3) := by decide +kernel
theorem dX3_change_38 : decode cX3_change 38 = .ok (.iconst 0, 1) := by decide +kernel
theorem dX3_change_39 : decode cX3_change 39 = .ok (.ireturn, 1) := by decide +kernel
theorem dX3_change_40 : decode cX3_change 40 = .ok (.aload_n 0, 1) := by decide +kernel
theorem dX3_change_41 : decode cX3_change 41 = .ok (.getfield 12, 3) := by decide +kernel
theorem dX3_change_44 : decode cX3_change 44 = .ok (.iload_n 1, 1) := by decide +kernel
theorem dX3_change_45 : decode cX3_change 45 = .ok (.iload_n 2, 1) := by decide +kernel
theorem dX3_change_46 : decode cX3_change 46 = .ok (.iload_n 3, 1) := by decide +kernel
theorem dX3_change_47 : decode cX3_change 47 = .ok (.invokevirtual 70, 3) := by decide +kernel
theorem dX3_change_50 : decode cX3_change 50 = .ok (.aload_n 0, 1) := by decide +kernel
theorem dX3_change_51 : decode cX3_change 51 = .ok (.iload_n 1, 1) := by decide +kernel
theorem dX3_change_52 : decode cX3_change 52 = .ok (.invokevirtual 55, 3) := by decide +kernel
theorem dX3_change_55 : decode cX3_change 55 = .ok (.iconst 1, 1) := by decide +kernel
theorem dX3_change_56 : decode cX3_change 56 = .ok (.ireturn, 1) := by decide +kernel
set_option maxRecDepth 20000 in
theorem ggX3_run_X3_present : GoodIn wsX3_run wsX3_present := goodIn_r _ [5, 6, 7, 8, 9, 10, 11, 12, 13, 14, 15, 16, 17, 18, 19, 20, 21, 22, 23, 24, 4, 25, 26, 27, 28, 29, 30, 31, 32, 33, 34, 35, 36, 37, 38, 39, 40, 41, 42, 43, 44, 45, 46, 47, 48, 49, 50, 51, 52, 53, 54, 55, 56, 57, 58, 59, 60, 61, 66, 67, 68, 69, 70, 71, 72, 73, 74, 75, 76] (by decide +kernel) (by decide +kernel)
set_option maxRecDepth 20000 in
theorem gX3_run_X3_present : GoodIn wsX3_run (wsV RX3 74 RX3 yX3_present wsX3_present) := goodIn_app (goodIn_of _ (by decide +kernel)) ggX3_run_X3_present
set_option maxRecDepth 20000 in
theorem ggX3_run_X3_runNumber : GoodIn wsX3_run wsX3_runNumber := goodIn_r _ [64] (by decide +kernel) (by decide +kernel)
set_option maxRecDepth 20000 in
theorem gX3_run_X3_runNumber : GoodIn wsX3_run (va_wsS RX3 78 yX3_runNumber wsX3_runNumber) := goodIn_app (goodIn_of _ (by decide +kernel)) ggX3_run_X3_runNumber
set_option maxRecDepth 20000 in
theorem ggX3_run_X2_given : GoodIn wsX3_run wsX2_given := goodIn_r _ [45, 46, 47, 76] (by decide +kernel) (by decide +kernel)
set_option maxRecDepth 20000 in
theorem gX3_run_X2_given : GoodIn wsX3_run (wsV RX3 82 RX2 yX2_given wsX2_given) := goodIn_app (goodIn_of _ (by decide +kernel)) ggX3_run_X2_given
theorem dX3_run_0 : decode cX3_run 0 = .ok (.aload_n 0, 1) := by decide +kernel
theorem dX3_run_1 : decode cX3_run 1 = .ok (.invokevirtual 74, 3) := by decide +kernel
theorem dX3_run_4 : decode cX3_run 4 = .ok (.iload_n 1, 1) := by decide +kernel
theorem dX3_run_5 : decode cX3_run 5 = .ok (.iload_n 2, 1) := by decide +kernel
theorem dX3_run_6 : decode cX3_run 6 = .ok (.iload_n 3, 1) := by decide +kernel
theorem dX3_run_7 : decode cX3_run 7 = .ok (.invokestatic 78, 3) := by decide +kernel
theorem dX3_run_10 : decode cX3_run 10 = .ok (.invokevirtual 82, 3) := by decide +kernel
theorem dX3_run_13 : decode cX3_run 13 = .ok (.ireturn, 1) := by decide +kernel
set_option maxRecDepth 20000 in
theorem ggX3_keep_X3_present : GoodIn wsX3_keep wsX3_present := goodIn_r _ [10, 11, 12, 13, 14, 15, 16, 17, 18, 19, 20, 21, 22, 23, 24, 25, 26, 27, 28, 29, 9, 30, 31, 32, 33, 34, 35, 36, 37, 38, 39, 40, 41, 42, 43, 44, 45, 46, 47, 48, 49, 50, 51, 52, 53, 54, 55, 56, 57, 58, 59, 60, 61, 62, 63, 64, 65, 66, 103, 104, 105, 106, 107, 108, 109, 110, 118, 119, 120] (by decide +kernel) (by decide +kernel)
set_option maxRecDepth 20000 in
theorem gX3_keep_X3_present : GoodIn wsX3_keep (wsV RX3 74 RX3 yX3_present wsX3_present) := goodIn_app (goodIn_of _ (by decide +kernel)) ggX3_keep_X3_present
set_option maxRecDepth 20000 in
theorem ggX3_keep_X2_copy : GoodIn wsX3_keep wsX2_copy := goodIn_r _ [70, 71, 72, 49, 52, 73, 74, 75, 76, 77, 78, 79, 80, 81, 82, 83, 120] (by decide +kernel) (by decide +kernel)
set_option maxRecDepth 20000 in
theorem gX3_keep_X2_copy : GoodIn wsX3_keep (wsV RX3 85 RX2 yX2_copy wsX2_copy) := goodIn_app (goodIn_of _ (by decide +kernel)) ggX3_keep_X2_copy
set_option maxRecDepth 20000 in
theorem ggX3_keep_X0_isHeldIn : GoodIn wsX3_keep wsX0_isHeldIn := goodIn_r _ [88, 89, 90, 91, 87, 92, 93, 94, 95, 96, 97, 98, 99, 100, 101, 102, 47, 48, 49, 50, 51, 52, 111, 112, 113, 114, 115, 116, 117, 120] (by decide +kernel) (by decide +kernel)
set_option maxRecDepth 20000 in
theorem gX3_keep_X0_isHeldIn : GoodIn wsX3_keep (wsV RX3 88 RX0 yX0_isHeldIn wsX0_isHeldIn) := goodIn_app (goodIn_of _ (by decide +kernel)) ggX3_keep_X0_isHeldIn
theorem dX3_keep_0 : decode cX3_keep 0 = .ok (.aload_n 0, 1) := by decide +kernel
theorem dX3_keep_1 : decode cX3_keep 1 = .ok (.getfield 31, 3) := by decide +kernel
theorem dX3_keep_4 : decode cX3_keep 4 = .ok (.bipush 30, 2) := by decide +kernel
theorem dX3_keep_6 : decode cX3_keep 6 = .ok (.if_icmp .lt 5, 3) := by decide +kernel
theorem dX3_keep_9 : decode cX3_keep 9 = .ok (.iconst (-1), 1) := by decide +kernel
theorem dX3_keep_10 : decode cX3_keep 10 = .ok (.ireturn, 1) := by decide +kernel
theorem dX3_keep_11 : decode cX3_keep 11 = .ok (.aload_n 0, 1) := by decide +kernel
theorem dX3_keep_12 : decode cX3_keep 12 = .ok (.invokevirtual 74, 3) := by decide +kernel
theorem dX3_keep_15 : decode cX3_keep 15 = .ok (.invokevirtual 85, 3) := by decide +kernel
theorem dX3_keep_18 : decode cX3_keep 18 = .ok (.astore_n 1, 1) := by decide +kernel
theorem dX3_keep_19 : decode cX3_keep 19 = .ok (.aload_n 0, 1) := by decide +kernel
theorem dX3_keep_20 : decode cX3_keep 20 = .ok (.dup, 1) := by decide +kernel
theorem dX3_keep_21 : decode cX3_keep 21 = .ok (.getfield 31, 3) := by decide +kernel
theorem dX3_keep_24 : decode cX3_keep 24 = .ok (.iconst 1, 1) := by decide +kernel
theorem dX3_keep_25 : decode cX3_keep 25 = .ok (.iadd, 1) := by decide +kernel
theorem dX3_keep_26 : decode cX3_keep 26 = .ok (.putfield 31, 3) := by decide +kernel
theorem dX3_keep_29 : decode cX3_keep 29 = .ok (.aload_n 0, 1) := by decide +kernel
theorem dX3_keep_30 : decode cX3_keep 30 = .ok (.getfield 27, 3) := by decide +kernel
theorem dX3_keep_33 : decode cX3_keep 33 = .ok (.aload_n 0, 1) := by decide +kernel
theorem dX3_keep_34 : decode cX3_keep 34 = .ok (.getfield 31, 3) := by decide +kernel
theorem dX3_keep_37 : decode cX3_keep 37 = .ok (.aload_n 1, 1) := by decide +kernel
theorem dX3_keep_38 : decode cX3_keep 38 = .ok (.aastore, 1) := by decide +kernel
theorem dX3_keep_39 : decode cX3_keep 39 = .ok (.iconst 0, 1) := by decide +kernel
theorem dX3_keep_40 : decode cX3_keep 40 = .ok (.istore_n 2, 1) := by decide +kernel
theorem dX3_keep_41 : decode cX3_keep 41 = .ok (.iload_n 2, 1) := by decide +kernel
theorem dX3_keep_42 : decode cX3_keep 42 = .ok (.aload_n 0, 1) := by decide +kernel
theorem dX3_keep_43 : decode cX3_keep 43 = .ok (.getfield 40, 3) := by decide +kernel
theorem dX3_keep_46 : decode cX3_keep 46 = .ok (.if_icmp .ge 36, 3) := by decide +kernel
theorem dX3_keep_49 : decode cX3_keep 49 = .ok (.aload_n 0, 1) := by decide +kernel
theorem dX3_keep_50 : decode cX3_keep 50 = .ok (.getfield 36, 3) := by decide +kernel
theorem dX3_keep_53 : decode cX3_keep 53 = .ok (.iload_n 2, 1) := by decide +kernel
theorem dX3_keep_54 : decode cX3_keep 54 = .ok (.aaload, 1) := by decide +kernel
theorem dX3_keep_55 : decode cX3_keep 55 = .ok (.astore_n 3, 1) := by decide +kernel
theorem dX3_keep_56 : decode cX3_keep 56 = .ok (.aload_n 3, 1) := by decide +kernel
theorem dX3_keep_57 : decode cX3_keep 57 = .ok (.ifnull 19, 3) := by decide +kernel
theorem dX3_keep_60 : decode cX3_keep 60 = .ok (.aload_n 3, 1) := by decide +kernel
theorem dX3_keep_61 : decode cX3_keep 61 = .ok (.aload_n 1, 1) := by decide +kernel
theorem dX3_keep_62 : decode cX3_keep 62 = .ok (.invokevirtual 88, 3) := by decide +kernel
theorem dX3_keep_65 : decode cX3_keep 65 = .ok (.ifCond .eq 11, 3) := by decide +kernel
theorem dX3_keep_68 : decode cX3_keep 68 = .ok (.aload_n 3, 1) := by decide +kernel
theorem dX3_keep_69 : decode cX3_keep 69 = .ok (.aload_n 0, 1) := by decide +kernel
theorem dX3_keep_70 : decode cX3_keep 70 = .ok (.getfield 31, 3) := by decide +kernel
theorem dX3_keep_73 : decode cX3_keep 73 = .ok (.putfield 92, 3) := by decide +kernel
theorem dX3_keep_76 : decode cX3_keep 76 = .ok (.iinc 2 1, 3) := by decide +kernel
theorem dX3_keep_79 : decode cX3_keep 79 = .ok (.goto (-38), 3) := by decide +kernel
theorem dX3_keep_82 : decode cX3_keep 82 = .ok (.aload_n 0, 1) := by decide +kernel
theorem dX3_keep_83 : decode cX3_keep 83 = .ok (.getfield 31, 3) := by decide +kernel
theorem dX3_keep_86 : decode cX3_keep 86 = .ok (.ireturn, 1) := by decide +kernel
set_option maxRecDepth 20000 in
theorem ggX3_was_X3_keptState : GoodIn wsX3_was wsX3_keptState := goodIn_r _ [6, 7, 8, 19, 20, 21, 22, 23, 24, 25, 26] (by decide +kernel) (by decide +kernel)
set_option maxRecDepth 20000 in
theorem gX3_was_X3_keptState : GoodIn wsX3_was (wsV RX3 95 RX3 yX3_keptState wsX3_keptState) := goodIn_app (goodIn_of _ (by decide +kernel)) ggX3_was_X3_keptState
set_option maxRecDepth 20000 in
theorem ggX3_was_X3_runNumber : GoodIn wsX3_was wsX3_runNumber := goodIn_r _ [11] (by decide +kernel) (by decide +kernel)
set_option maxRecDepth 20000 in
theorem gX3_was_X3_runNumber : GoodIn wsX3_was (va_wsS RX3 78 yX3_runNumber wsX3_runNumber) := goodIn_app (goodIn_of _ (by decide +kernel)) ggX3_was_X3_runNumber
set_option maxRecDepth 20000 in
theorem ggX3_was_X2_given : GoodIn wsX3_was wsX2_given := goodIn_r _ [16, 17, 18, 27] (by decide +kernel) (by decide +kernel)
set_option maxRecDepth 20000 in
theorem gX3_was_X2_given : GoodIn wsX3_was (wsV RX3 82 RX2 yX2_given wsX2_given) := goodIn_app (goodIn_of _ (by decide +kernel)) ggX3_was_X2_given
theorem dX3_was_0 : decode cX3_was 0 = .ok (.aload_n 0, 1) := by decide +kernel
theorem dX3_was_1 : decode cX3_was 1 = .ok (.iload_n 1, 1) := by decide +kernel
theorem dX3_was_2 : decode cX3_was 2 = .ok (.invokevirtual 95, 3) := by decide +kernel
theorem dX3_was_5 : decode cX3_was 5 = .ok (.astore 5, 2) := by decide +kernel
theorem dX3_was_7 : decode cX3_was 7 = .ok (.aload 5, 2) := by decide +kernel
theorem dX3_was_9 : decode cX3_was 9 = .ok (.ifnonnull 8, 3) := by decide +kernel
theorem dX3_was_12 : decode cX3_was 12 = .ok (.ldc 99, 2) := by decide +kernel
theorem dX3_was_14 : decode cX3_was 14 = .ok (.goto 15, 3) := by decide +kernel
theorem dX3_was_17 : decode cX3_was 17 = .ok (.aload 5, 2) := by decide +kernel
theorem dX3_was_19 : decode cX3_was 19 = .ok (.iload_n 2, 1) := by decide +kernel
theorem dX3_was_20 : decode cX3_was 20 = .ok (.iload_n 3, 1) := by decide +kernel
theorem dX3_was_21 : decode cX3_was 21 = .ok (.iload 4, 2) := by decide +kernel
theorem dX3_was_23 : decode cX3_was 23 = .ok (.invokestatic 78, 3) := by decide +kernel
theorem dX3_was_26 : decode cX3_was 26 = .ok (.invokevirtual 82, 3) := by decide +kernel
theorem dX3_was_29 : decode cX3_was 29 = .ok (.ireturn, 1) := by decide +kernel
set_option maxRecDepth 20000 in
theorem ggX3_claim_X3_isFunction : GoodIn wsX3_claim wsX3_isFunction := goodIn_r _ [11] (by decide +kernel) (by decide +kernel)
set_option maxRecDepth 20000 in
theorem gX3_claim_X3_isFunction : GoodIn wsX3_claim (va_wsS RX3 47 yX3_isFunction wsX3_isFunction) := goodIn_app (goodIn_of _ (by decide +kernel)) ggX3_claim_X3_isFunction
set_option maxRecDepth 20000 in
theorem ggX3_claim_X3_canBeClaimed : GoodIn wsX3_claim wsX3_canBeClaimed := goodIn_r _ [14, 15, 16, 10, 17, 18, 19, 20, 21, 22, 8, 9, 11] (by decide +kernel) (by decide +kernel)
set_option maxRecDepth 20000 in
theorem gX3_claim_X3_canBeClaimed : GoodIn wsX3_claim (va_wsS RX3 100 yX3_canBeClaimed wsX3_canBeClaimed) := goodIn_app (goodIn_of _ (by decide +kernel)) ggX3_claim_X3_canBeClaimed
set_option maxRecDepth 20000 in
theorem ggX3_claim_X0_init : GoodIn wsX3_claim wsX0_init := goodIn_r _ [25, 26, 27, 28, 29, 30, 31, 32, 33, 34, 35, 74, 75, 76, 77, 78, 79, 80] (by decide +kernel) (by decide +kernel)
set_option maxRecDepth 20000 in
theorem gX3_claim_X0_init : GoodIn wsX3_claim (wsX0_init) := ggX3_claim_X0_init
set_option maxRecDepth 20000 in
theorem ggX3_claim_X3_lastKeptHolding : GoodIn wsX3_claim wsX3_lastKeptHolding := goodIn_r _ [39, 5, 40, 41, 42, 43, 10, 44, 45, 46, 47, 48, 4, 49, 50, 51, 52, 53, 54, 55, 56, 57, 29, 58, 30, 31, 32, 59, 60, 61, 62, 63, 64, 65, 66, 67, 68, 69, 70, 71, 72, 73, 74, 75, 76, 77, 78, 79, 80, 81] (by decide +kernel) (by decide +kernel)
set_option maxRecDepth 20000 in
theorem gX3_claim_X3_lastKeptHolding : GoodIn wsX3_claim (wsV RX3 106 RX3 yX3_lastKeptHolding wsX3_lastKeptHolding) := goodIn_app (goodIn_of _ (by decide +kernel)) ggX3_claim_X3_lastKeptHolding
theorem dX3_claim_0 : decode cX3_claim 0 = .ok (.aload_n 0, 1) := by decide +kernel
theorem dX3_claim_1 : decode cX3_claim 1 = .ok (.getfield 40, 3) := by decide +kernel
theorem dX3_claim_4 : decode cX3_claim 4 = .ok (.bipush 40, 2) := by decide +kernel
theorem dX3_claim_6 : decode cX3_claim 6 = .ok (.if_icmp .ge 20, 3) := by decide +kernel
theorem dX3_claim_9 : decode cX3_claim 9 = .ok (.iload_n 1, 1) := by decide +kernel
theorem dX3_claim_10 : decode cX3_claim 10 = .ok (.invokestatic 47, 3) := by decide +kernel
theorem dX3_claim_13 : decode cX3_claim 13 = .ok (.ifCond .eq 13, 3) := by decide +kernel
theorem dX3_claim_16 : decode cX3_claim 16 = .ok (.iload_n 2, 1) := by decide +kernel
theorem dX3_claim_17 : decode cX3_claim 17 = .ok (.iload_n 3, 1) := by decide +kernel
theorem dX3_claim_18 : decode cX3_claim 18 = .ok (.iload 4, 2) := by decide +kernel
theorem dX3_claim_20 : decode cX3_claim 20 = .ok (.invokestatic 100, 3) := by decide +kernel
theorem dX3_claim_23 : decode cX3_claim 23 = .ok (.ifCond .ne 5, 3) := by decide +kernel
theorem dX3_claim_26 : decode cX3_claim 26 = .ok (.iconst (-1), 1) := by decide +kernel
theorem dX3_claim_27 : decode cX3_claim 27 = .ok (.ireturn, 1) := by decide +kernel
theorem dX3_claim_28 : decode cX3_claim 28 = .ok (.new 34, 3) := by decide +kernel
theorem dX3_claim_31 : decode cX3_claim 31 = .ok (.dup, 1) := by decide +kernel
theorem dX3_claim_32 : decode cX3_claim 32 = .ok (.iload_n 1, 1) := by decide +kernel
theorem dX3_claim_33 : decode cX3_claim 33 = .ok (.iload_n 2, 1) := by decide +kernel
theorem dX3_claim_34 : decode cX3_claim 34 = .ok (.iload_n 3, 1) := by decide +kernel
theorem dX3_claim_35 : decode cX3_claim 35 = .ok (.iload 4, 2) := by decide +kernel
theorem dX3_claim_37 : decode cX3_claim 37 = .ok (.aload_n 0, 1) := by decide +kernel
theorem dX3_claim_38 : decode cX3_claim 38 = .ok (.getfield 31, 3) := by decide +kernel
theorem dX3_claim_41 : decode cX3_claim 41 = .ok (.invokespecial 103, 3) := by decide +kernel
theorem dX3_claim_44 : decode cX3_claim 44 = .ok (.astore 5, 2) := by decide +kernel
theorem dX3_claim_46 : decode cX3_claim 46 = .ok (.aload 5, 2) := by decide +kernel
theorem dX3_claim_48 : decode cX3_claim 48 = .ok (.aload_n 0, 1) := by decide +kernel
theorem dX3_claim_49 : decode cX3_claim 49 = .ok (.aload 5, 2) := by decide +kernel
theorem dX3_claim_51 : decode cX3_claim 51 = .ok (.invokevirtual 106, 3) := by decide +kernel
theorem dX3_claim_54 : decode cX3_claim 54 = .ok (.putfield 92, 3) := by decide +kernel
theorem dX3_claim_57 : decode cX3_claim 57 = .ok (.aload_n 0, 1) := by decide +kernel
theorem dX3_claim_58 : decode cX3_claim 58 = .ok (.getfield 36, 3) := by decide +kernel
theorem dX3_claim_61 : decode cX3_claim 61 = .ok (.aload_n 0, 1) := by decide +kernel
theorem dX3_claim_62 : decode cX3_claim 62 = .ok (.getfield 40, 3) := by decide +kernel
theorem dX3_claim_65 : decode cX3_claim 65 = .ok (.aload 5, 2) := by decide +kernel
theorem dX3_claim_67 : decode cX3_claim 67 = .ok (.aastore, 1) := by decide +kernel
theorem dX3_claim_68 : decode cX3_claim 68 = .ok (.aload_n 0, 1) := by decide +kernel
theorem dX3_claim_69 : decode cX3_claim 69 = .ok (.dup, 1) := by decide +kernel
theorem dX3_claim_70 : decode cX3_claim 70 = .ok (.getfield 40, 3) := by decide +kernel
theorem dX3_claim_73 : decode cX3_claim 73 = .ok (.iconst 1, 1) := by decide +kernel
theorem dX3_claim_74 : decode cX3_claim 74 = .ok (.iadd, 1) := by decide +kernel
theorem dX3_claim_75 : decode cX3_claim 75 = .ok (.putfield 40, 3) := by decide +kernel
theorem dX3_claim_78 : decode cX3_claim 78 = .ok (.aload_n 0, 1) := by decide +kernel
theorem dX3_claim_79 : decode cX3_claim 79 = .ok (.getfield 40, 3) := by decide +kernel
theorem dX3_claim_82 : decode cX3_claim 82 = .ok (.iconst 1, 1) := by decide +kernel
theorem dX3_claim_83 : decode cX3_claim 83 = .ok (.isub, 1) := by decide +kernel
theorem dX3_claim_84 : decode cX3_claim 84 = .ok (.ireturn, 1) := by decide +kernel
set_option maxRecDepth 20000 in
theorem ggX3_told_X3_claimAt : GoodIn wsX3_told wsX3_claimAt := goodIn_r _ [12, 13, 14, 108, 109, 110, 111, 112, 113, 114, 115] (by decide +kernel) (by decide +kernel)
set_option maxRecDepth 20000 in
theorem gX3_told_X3_claimAt : GoodIn wsX3_told (wsV RX3 110 RX3 yX3_claimAt wsX3_claimAt) := goodIn_app (goodIn_of _ (by decide +kernel)) ggX3_told_X3_claimAt
set_option maxRecDepth 20000 in
theorem ggX3_told_X3_present : GoodIn wsX3_told wsX3_present := goodIn_r _ [18, 19, 20, 21, 22, 23, 24, 25, 26, 27, 28, 29, 30, 31, 32, 33, 34, 35, 36, 37, 11, 38, 39, 40, 41, 42, 43, 44, 45, 46, 47, 48, 49, 50, 51, 52, 53, 54, 55, 56, 57, 58, 59, 60, 61, 62, 63, 64, 65, 66, 67, 68, 69, 70, 71, 72, 73, 74, 108, 109, 110, 111, 112, 113, 114, 115, 116, 117, 118] (by decide +kernel) (by decide +kernel)
set_option maxRecDepth 20000 in
theorem gX3_told_X3_present : GoodIn wsX3_told (wsV RX3 74 RX3 yX3_present wsX3_present) := goodIn_app (goodIn_of _ (by decide +kernel)) ggX3_told_X3_present
set_option maxRecDepth 20000 in
theorem ggX3_told_X3_standing : GoodIn wsX3_told wsX3_standing := goodIn_r _ [77, 6, 78, 79, 80, 81, 82, 83, 84, 85, 86, 87, 88, 89, 90, 91, 92, 93, 94, 95, 96, 55, 56, 57, 58, 59, 60, 101, 102, 103, 104, 105, 106, 107, 118] (by decide +kernel) (by decide +kernel)
set_option maxRecDepth 20000 in
theorem gX3_told_X3_standing : GoodIn wsX3_told (va_wsS RX3 114 yX3_standing wsX3_standing) := goodIn_app (goodIn_of _ (by decide +kernel)) ggX3_told_X3_standing
set_option maxRecDepth 20000 in
theorem ggX3_told_X0_harmIn : GoodIn wsX3_told wsX0_harmIn := goodIn_r _ [100, 87, 88, 89, 81, 90, 91, 92, 93, 94, 95, 96, 55, 56, 57, 58, 59, 60, 101, 102, 103, 104, 105, 106, 107, 118] (by decide +kernel) (by decide +kernel)
set_option maxRecDepth 20000 in
theorem gX3_told_X0_harmIn : GoodIn wsX3_told (wsV RX3 130 RX0 yX0_harmIn wsX0_harmIn) := goodIn_app (goodIn_of _ (by decide +kernel)) ggX3_told_X0_harmIn
theorem dX3_told_0 : decode cX3_told 0 = .ok (.aload_n 0, 1) := by decide +kernel
theorem dX3_told_1 : decode cX3_told 1 = .ok (.iload_n 1, 1) := by decide +kernel
theorem dX3_told_2 : decode cX3_told 2 = .ok (.invokevirtual 110, 3) := by decide +kernel
theorem dX3_told_5 : decode cX3_told 5 = .ok (.astore_n 3, 1) := by decide +kernel
theorem dX3_told_6 : decode cX3_told 6 = .ok (.aload_n 3, 1) := by decide +kernel
theorem dX3_told_7 : decode cX3_told 7 = .ok (.ifnonnull 6, 3) := by decide +kernel
theorem dX3_told_10 : decode cX3_told 10 = .ok (.ldc 99, 2) := by decide +kernel
theorem dX3_told_12 : decode cX3_told 12 = .ok (.ireturn, 1) := by decide +kernel
theorem dX3_told_13 : decode cX3_told 13 = .ok (.iload_n 2, 1) := by decide +kernel
theorem dX3_told_14 : decode cX3_told 14 = .ok (.tableswitch 120 0 7 #[46, 55, 60, 65, 70, 75, 84, 107], 46) := by decide +kernel
theorem dX3_told_60 : decode cX3_told 60 = .ok (.aload_n 3, 1) := by decide +kernel
theorem dX3_told_61 : decode cX3_told 61 = .ok (.aload_n 0, 1) := by decide +kernel
theorem dX3_told_62 : decode cX3_told 62 = .ok (.invokevirtual 74, 3) := by decide +kernel
theorem dX3_told_65 : decode cX3_told 65 = .ok (.invokestatic 114, 3) := by decide +kernel
theorem dX3_told_68 : decode cX3_told 68 = .ok (.ireturn, 1) := by decide +kernel
theorem dX3_told_69 : decode cX3_told 69 = .ok (.aload_n 3, 1) := by decide +kernel
theorem dX3_told_70 : decode cX3_told 70 = .ok (.getfield 118, 3) := by decide +kernel
theorem dX3_told_73 : decode cX3_told 73 = .ok (.ireturn, 1) := by decide +kernel
theorem dX3_told_74 : decode cX3_told 74 = .ok (.aload_n 3, 1) := by decide +kernel
theorem dX3_told_75 : decode cX3_told 75 = .ok (.getfield 121, 3) := by decide +kernel
theorem dX3_told_78 : decode cX3_told 78 = .ok (.ireturn, 1) := by decide +kernel
theorem dX3_told_79 : decode cX3_told 79 = .ok (.aload_n 3, 1) := by decide +kernel
theorem dX3_told_80 : decode cX3_told 80 = .ok (.getfield 124, 3) := by decide +kernel
theorem dX3_told_83 : decode cX3_told 83 = .ok (.ireturn, 1) := by decide +kernel
theorem dX3_told_84 : decode cX3_told 84 = .ok (.aload_n 3, 1) := by decide +kernel
theorem dX3_told_85 : decode cX3_told 85 = .ok (.getfield 127, 3) := by decide +kernel
theorem dX3_told_88 : decode cX3_told 88 = .ok (.ireturn, 1) := by decide +kernel
theorem dX3_told_89 : decode cX3_told 89 = .ok (.aload_n 3, 1) := by decide +kernel
theorem dX3_told_90 : decode cX3_told 90 = .ok (.aload_n 0, 1) := by decide +kernel
theorem dX3_told_91 : decode cX3_told 91 = .ok (.invokevirtual 74, 3) := by decide +kernel
theorem dX3_told_94 : decode cX3_told 94 = .ok (.invokevirtual 130, 3) := by decide +kernel
theorem dX3_told_97 : decode cX3_told 97 = .ok (.ireturn, 1) := by decide +kernel
theorem dX3_told_98 : decode cX3_told 98 = .ok (.aload_n 3, 1) := by decide +kernel
theorem dX3_told_99 : decode cX3_told 99 = .ok (.aload_n 0, 1) := by decide +kernel
theorem dX3_told_100 : decode cX3_told 100 = .ok (.invokevirtual 74, 3) := by decide +kernel
theorem dX3_told_103 : decode cX3_told 103 = .ok (.invokestatic 114, 3) := by decide +kernel
theorem dX3_told_106 : decode cX3_told 106 = .ok (.iconst 2, 1) := by decide +kernel
theorem dX3_told_107 : decode cX3_told 107 = .ok (.if_icmp .ne 12, 3) := by decide +kernel
theorem dX3_told_110 : decode cX3_told 110 = .ok (.aload_n 3, 1) := by decide +kernel
theorem dX3_told_111 : decode cX3_told 111 = .ok (.getfield 92, 3) := by decide +kernel
theorem dX3_told_114 : decode cX3_told 114 = .ok (.iconst 1, 1) := by decide +kernel
theorem dX3_told_115 : decode cX3_told 115 = .ok (.iadd, 1) := by decide +kernel
theorem dX3_told_116 : decode cX3_told 116 = .ok (.goto 4, 3) := by decide +kernel
theorem dX3_told_119 : decode cX3_told 119 = .ok (.iconst (-1), 1) := by decide +kernel
theorem dX3_told_120 : decode cX3_told 120 = .ok (.ireturn, 1) := by decide +kernel
theorem dX3_told_121 : decode cX3_told 121 = .ok (.aload_n 3, 1) := by decide +kernel
theorem dX3_told_122 : decode cX3_told 122 = .ok (.getfield 134, 3) := by decide +kernel
theorem dX3_told_125 : decode cX3_told 125 = .ok (.ifCond .eq 7, 3) := by decide +kernel
theorem dX3_told_128 : decode cX3_told 128 = .ok (.iconst 1, 1) := by decide +kernel
theorem dX3_told_129 : decode cX3_told 129 = .ok (.goto 4, 3) := by decide +kernel
theorem dX3_told_132 : decode cX3_told 132 = .ok (.iconst 0, 1) := by decide +kernel
theorem dX3_told_133 : decode cX3_told 133 = .ok (.ireturn, 1) := by decide +kernel
theorem dX3_told_134 : decode cX3_told 134 = .ok (.ldc 99, 2) := by decide +kernel
theorem dX3_told_136 : decode cX3_told 136 = .ok (.ireturn, 1) := by decide +kernel
set_option maxRecDepth 20000 in
theorem ggX3_denied_X3_claimAt : GoodIn wsX3_denied wsX3_claimAt := goodIn_r _ [5, 6, 7, 83, 84, 85, 86, 87, 88, 89, 90] (by decide +kernel) (by decide +kernel)
set_option maxRecDepth 20000 in
theorem gX3_denied_X3_claimAt : GoodIn wsX3_denied (wsV RX3 110 RX3 yX3_claimAt wsX3_claimAt) := goodIn_app (goodIn_of _ (by decide +kernel)) ggX3_denied_X3_claimAt
set_option maxRecDepth 20000 in
theorem ggX3_denied_X3_present : GoodIn wsX3_denied wsX3_present := goodIn_r _ [11, 12, 13, 14, 15, 16, 17, 18, 19, 20, 21, 22, 23, 24, 25, 26, 27, 28, 29, 30, 4, 31, 32, 33, 34, 35, 36, 37, 38, 39, 40, 41, 42, 43, 44, 45, 46, 47, 48, 49, 50, 51, 52, 53, 54, 55, 56, 57, 58, 59, 60, 61, 62, 63, 64, 65, 66, 67, 83, 84, 85, 86, 87, 88, 89, 90, 91, 92, 93] (by decide +kernel) (by decide +kernel)
set_option maxRecDepth 20000 in
theorem gX3_denied_X3_present : GoodIn wsX3_denied (wsV RX3 74 RX3 yX3_present wsX3_present) := goodIn_app (goodIn_of _ (by decide +kernel)) ggX3_denied_X3_present
set_option maxRecDepth 20000 in
theorem ggX3_denied_X0_firstDenialIn : GoodIn wsX3_denied wsX0_firstDenialIn := goodIn_r _ [72, 73, 74, 75, 71, 76, 77, 78, 79, 80, 81, 82, 48, 49, 50, 51, 52, 53, 94, 95, 96, 97, 98, 99, 100, 93] (by decide +kernel) (by decide +kernel)
set_option maxRecDepth 20000 in
theorem gX3_denied_X0_firstDenialIn : GoodIn wsX3_denied (wsV RX3 138 RX0 yX0_firstDenialIn wsX0_firstDenialIn) := goodIn_app (goodIn_of _ (by decide +kernel)) ggX3_denied_X0_firstDenialIn
theorem dX3_denied_0 : decode cX3_denied 0 = .ok (.aload_n 0, 1) := by decide +kernel
theorem dX3_denied_1 : decode cX3_denied 1 = .ok (.iload_n 1, 1) := by decide +kernel
theorem dX3_denied_2 : decode cX3_denied 2 = .ok (.invokevirtual 110, 3) := by decide +kernel
theorem dX3_denied_5 : decode cX3_denied 5 = .ok (.astore_n 2, 1) := by decide +kernel
theorem dX3_denied_6 : decode cX3_denied 6 = .ok (.aload_n 2, 1) := by decide +kernel
theorem dX3_denied_7 : decode cX3_denied 7 = .ok (.ifnonnull 7, 3) := by decide +kernel
theorem dX3_denied_10 : decode cX3_denied 10 = .ok (.iconst (-1), 1) := by decide +kernel
theorem dX3_denied_11 : decode cX3_denied 11 = .ok (.goto 11, 3) := by decide +kernel
theorem dX3_denied_14 : decode cX3_denied 14 = .ok (.aload_n 2, 1) := by decide +kernel
theorem dX3_denied_15 : decode cX3_denied 15 = .ok (.aload_n 0, 1) := by decide +kernel
theorem dX3_denied_16 : decode cX3_denied 16 = .ok (.invokevirtual 74, 3) := by decide +kernel
theorem dX3_denied_19 : decode cX3_denied 19 = .ok (.invokevirtual 138, 3) := by decide +kernel
theorem dX3_denied_22 : decode cX3_denied 22 = .ok (.ireturn, 1) := by decide +kernel
set_option maxRecDepth 20000 in
theorem ggX3_mend_X3_claimAt : GoodIn wsX3_mend wsX3_claimAt := goodIn_r _ [6, 7, 8, 132, 133, 134, 135, 136, 137, 138, 139] (by decide +kernel) (by decide +kernel)
set_option maxRecDepth 20000 in
theorem gX3_mend_X3_claimAt : GoodIn wsX3_mend (wsV RX3 110 RX3 yX3_claimAt wsX3_claimAt) := goodIn_app (goodIn_of _ (by decide +kernel)) ggX3_mend_X3_claimAt
set_option maxRecDepth 20000 in
theorem ggX3_mend_X3_present : GoodIn wsX3_mend wsX3_present := goodIn_r _ [12, 13, 14, 15, 16, 17, 18, 19, 20, 21, 22, 23, 24, 25, 26, 27, 28, 29, 30, 31, 5, 32, 33, 34, 35, 36, 37, 38, 39, 40, 41, 42, 43, 44, 45, 46, 47, 48, 49, 50, 51, 52, 53, 54, 55, 56, 57, 58, 59, 60, 61, 62, 63, 64, 65, 66, 67, 68, 132, 133, 134, 135, 136, 137, 138, 139, 140, 141, 142] (by decide +kernel) (by decide +kernel)
set_option maxRecDepth 20000 in
theorem gX3_mend_X3_present : GoodIn wsX3_mend (wsV RX3 74 RX3 yX3_present wsX3_present) := goodIn_app (goodIn_of _ (by decide +kernel)) ggX3_mend_X3_present
set_option maxRecDepth 20000 in
theorem ggX3_mend_X0_isHeldIn : GoodIn wsX3_mend wsX0_isHeldIn := goodIn_r _ [73, 74, 75, 76, 72, 77, 78, 79, 80, 81, 82, 83, 84, 85, 86, 87, 49, 50, 51, 52, 53, 54, 143, 144, 145, 146, 147, 148, 149, 142] (by decide +kernel) (by decide +kernel)
set_option maxRecDepth 20000 in
theorem gX3_mend_X0_isHeldIn : GoodIn wsX3_mend (wsV RX3 88 RX0 yX0_isHeldIn wsX0_isHeldIn) := goodIn_app (goodIn_of _ (by decide +kernel)) ggX3_mend_X0_isHeldIn
set_option maxRecDepth 20000 in
theorem ggX3_mend_X3_firstMend : GoodIn wsX3_mend wsX3_firstMend := goodIn_r _ [91, 92, 93, 94, 1, 9, 10, 11, 5, 12, 13, 14, 15, 16, 17, 18, 19, 20, 21, 22, 23, 24, 25, 26, 27, 28, 29, 30, 31, 32, 33, 34, 35, 36, 37, 38, 39, 40, 41, 42, 43, 44, 45, 46, 47, 48, 49, 50, 51, 52, 53, 54, 55, 56, 57, 58, 59, 60, 61, 62, 63, 64, 65, 66, 67, 68, 95, 96, 97, 98, 99, 100, 101, 102, 103, 104, 105, 106, 107, 108, 109, 110, 111, 112, 113, 114, 115, 116, 117, 118, 119, 120, 121, 122, 143, 144, 145, 146, 147, 148, 149, 132, 133, 134, 135, 136, 137, 138, 139, 140, 141, 142] (by decide +kernel) (by decide +kernel)
set_option maxRecDepth 20000 in
theorem gX3_mend_X3_firstMend : GoodIn wsX3_mend (wsV RX3 141 RX3 yX3_firstMend wsX3_firstMend) := goodIn_app (goodIn_of _ (by decide +kernel)) ggX3_mend_X3_firstMend
set_option maxRecDepth 20000 in
theorem ggX3_mend_X3_secondMend : GoodIn wsX3_mend wsX3_secondMend := goodIn_r _ [126, 92, 93, 1, 9, 10, 11, 5, 12, 13, 14, 15, 16, 17, 18, 19, 20, 21, 22, 23, 24, 25, 26, 27, 28, 29, 30, 31, 32, 33, 34, 35, 36, 37, 38, 39, 40, 41, 42, 43, 44, 45, 46, 47, 48, 49, 50, 51, 52, 53, 54, 55, 56, 57, 58, 59, 60, 61, 62, 63, 64, 65, 66, 67, 68, 127, 128, 129, 130, 131, 99, 143, 144, 145, 146, 147, 148, 149, 132, 133, 134, 135, 136, 137, 138, 139, 140, 141, 142] (by decide +kernel) (by decide +kernel)
set_option maxRecDepth 20000 in
theorem gX3_mend_X3_secondMend : GoodIn wsX3_mend (wsV RX3 144 RX3 yX3_secondMend wsX3_secondMend) := goodIn_app (goodIn_of _ (by decide +kernel)) ggX3_mend_X3_secondMend
theorem dX3_mend_0 : decode cX3_mend 0 = .ok (.aload_n 0, 1) := by decide +kernel
theorem dX3_mend_1 : decode cX3_mend 1 = .ok (.iload_n 1, 1) := by decide +kernel
theorem dX3_mend_2 : decode cX3_mend 2 = .ok (.invokevirtual 110, 3) := by decide +kernel
theorem dX3_mend_5 : decode cX3_mend 5 = .ok (.astore_n 3, 1) := by decide +kernel
theorem dX3_mend_6 : decode cX3_mend 6 = .ok (.aload_n 3, 1) := by decide +kernel
theorem dX3_mend_7 : decode cX3_mend 7 = .ok (.ifnull 14, 3) := by decide +kernel
theorem dX3_mend_10 : decode cX3_mend 10 = .ok (.aload_n 3, 1) := by decide +kernel
theorem dX3_mend_11 : decode cX3_mend 11 = .ok (.aload_n 0, 1) := by decide +kernel
theorem dX3_mend_12 : decode cX3_mend 12 = .ok (.invokevirtual 74, 3) := by decide +kernel
theorem dX3_mend_15 : decode cX3_mend 15 = .ok (.invokevirtual 88, 3) := by decide +kernel
theorem dX3_mend_18 : decode cX3_mend 18 = .ok (.ifCond .eq 6, 3) := by decide +kernel
theorem dX3_mend_21 : decode cX3_mend 21 = .ok (.ldc 99, 2) := by decide +kernel
theorem dX3_mend_23 : decode cX3_mend 23 = .ok (.ireturn, 1) := by decide +kernel
theorem dX3_mend_24 : decode cX3_mend 24 = .ok (.iload_n 2, 1) := by decide +kernel
theorem dX3_mend_25 : decode cX3_mend 25 = .ok (.lookupswitch 39 #[(0, 27), (1, 33)], 27) := by decide +kernel
theorem dX3_mend_52 : decode cX3_mend 52 = .ok (.aload_n 0, 1) := by decide +kernel
theorem dX3_mend_53 : decode cX3_mend 53 = .ok (.aload_n 3, 1) := by decide +kernel
theorem dX3_mend_54 : decode cX3_mend 54 = .ok (.invokevirtual 141, 3) := by decide +kernel
theorem dX3_mend_57 : decode cX3_mend 57 = .ok (.ireturn, 1) := by decide +kernel
theorem dX3_mend_58 : decode cX3_mend 58 = .ok (.aload_n 0, 1) := by decide +kernel
theorem dX3_mend_59 : decode cX3_mend 59 = .ok (.aload_n 3, 1) := by decide +kernel
theorem dX3_mend_60 : decode cX3_mend 60 = .ok (.invokevirtual 144, 3) := by decide +kernel
theorem dX3_mend_63 : decode cX3_mend 63 = .ok (.ireturn, 1) := by decide +kernel
theorem dX3_mend_64 : decode cX3_mend 64 = .ok (.ldc 99, 2) := by decide +kernel
theorem dX3_mend_66 : decode cX3_mend 66 = .ok (.ireturn, 1) := by decide +kernel
set_option maxRecDepth 20000 in
theorem ggX3_mended_X3_claimAt : GoodIn wsX3_mended wsX3_claimAt := goodIn_r _ [10, 11, 12, 152, 153, 154, 155, 156, 157, 158, 159] (by decide +kernel) (by decide +kernel)
set_option maxRecDepth 20000 in
theorem gX3_mended_X3_claimAt : GoodIn wsX3_mended (wsV RX3 110 RX3 yX3_claimAt wsX3_claimAt) := goodIn_app (goodIn_of _ (by decide +kernel)) ggX3_mended_X3_claimAt
set_option maxRecDepth 20000 in
theorem ggX3_mended_X3_present : GoodIn wsX3_mended wsX3_present := goodIn_r _ [16, 17, 18, 19, 20, 21, 22, 23, 24, 25, 26, 27, 28, 29, 30, 31, 32, 33, 34, 35, 9, 36, 37, 38, 39, 40, 41, 42, 43, 44, 45, 46, 47, 48, 49, 50, 51, 52, 53, 54, 55, 56, 57, 58, 59, 60, 61, 62, 63, 64, 65, 66, 67, 68, 69, 70, 71, 72, 152, 153, 154, 155, 156, 157, 158, 159, 160, 161, 162] (by decide +kernel) (by decide +kernel)
set_option maxRecDepth 20000 in
theorem gX3_mended_X3_present : GoodIn wsX3_mended (wsV RX3 74 RX3 yX3_present wsX3_present) := goodIn_app (goodIn_of _ (by decide +kernel)) ggX3_mended_X3_present
set_option maxRecDepth 20000 in
theorem ggX3_mended_X0_isHeldIn : GoodIn wsX3_mended wsX0_isHeldIn := goodIn_r _ [77, 78, 79, 80, 76, 81, 82, 83, 84, 85, 86, 87, 88, 89, 90, 91, 53, 54, 55, 56, 57, 58, 145, 146, 147, 148, 149, 150, 151, 162] (by decide +kernel) (by decide +kernel)
set_option maxRecDepth 20000 in
theorem gX3_mended_X0_isHeldIn : GoodIn wsX3_mended (wsV RX3 88 RX0 yX0_isHeldIn wsX0_isHeldIn) := goodIn_app (goodIn_of _ (by decide +kernel)) ggX3_mended_X0_isHeldIn
set_option maxRecDepth 20000 in
theorem ggX3_mended_X3_firstMend : GoodIn wsX3_mended wsX3_firstMend := goodIn_r _ [95, 2, 96, 4, 1, 13, 14, 15, 9, 16, 17, 18, 19, 20, 21, 22, 23, 24, 25, 26, 27, 28, 29, 30, 31, 32, 33, 34, 35, 36, 37, 38, 39, 40, 41, 42, 43, 44, 45, 46, 47, 48, 49, 50, 51, 52, 53, 54, 55, 56, 57, 58, 59, 60, 61, 62, 63, 64, 65, 66, 67, 68, 69, 70, 71, 72, 97, 98, 99, 100, 101, 102, 103, 104, 105, 106, 107, 108, 109, 110, 111, 112, 113, 114, 115, 116, 117, 118, 119, 120, 121, 122, 123, 124, 145, 146, 147, 148, 149, 150, 151, 152, 153, 154, 155, 156, 157, 158, 159, 160, 161, 162] (by decide +kernel) (by decide +kernel)
set_option maxRecDepth 20000 in
theorem gX3_mended_X3_firstMend : GoodIn wsX3_mended (wsV RX3 141 RX3 yX3_firstMend wsX3_firstMend) := goodIn_app (goodIn_of _ (by decide +kernel)) ggX3_mended_X3_firstMend
set_option maxRecDepth 20000 in
theorem ggX3_mended_X3_secondMend : GoodIn wsX3_mended wsX3_secondMend := goodIn_r _ [128, 2, 96, 1, 13, 14, 15, 9, 16, 17, 18, 19, 20, 21, 22, 23, 24, 25, 26, 27, 28, 29, 30, 31, 32, 33, 34, 35, 36, 37, 38, 39, 40, 41, 42, 43, 44, 45, 46, 47, 48, 49, 50, 51, 52, 53, 54, 55, 56, 57, 58, 59, 60, 61, 62, 63, 64, 65, 66, 67, 68, 69, 70, 71, 72, 129, 130, 131, 132, 133, 101, 145, 146, 147, 148, 149, 150, 151, 152, 153, 154, 155, 156, 157, 158, 159, 160, 161, 162] (by decide +kernel) (by decide +kernel)
set_option maxRecDepth 20000 in
theorem gX3_mended_X3_secondMend : GoodIn wsX3_mended (wsV RX3 144 RX3 yX3_secondMend wsX3_secondMend) := goodIn_app (goodIn_of _ (by decide +kernel)) ggX3_mended_X3_secondMend
set_option maxRecDepth 20000 in
theorem ggX3_mended_X3_lastKeptHolding : GoodIn wsX3_mended wsX3_lastKeptHolding := goodIn_r _ [137, 138, 139, 140, 141, 142, 9, 143, 144, 73, 74, 75, 76, 77, 78, 79, 80, 81, 82, 83, 84, 85, 86, 87, 88, 89, 90, 91, 53, 54, 55, 56, 57, 58, 152, 153, 154, 155, 156, 157, 158, 159, 145, 146, 147, 148, 149, 150, 151, 162] (by decide +kernel) (by decide +kernel)
set_option maxRecDepth 20000 in
theorem gX3_mended_X3_lastKeptHolding : GoodIn wsX3_mended (wsV RX3 106 RX3 yX3_lastKeptHolding wsX3_lastKeptHolding) := goodIn_app (goodIn_of _ (by decide +kernel)) ggX3_mended_X3_lastKeptHolding
theorem dX3_mended_0 : decode cX3_mended 0 = .ok (.aload_n 0, 1) := by decide +kernel
theorem dX3_mended_1 : decode cX3_mended 1 = .ok (.iload_n 1, 1) := by decide +kernel
theorem dX3_mended_2 : decode cX3_mended 2 = .ok (.invokevirtual 110, 3) := by decide +kernel
theorem dX3_mended_5 : decode cX3_mended 5 = .ok (.astore_n 2, 1) := by decide +kernel
theorem dX3_mended_6 : decode cX3_mended 6 = .ok (.aload_n 2, 1) := by decide +kernel
theorem dX3_mended_7 : decode cX3_mended 7 = .ok (.ifnull 14, 3) := by decide +kernel
theorem dX3_mended_10 : decode cX3_mended 10 = .ok (.aload_n 2, 1) := by decide +kernel
theorem dX3_mended_11 : decode cX3_mended 11 = .ok (.aload_n 0, 1) := by decide +kernel
theorem dX3_mended_12 : decode cX3_mended 12 = .ok (.invokevirtual 74, 3) := by decide +kernel
theorem dX3_mended_15 : decode cX3_mended 15 = .ok (.invokevirtual 88, 3) := by decide +kernel
theorem dX3_mended_18 : decode cX3_mended 18 = .ok (.ifCond .eq 5, 3) := by decide +kernel
theorem dX3_mended_21 : decode cX3_mended 21 = .ok (.iconst 0, 1) := by decide +kernel
theorem dX3_mended_22 : decode cX3_mended 22 = .ok (.ireturn, 1) := by decide +kernel
theorem dX3_mended_23 : decode cX3_mended 23 = .ok (.aload_n 0, 1) := by decide +kernel
theorem dX3_mended_24 : decode cX3_mended 24 = .ok (.aload_n 2, 1) := by decide +kernel
theorem dX3_mended_25 : decode cX3_mended 25 = .ok (.invokevirtual 141, 3) := by decide +kernel
theorem dX3_mended_28 : decode cX3_mended 28 = .ok (.istore_n 3, 1) := by decide +kernel
theorem dX3_mended_29 : decode cX3_mended 29 = .ok (.iload_n 3, 1) := by decide +kernel
theorem dX3_mended_30 : decode cX3_mended 30 = .ok (.ldc 99, 2) := by decide +kernel
theorem dX3_mended_32 : decode cX3_mended 32 = .ok (.if_icmp .ne 5, 3) := by decide +kernel
theorem dX3_mended_35 : decode cX3_mended 35 = .ok (.iconst 0, 1) := by decide +kernel
theorem dX3_mended_36 : decode cX3_mended 36 = .ok (.ireturn, 1) := by decide +kernel
theorem dX3_mended_37 : decode cX3_mended 37 = .ok (.aload_n 2, 1) := by decide +kernel
theorem dX3_mended_38 : decode cX3_mended 38 = .ok (.getfield 121, 3) := by decide +kernel
theorem dX3_mended_41 : decode cX3_mended 41 = .ok (.iconst 5, 1) := by decide +kernel
theorem dX3_mended_42 : decode cX3_mended 42 = .ok (.if_icmp .ne 11, 3) := by decide +kernel
theorem dX3_mended_45 : decode cX3_mended 45 = .ok (.aload_n 2, 1) := by decide +kernel
theorem dX3_mended_46 : decode cX3_mended 46 = .ok (.iload_n 3, 1) := by decide +kernel
theorem dX3_mended_47 : decode cX3_mended 47 = .ok (.putfield 127, 3) := by decide +kernel
theorem dX3_mended_50 : decode cX3_mended 50 = .ok (.goto 8, 3) := by decide +kernel
theorem dX3_mended_53 : decode cX3_mended 53 = .ok (.aload_n 2, 1) := by decide +kernel
theorem dX3_mended_54 : decode cX3_mended 54 = .ok (.iload_n 3, 1) := by decide +kernel
theorem dX3_mended_55 : decode cX3_mended 55 = .ok (.putfield 124, 3) := by decide +kernel
theorem dX3_mended_58 : decode cX3_mended 58 = .ok (.aload_n 2, 1) := by decide +kernel
theorem dX3_mended_59 : decode cX3_mended 59 = .ok (.getfield 121, 3) := by decide +kernel
theorem dX3_mended_62 : decode cX3_mended 62 = .ok (.ifCond .ne 12, 3) := by decide +kernel
theorem dX3_mended_65 : decode cX3_mended 65 = .ok (.aload_n 2, 1) := by decide +kernel
theorem dX3_mended_66 : decode cX3_mended 66 = .ok (.aload_n 0, 1) := by decide +kernel
theorem dX3_mended_67 : decode cX3_mended 67 = .ok (.aload_n 2, 1) := by decide +kernel
theorem dX3_mended_68 : decode cX3_mended 68 = .ok (.invokevirtual 144, 3) := by decide +kernel
theorem dX3_mended_71 : decode cX3_mended 71 = .ok (.putfield 127, 3) := by decide +kernel
theorem dX3_mended_74 : decode cX3_mended 74 = .ok (.aload_n 2, 1) := by decide +kernel
theorem dX3_mended_75 : decode cX3_mended 75 = .ok (.aload_n 0, 1) := by decide +kernel
theorem dX3_mended_76 : decode cX3_mended 76 = .ok (.aload_n 2, 1) := by decide +kernel
theorem dX3_mended_77 : decode cX3_mended 77 = .ok (.invokevirtual 106, 3) := by decide +kernel
theorem dX3_mended_80 : decode cX3_mended 80 = .ok (.putfield 92, 3) := by decide +kernel
theorem dX3_mended_83 : decode cX3_mended 83 = .ok (.iconst 1, 1) := by decide +kernel
theorem dX3_mended_84 : decode cX3_mended 84 = .ok (.ireturn, 1) := by decide +kernel
set_option maxRecDepth 20000 in
theorem ggX3_mark_X3_claimAt : GoodIn wsX3_mark wsX3_claimAt := goodIn_r _ [6, 7, 8, 16, 17, 18, 19, 20, 21, 22, 23] (by decide +kernel) (by decide +kernel)
set_option maxRecDepth 20000 in
theorem gX3_mark_X3_claimAt : GoodIn wsX3_mark (wsV RX3 110 RX3 yX3_claimAt wsX3_claimAt) := goodIn_app (goodIn_of _ (by decide +kernel)) ggX3_mark_X3_claimAt
theorem dX3_mark_0 : decode cX3_mark 0 = .ok (.aload_n 0, 1) := by decide +kernel
theorem dX3_mark_1 : decode cX3_mark 1 = .ok (.iload_n 1, 1) := by decide +kernel
theorem dX3_mark_2 : decode cX3_mark 2 = .ok (.invokevirtual 110, 3) := by decide +kernel
theorem dX3_mark_5 : decode cX3_mark 5 = .ok (.astore_n 2, 1) := by decide +kernel
theorem dX3_mark_6 : decode cX3_mark 6 = .ok (.aload_n 2, 1) := by decide +kernel
theorem dX3_mark_7 : decode cX3_mark 7 = .ok (.ifnull 10, 3) := by decide +kernel
theorem dX3_mark_10 : decode cX3_mark 10 = .ok (.aload_n 2, 1) := by decide +kernel
theorem dX3_mark_11 : decode cX3_mark 11 = .ok (.getfield 134, 3) := by decide +kernel
theorem dX3_mark_14 : decode cX3_mark 14 = .ok (.ifCond .eq 5, 3) := by decide +kernel
theorem dX3_mark_17 : decode cX3_mark 17 = .ok (.iconst 0, 1) := by decide +kernel
theorem dX3_mark_18 : decode cX3_mark 18 = .ok (.ireturn, 1) := by decide +kernel
theorem dX3_mark_19 : decode cX3_mark 19 = .ok (.aload_n 2, 1) := by decide +kernel
theorem dX3_mark_20 : decode cX3_mark 20 = .ok (.iconst 1, 1) := by decide +kernel
theorem dX3_mark_21 : decode cX3_mark 21 = .ok (.putfield 134, 3) := by decide +kernel
theorem dX3_mark_24 : decode cX3_mark 24 = .ok (.iconst 1, 1) := by decide +kernel
theorem dX3_mark_25 : decode cX3_mark 25 = .ok (.ireturn, 1) := by decide +kernel
set_option maxRecDepth 20000 in
theorem ggX3_listed_X3_fillListedHarms : GoodIn wsX3_listed wsX3_fillListedHarms := goodIn_r _ [7, 8, 2, 9, 10, 11, 12, 6, 13, 14, 15, 16, 17, 18, 19, 20, 21, 22, 23, 24, 25, 26, 27, 28, 29, 30, 31, 32, 33, 34, 35, 36, 37, 38, 39, 40, 41, 42, 43, 44, 45, 46, 47, 48, 49, 50, 51, 52, 53, 54, 55, 56, 57, 58, 59, 60, 61, 62, 63, 64, 65, 66, 67, 68, 69, 70, 71, 72, 73, 1, 74, 75, 76, 77, 78, 79, 80, 81, 82, 83, 84, 85, 86, 87, 88, 93, 94, 95, 96, 97, 98, 99, 100, 101, 102, 103, 104, 105, 106, 107, 108, 109, 110] (by decide +kernel) (by decide +kernel)
set_option maxRecDepth 20000 in
theorem gX3_listed_X3_fillListedHarms : GoodIn wsX3_listed (wsV RX3 147 RX3 yX3_fillListedHarms wsX3_fillListedHarms) := goodIn_app (goodIn_of _ (by decide +kernel)) ggX3_listed_X3_fillListedHarms
set_option maxRecDepth 20000 in
theorem ggX3_listed_X3_listedAheadOf : GoodIn wsX3_listed wsX3_listedAheadOf := goodIn_r _ [92, 2, 1, 93, 94, 95, 96, 97, 98, 99, 100] (by decide +kernel) (by decide +kernel)
set_option maxRecDepth 20000 in
theorem gX3_listed_X3_listedAheadOf : GoodIn wsX3_listed (wsV RX3 150 RX3 yX3_listedAheadOf wsX3_listedAheadOf) := goodIn_app (goodIn_of _ (by decide +kernel)) ggX3_listed_X3_listedAheadOf
theorem dX3_listed_0 : decode cX3_listed 0 = .ok (.iload_n 1, 1) := by decide +kernel
theorem dX3_listed_1 : decode cX3_listed 1 = .ok (.ifCond .lt 11, 3) := by decide +kernel
theorem dX3_listed_4 : decode cX3_listed 4 = .ok (.iload_n 1, 1) := by decide +kernel
theorem dX3_listed_5 : decode cX3_listed 5 = .ok (.aload_n 0, 1) := by decide +kernel
theorem dX3_listed_6 : decode cX3_listed 6 = .ok (.getfield 40, 3) := by decide +kernel
theorem dX3_listed_9 : decode cX3_listed 9 = .ok (.if_icmp .lt 5, 3) := by decide +kernel
theorem dX3_listed_12 : decode cX3_listed 12 = .ok (.iconst (-1), 1) := by decide +kernel
theorem dX3_listed_13 : decode cX3_listed 13 = .ok (.ireturn, 1) := by decide +kernel
theorem dX3_listed_14 : decode cX3_listed 14 = .ok (.aload_n 0, 1) := by decide +kernel
theorem dX3_listed_15 : decode cX3_listed 15 = .ok (.invokevirtual 147, 3) := by decide +kernel
theorem dX3_listed_18 : decode cX3_listed 18 = .ok (.iconst 0, 1) := by decide +kernel
theorem dX3_listed_19 : decode cX3_listed 19 = .ok (.istore_n 2, 1) := by decide +kernel
theorem dX3_listed_20 : decode cX3_listed 20 = .ok (.iload_n 2, 1) := by decide +kernel
theorem dX3_listed_21 : decode cX3_listed 21 = .ok (.aload_n 0, 1) := by decide +kernel
theorem dX3_listed_22 : decode cX3_listed 22 = .ok (.getfield 40, 3) := by decide +kernel
theorem dX3_listed_25 : decode cX3_listed 25 = .ok (.if_icmp .ge 29, 3) := by decide +kernel
theorem dX3_listed_28 : decode cX3_listed 28 = .ok (.aload_n 0, 1) := by decide +kernel
theorem dX3_listed_29 : decode cX3_listed 29 = .ok (.getfield 43, 3) := by decide +kernel
theorem dX3_listed_32 : decode cX3_listed 32 = .ok (.iload_n 2, 1) := by decide +kernel
theorem dX3_listed_33 : decode cX3_listed 33 = .ok (.iaload, 1) := by decide +kernel
theorem dX3_listed_34 : decode cX3_listed 34 = .ok (.ifCond .le 14, 3) := by decide +kernel
theorem dX3_listed_37 : decode cX3_listed 37 = .ok (.aload_n 0, 1) := by decide +kernel
theorem dX3_listed_38 : decode cX3_listed 38 = .ok (.iload_n 2, 1) := by decide +kernel
theorem dX3_listed_39 : decode cX3_listed 39 = .ok (.invokevirtual 150, 3) := by decide +kernel
theorem dX3_listed_42 : decode cX3_listed 42 = .ok (.iload_n 1, 1) := by decide +kernel
theorem dX3_listed_43 : decode cX3_listed 43 = .ok (.if_icmp .ne 5, 3) := by decide +kernel
theorem dX3_listed_46 : decode cX3_listed 46 = .ok (.iload_n 2, 1) := by decide +kernel
theorem dX3_listed_47 : decode cX3_listed 47 = .ok (.ireturn, 1) := by decide +kernel
theorem dX3_listed_48 : decode cX3_listed 48 = .ok (.iinc 2 1, 3) := by decide +kernel
theorem dX3_listed_51 : decode cX3_listed 51 = .ok (.goto (-31), 3) := by decide +kernel
theorem dX3_listed_54 : decode cX3_listed 54 = .ok (.iconst (-1), 1) := by decide +kernel
theorem dX3_listed_55 : decode cX3_listed 55 = .ok (.ireturn, 1) := by decide +kernel
set_option maxRecDepth 20000 in
theorem ggX3_missing_X3_isFunction : GoodIn wsX3_missing wsX3_isFunction := goodIn_r _ [6] (by decide +kernel) (by decide +kernel)
set_option maxRecDepth 20000 in
theorem gX3_missing_X3_isFunction : GoodIn wsX3_missing (va_wsS RX3 47 yX3_isFunction wsX3_isFunction) := goodIn_app (goodIn_of _ (by decide +kernel)) ggX3_missing_X3_isFunction
set_option maxRecDepth 20000 in
theorem ggX3_missing_X3_present : GoodIn wsX3_missing wsX3_present := goodIn_r _ [10, 11, 2, 12, 13, 14, 15, 16, 17, 18, 19, 20, 21, 22, 23, 24, 25, 26, 27, 4, 5, 6, 28, 29, 30, 31, 32, 33, 34, 35, 36, 37, 38, 39, 40, 41, 42, 43, 44, 45, 46, 47, 48, 49, 50, 51, 52, 53, 54, 55, 56, 57, 58, 59, 60, 61, 62, 63, 82, 83, 84, 85, 86, 87, 88, 89, 90, 91, 92] (by decide +kernel) (by decide +kernel)
set_option maxRecDepth 20000 in
theorem gX3_missing_X3_present : GoodIn wsX3_missing (wsV RX3 74 RX3 yX3_present wsX3_present) := goodIn_app (goodIn_of _ (by decide +kernel)) ggX3_missing_X3_present
set_option maxRecDepth 20000 in
theorem ggX3_missing_X2_refusals : GoodIn wsX3_missing wsX2_refusals := goodIn_r _ [67, 48, 68, 44, 45, 46, 47, 49, 92] (by decide +kernel) (by decide +kernel)
set_option maxRecDepth 20000 in
theorem gX3_missing_X2_refusals : GoodIn wsX3_missing (wsV RX3 153 RX2 yX2_refusals wsX2_refusals) := goodIn_app (goodIn_of _ (by decide +kernel)) ggX3_missing_X2_refusals
set_option maxRecDepth 20000 in
theorem ggX3_missing_X3_hasClaim : GoodIn wsX3_missing wsX3_hasClaim := goodIn_r _ [72, 73, 74, 75, 76, 82, 83, 84, 85, 86, 87, 88, 89, 93, 94, 95, 96, 97, 98, 99] (by decide +kernel) (by decide +kernel)
set_option maxRecDepth 20000 in
theorem gX3_missing_X3_hasClaim : GoodIn wsX3_missing (wsV RX3 156 RX3 yX3_hasClaim wsX3_hasClaim) := goodIn_app (goodIn_of _ (by decide +kernel)) ggX3_missing_X3_hasClaim
set_option maxRecDepth 20000 in
theorem ggX3_missing_X2_least : GoodIn wsX3_missing wsX2_least := goodIn_r _ [80, 48, 68, 44, 45, 46, 47, 49, 92] (by decide +kernel) (by decide +kernel)
set_option maxRecDepth 20000 in
theorem gX3_missing_X2_least : GoodIn wsX3_missing (wsV RX3 160 RX2 yX2_least wsX2_least) := goodIn_app (goodIn_of _ (by decide +kernel)) ggX3_missing_X2_least
set_option maxRecDepth 20000 in
theorem ggX3_missing_X1_length : GoodIn wsX3_missing wsX1_length := goodIn_r _ [26, 27, 4, 5, 6, 90, 91] (by decide +kernel) (by decide +kernel)
set_option maxRecDepth 20000 in
theorem gX3_missing_X1_length : GoodIn wsX3_missing (wsV RX3 58 RX1 yX1_length wsX1_length) := goodIn_app (goodIn_of _ (by decide +kernel)) ggX3_missing_X1_length
theorem dX3_missing_0 : decode cX3_missing 0 = .ok (.iload_n 1, 1) := by decide +kernel
theorem dX3_missing_1 : decode cX3_missing 1 = .ok (.invokestatic 47, 3) := by decide +kernel
theorem dX3_missing_4 : decode cX3_missing 4 = .ok (.ifCond .ne 5, 3) := by decide +kernel
theorem dX3_missing_7 : decode cX3_missing 7 = .ok (.iconst (-1), 1) := by decide +kernel
theorem dX3_missing_8 : decode cX3_missing 8 = .ok (.ireturn, 1) := by decide +kernel
theorem dX3_missing_9 : decode cX3_missing 9 = .ok (.aload_n 0, 1) := by decide +kernel
theorem dX3_missing_10 : decode cX3_missing 10 = .ok (.invokevirtual 74, 3) := by decide +kernel
theorem dX3_missing_13 : decode cX3_missing 13 = .ok (.astore_n 2, 1) := by decide +kernel
theorem dX3_missing_14 : decode cX3_missing 14 = .ok (.iconst 0, 1) := by decide +kernel
theorem dX3_missing_15 : decode cX3_missing 15 = .ok (.istore_n 3, 1) := by decide +kernel
theorem dX3_missing_16 : decode cX3_missing 16 = .ok (.aload_n 2, 1) := by decide +kernel
theorem dX3_missing_17 : decode cX3_missing 17 = .ok (.iload_n 1, 1) := by decide +kernel
theorem dX3_missing_18 : decode cX3_missing 18 = .ok (.invokevirtual 153, 3) := by decide +kernel
theorem dX3_missing_21 : decode cX3_missing 21 = .ok (.ifCond .le 17, 3) := by decide +kernel
theorem dX3_missing_24 : decode cX3_missing 24 = .ok (.aload_n 0, 1) := by decide +kernel
theorem dX3_missing_25 : decode cX3_missing 25 = .ok (.iload_n 1, 1) := by decide +kernel
theorem dX3_missing_26 : decode cX3_missing 26 = .ok (.bipush 66, 2) := by decide +kernel
theorem dX3_missing_28 : decode cX3_missing 28 = .ok (.invokevirtual 156, 3) := by decide +kernel
theorem dX3_missing_31 : decode cX3_missing 31 = .ok (.ifCond .ne 7, 3) := by decide +kernel
theorem dX3_missing_34 : decode cX3_missing 34 = .ok (.iload_n 3, 1) := by decide +kernel
theorem dX3_missing_35 : decode cX3_missing 35 = .ok (.iconst 1, 1) := by decide +kernel
theorem dX3_missing_36 : decode cX3_missing 36 = .ok (.ior, 1) := by decide +kernel
theorem dX3_missing_37 : decode cX3_missing 37 = .ok (.istore_n 3, 1) := by decide +kernel
theorem dX3_missing_38 : decode cX3_missing 38 = .ok (.aload_n 2, 1) := by decide +kernel
theorem dX3_missing_39 : decode cX3_missing 39 = .ok (.iload_n 1, 1) := by decide +kernel
theorem dX3_missing_40 : decode cX3_missing 40 = .ok (.invokevirtual 160, 3) := by decide +kernel
theorem dX3_missing_43 : decode cX3_missing 43 = .ok (.istore 4, 2) := by decide +kernel
theorem dX3_missing_45 : decode cX3_missing 45 = .ok (.iload 4, 2) := by decide +kernel
theorem dX3_missing_47 : decode cX3_missing 47 = .ok (.ldc 99, 2) := by decide +kernel
theorem dX3_missing_49 : decode cX3_missing 49 = .ok (.if_icmp .eq 21, 3) := by decide +kernel
theorem dX3_missing_52 : decode cX3_missing 52 = .ok (.iload 4, 2) := by decide +kernel
theorem dX3_missing_54 : decode cX3_missing 54 = .ok (.ifCond .ge 16, 3) := by decide +kernel
theorem dX3_missing_57 : decode cX3_missing 57 = .ok (.aload_n 0, 1) := by decide +kernel
theorem dX3_missing_58 : decode cX3_missing 58 = .ok (.iload_n 1, 1) := by decide +kernel
theorem dX3_missing_59 : decode cX3_missing 59 = .ok (.iconst 1, 1) := by decide +kernel
theorem dX3_missing_60 : decode cX3_missing 60 = .ok (.invokevirtual 156, 3) := by decide +kernel
theorem dX3_missing_63 : decode cX3_missing 63 = .ok (.ifCond .ne 7, 3) := by decide +kernel
theorem dX3_missing_66 : decode cX3_missing 66 = .ok (.iload_n 3, 1) := by decide +kernel
theorem dX3_missing_67 : decode cX3_missing 67 = .ok (.iconst 2, 1) := by decide +kernel
theorem dX3_missing_68 : decode cX3_missing 68 = .ok (.ior, 1) := by decide +kernel
theorem dX3_missing_69 : decode cX3_missing 69 = .ok (.istore_n 3, 1) := by decide +kernel
theorem dX3_missing_70 : decode cX3_missing 70 = .ok (.aload_n 0, 1) := by decide +kernel
theorem dX3_missing_71 : decode cX3_missing 71 = .ok (.getfield 12, 3) := by decide +kernel
theorem dX3_missing_74 : decode cX3_missing 74 = .ok (.iload_n 1, 1) := by decide +kernel
theorem dX3_missing_75 : decode cX3_missing 75 = .ok (.invokevirtual 58, 3) := by decide +kernel
theorem dX3_missing_78 : decode cX3_missing 78 = .ok (.ifCond .le 18, 3) := by decide +kernel
theorem dX3_missing_81 : decode cX3_missing 81 = .ok (.aload_n 0, 1) := by decide +kernel
theorem dX3_missing_82 : decode cX3_missing 82 = .ok (.iload_n 1, 1) := by decide +kernel
theorem dX3_missing_83 : decode cX3_missing 83 = .ok (.sipush 255, 3) := by decide +kernel
theorem dX3_missing_86 : decode cX3_missing 86 = .ok (.invokevirtual 156, 3) := by decide +kernel
theorem dX3_missing_89 : decode cX3_missing 89 = .ok (.ifCond .ne 7, 3) := by decide +kernel
theorem dX3_missing_92 : decode cX3_missing 92 = .ok (.iload_n 3, 1) := by decide +kernel
theorem dX3_missing_93 : decode cX3_missing 93 = .ok (.iconst 4, 1) := by decide +kernel
theorem dX3_missing_94 : decode cX3_missing 94 = .ok (.ior, 1) := by decide +kernel
theorem dX3_missing_95 : decode cX3_missing 95 = .ok (.istore_n 3, 1) := by decide +kernel
theorem dX3_missing_96 : decode cX3_missing 96 = .ok (.iload_n 3, 1) := by decide +kernel
theorem dX3_missing_97 : decode cX3_missing 97 = .ok (.ireturn, 1) := by decide +kernel
set_option maxRecDepth 20000 in
theorem ggX3_count_X3_isFunction : GoodIn wsX3_count wsX3_isFunction := goodIn_r _ [7] (by decide +kernel) (by decide +kernel)
set_option maxRecDepth 20000 in
theorem gX3_count_X3_isFunction : GoodIn wsX3_count (va_wsS RX3 47 yX3_isFunction wsX3_isFunction) := goodIn_app (goodIn_of _ (by decide +kernel)) ggX3_count_X3_isFunction
set_option maxRecDepth 20000 in
theorem ggX3_count_X1_length : GoodIn wsX3_count wsX1_length := goodIn_r _ [12, 13, 5, 6, 7, 112, 113] (by decide +kernel) (by decide +kernel)
set_option maxRecDepth 20000 in
theorem gX3_count_X1_length : GoodIn wsX3_count (wsV RX3 58 RX1 yX1_length wsX1_length) := goodIn_app (goodIn_of _ (by decide +kernel)) ggX3_count_X1_length
set_option maxRecDepth 20000 in
theorem ggX3_count_X3_present : GoodIn wsX3_count wsX3_present := goodIn_r _ [17, 18, 1, 19, 20, 21, 22, 11, 23, 24, 25, 26, 27, 28, 29, 9, 10, 12, 13, 5, 6, 7, 30, 31, 32, 33, 34, 35, 36, 37, 38, 39, 40, 41, 42, 43, 44, 45, 46, 47, 48, 49, 50, 51, 52, 53, 54, 55, 56, 57, 58, 59, 60, 61, 62, 63, 64, 65, 104, 105, 106, 107, 108, 109, 110, 111, 112, 113, 114] (by decide +kernel) (by decide +kernel)
set_option maxRecDepth 20000 in
theorem gX3_count_X3_present : GoodIn wsX3_count (wsV RX3 74 RX3 yX3_present wsX3_present) := goodIn_app (goodIn_of _ (by decide +kernel)) ggX3_count_X3_present
set_option maxRecDepth 20000 in
theorem ggX3_count_X2_refusals : GoodIn wsX3_count wsX2_refusals := goodIn_r _ [69, 50, 70, 46, 47, 48, 49, 51, 114] (by decide +kernel) (by decide +kernel)
set_option maxRecDepth 20000 in
theorem gX3_count_X2_refusals : GoodIn wsX3_count (wsV RX3 153 RX2 yX2_refusals wsX2_refusals) := goodIn_app (goodIn_of _ (by decide +kernel)) ggX3_count_X2_refusals
set_option maxRecDepth 20000 in
theorem ggX3_count_X3_howManyStand : GoodIn wsX3_count wsX3_howManyStand := goodIn_r _ [74, 2, 75, 14, 15, 16, 6, 17, 18, 1, 19, 20, 21, 22, 11, 23, 24, 25, 26, 27, 28, 29, 9, 10, 12, 13, 5, 7, 30, 31, 32, 33, 34, 35, 36, 37, 38, 39, 40, 41, 42, 43, 44, 45, 46, 47, 48, 49, 50, 51, 52, 53, 54, 55, 56, 57, 58, 59, 60, 61, 62, 63, 64, 65, 76, 77, 78, 79, 80, 81, 82, 83, 84, 85, 86, 87, 88, 89, 90, 91, 92, 93, 94, 95, 96, 97, 98, 104, 105, 106, 107, 108, 109, 110, 111, 112, 113, 114, 115, 116, 117, 118, 119, 120, 121] (by decide +kernel) (by decide +kernel)
set_option maxRecDepth 20000 in
theorem gX3_count_X3_howManyStand : GoodIn wsX3_count (wsV RX3 163 RX3 yX3_howManyStand wsX3_howManyStand) := goodIn_app (goodIn_of _ (by decide +kernel)) ggX3_count_X3_howManyStand
set_option maxRecDepth 20000 in
theorem ggX3_count_X3_howManyMarked : GoodIn wsX3_count wsX3_howManyMarked := goodIn_r _ [102, 2, 75, 103, 104, 105, 106, 107, 108, 109, 110, 111, 115, 116, 117, 118, 119, 120, 121] (by decide +kernel) (by decide +kernel)
set_option maxRecDepth 20000 in
theorem gX3_count_X3_howManyMarked : GoodIn wsX3_count (wsV RX3 166 RX3 yX3_howManyMarked wsX3_howManyMarked) := goodIn_app (goodIn_of _ (by decide +kernel)) ggX3_count_X3_howManyMarked
theorem dX3_count_0 : decode cX3_count 0 = .ok (.iload_n 1, 1) := by decide +kernel
theorem dX3_count_1 : decode cX3_count 1 = .ok (.bipush 10, 2) := by decide +kernel
theorem dX3_count_3 : decode cX3_count 3 = .ok (.if_icmp .lt 25, 3) := by decide +kernel
theorem dX3_count_6 : decode cX3_count 6 = .ok (.iload_n 1, 1) := by decide +kernel
theorem dX3_count_7 : decode cX3_count 7 = .ok (.bipush 10, 2) := by decide +kernel
theorem dX3_count_9 : decode cX3_count 9 = .ok (.isub, 1) := by decide +kernel
theorem dX3_count_10 : decode cX3_count 10 = .ok (.invokestatic 47, 3) := by decide +kernel
theorem dX3_count_13 : decode cX3_count 13 = .ok (.ifCond .eq 15, 3) := by decide +kernel
theorem dX3_count_16 : decode cX3_count 16 = .ok (.aload_n 0, 1) := by decide +kernel
theorem dX3_count_17 : decode cX3_count 17 = .ok (.getfield 12, 3) := by decide +kernel
theorem dX3_count_20 : decode cX3_count 20 = .ok (.iload_n 1, 1) := by decide +kernel
theorem dX3_count_21 : decode cX3_count 21 = .ok (.bipush 10, 2) := by decide +kernel
theorem dX3_count_23 : decode cX3_count 23 = .ok (.isub, 1) := by decide +kernel
theorem dX3_count_24 : decode cX3_count 24 = .ok (.invokevirtual 58, 3) := by decide +kernel
theorem dX3_count_27 : decode cX3_count 27 = .ok (.ireturn, 1) := by decide +kernel
theorem dX3_count_28 : decode cX3_count 28 = .ok (.iload_n 1, 1) := by decide +kernel
theorem dX3_count_29 : decode cX3_count 29 = .ok (.bipush 20, 2) := by decide +kernel
theorem dX3_count_31 : decode cX3_count 31 = .ok (.if_icmp .lt 25, 3) := by decide +kernel
theorem dX3_count_34 : decode cX3_count 34 = .ok (.iload_n 1, 1) := by decide +kernel
theorem dX3_count_35 : decode cX3_count 35 = .ok (.bipush 20, 2) := by decide +kernel
theorem dX3_count_37 : decode cX3_count 37 = .ok (.isub, 1) := by decide +kernel
theorem dX3_count_38 : decode cX3_count 38 = .ok (.invokestatic 47, 3) := by decide +kernel
theorem dX3_count_41 : decode cX3_count 41 = .ok (.ifCond .eq 15, 3) := by decide +kernel
theorem dX3_count_44 : decode cX3_count 44 = .ok (.aload_n 0, 1) := by decide +kernel
theorem dX3_count_45 : decode cX3_count 45 = .ok (.invokevirtual 74, 3) := by decide +kernel
theorem dX3_count_48 : decode cX3_count 48 = .ok (.iload_n 1, 1) := by decide +kernel
theorem dX3_count_49 : decode cX3_count 49 = .ok (.bipush 20, 2) := by decide +kernel
theorem dX3_count_51 : decode cX3_count 51 = .ok (.isub, 1) := by decide +kernel
theorem dX3_count_52 : decode cX3_count 52 = .ok (.invokevirtual 153, 3) := by decide +kernel
theorem dX3_count_55 : decode cX3_count 55 = .ok (.ireturn, 1) := by decide +kernel
theorem dX3_count_56 : decode cX3_count 56 = .ok (.iload_n 1, 1) := by decide +kernel
theorem dX3_count_57 : decode cX3_count 57 = .ok (.tableswitch 72 0 5 #[39, 44, 49, 55, 61, 67], 39) := by decide +kernel
theorem dX3_count_96 : decode cX3_count 96 = .ok (.aload_n 0, 1) := by decide +kernel
theorem dX3_count_97 : decode cX3_count 97 = .ok (.getfield 40, 3) := by decide +kernel
theorem dX3_count_100 : decode cX3_count 100 = .ok (.ireturn, 1) := by decide +kernel
theorem dX3_count_101 : decode cX3_count 101 = .ok (.aload_n 0, 1) := by decide +kernel
theorem dX3_count_102 : decode cX3_count 102 = .ok (.getfield 31, 3) := by decide +kernel
theorem dX3_count_105 : decode cX3_count 105 = .ok (.ireturn, 1) := by decide +kernel
theorem dX3_count_106 : decode cX3_count 106 = .ok (.aload_n 0, 1) := by decide +kernel
theorem dX3_count_107 : decode cX3_count 107 = .ok (.iconst 0, 1) := by decide +kernel
theorem dX3_count_108 : decode cX3_count 108 = .ok (.invokevirtual 163, 3) := by decide +kernel
theorem dX3_count_111 : decode cX3_count 111 = .ok (.ireturn, 1) := by decide +kernel
theorem dX3_count_112 : decode cX3_count 112 = .ok (.aload_n 0, 1) := by decide +kernel
theorem dX3_count_113 : decode cX3_count 113 = .ok (.iconst 1, 1) := by decide +kernel
theorem dX3_count_114 : decode cX3_count 114 = .ok (.invokevirtual 163, 3) := by decide +kernel
theorem dX3_count_117 : decode cX3_count 117 = .ok (.ireturn, 1) := by decide +kernel
theorem dX3_count_118 : decode cX3_count 118 = .ok (.aload_n 0, 1) := by decide +kernel
theorem dX3_count_119 : decode cX3_count 119 = .ok (.iconst 2, 1) := by decide +kernel
theorem dX3_count_120 : decode cX3_count 120 = .ok (.invokevirtual 163, 3) := by decide +kernel
theorem dX3_count_123 : decode cX3_count 123 = .ok (.ireturn, 1) := by decide +kernel
theorem dX3_count_124 : decode cX3_count 124 = .ok (.aload_n 0, 1) := by decide +kernel
theorem dX3_count_125 : decode cX3_count 125 = .ok (.invokevirtual 166, 3) := by decide +kernel
theorem dX3_count_128 : decode cX3_count 128 = .ok (.ireturn, 1) := by decide +kernel
theorem dX3_count_129 : decode cX3_count 129 = .ok (.iconst (-1), 1) := by decide +kernel
theorem dX3_count_130 : decode cX3_count 130 = .ok (.ireturn, 1) := by decide +kernel
theorem dX3_isFunction_0 : decode cX3_isFunction 0 = .ok (.iload_n 0, 1) := by decide +kernel
theorem dX3_isFunction_1 : decode cX3_isFunction 1 = .ok (.ifCond .lt 13, 3) := by decide +kernel
theorem dX3_isFunction_4 : decode cX3_isFunction 4 = .ok (.iload_n 0, 1) := by decide +kernel
theorem dX3_isFunction_5 : decode cX3_isFunction 5 = .ok (.bipush 6, 2) := by decide +kernel
theorem dX3_isFunction_7 : decode cX3_isFunction 7 = .ok (.if_icmp .ge 7, 3) := by decide +kernel
theorem dX3_isFunction_10 : decode cX3_isFunction 10 = .ok (.iconst 1, 1) := by decide +kernel
theorem dX3_isFunction_11 : decode cX3_isFunction 11 = .ok (.goto 4, 3) := by decide +kernel
theorem dX3_isFunction_14 : decode cX3_isFunction 14 = .ok (.iconst 0, 1) := by decide +kernel
theorem dX3_isFunction_15 : decode cX3_isFunction 15 = .ok (.ireturn, 1) := by decide +kernel
theorem dX3_isRun_0 : decode cX3_isRun 0 = .ok (.iload_n 0, 1) := by decide +kernel
theorem dX3_isRun_1 : decode cX3_isRun 1 = .ok (.ifCond .lt 14, 3) := by decide +kernel
theorem dX3_isRun_4 : decode cX3_isRun 4 = .ok (.iload_n 0, 1) := by decide +kernel
theorem dX3_isRun_5 : decode cX3_isRun 5 = .ok (.sipush 256, 3) := by decide +kernel
theorem dX3_isRun_8 : decode cX3_isRun 8 = .ok (.if_icmp .ge 7, 3) := by decide +kernel
theorem dX3_isRun_11 : decode cX3_isRun 11 = .ok (.iconst 1, 1) := by decide +kernel
theorem dX3_isRun_12 : decode cX3_isRun 12 = .ok (.goto 4, 3) := by decide +kernel
theorem dX3_isRun_15 : decode cX3_isRun 15 = .ok (.iconst 0, 1) := by decide +kernel
theorem dX3_isRun_16 : decode cX3_isRun 16 = .ok (.ireturn, 1) := by decide +kernel
theorem dX3_isWithinLimit_0 : decode cX3_isWithinLimit 0 = .ok (.iload_n 0, 1) := by decide +kernel
theorem dX3_isWithinLimit_1 : decode cX3_isWithinLimit 1 = .ok (.ldc 170, 2) := by decide +kernel
theorem dX3_isWithinLimit_3 : decode cX3_isWithinLimit 3 = .ok (.if_icmp .lt 13, 3) := by decide +kernel
theorem dX3_isWithinLimit_6 : decode cX3_isWithinLimit 6 = .ok (.iload_n 0, 1) := by decide +kernel
theorem dX3_isWithinLimit_7 : decode cX3_isWithinLimit 7 = .ok (.ldc 171, 2) := by decide +kernel
theorem dX3_isWithinLimit_9 : decode cX3_isWithinLimit 9 = .ok (.if_icmp .gt 7, 3) := by decide +kernel
theorem dX3_isWithinLimit_12 : decode cX3_isWithinLimit 12 = .ok (.iconst 1, 1) := by decide +kernel
theorem dX3_isWithinLimit_13 : decode cX3_isWithinLimit 13 = .ok (.goto 4, 3) := by decide +kernel
theorem dX3_isWithinLimit_16 : decode cX3_isWithinLimit 16 = .ok (.iconst 0, 1) := by decide +kernel
theorem dX3_isWithinLimit_17 : decode cX3_isWithinLimit 17 = .ok (.ireturn, 1) := by decide +kernel
theorem dX3_runNumber_0 : decode cX3_runNumber 0 = .ok (.iload_n 0, 1) := by decide +kernel
theorem dX3_runNumber_1 : decode cX3_runNumber 1 = .ok (.ifCond .lt 19, 3) := by decide +kernel
theorem dX3_runNumber_4 : decode cX3_runNumber 4 = .ok (.iload_n 0, 1) := by decide +kernel
theorem dX3_runNumber_5 : decode cX3_runNumber 5 = .ok (.bipush 16, 2) := by decide +kernel
theorem dX3_runNumber_7 : decode cX3_runNumber 7 = .ok (.if_icmp .ge 13, 3) := by decide +kernel
theorem dX3_runNumber_10 : decode cX3_runNumber 10 = .ok (.iload_n 1, 1) := by decide +kernel
theorem dX3_runNumber_11 : decode cX3_runNumber 11 = .ok (.ifCond .lt 9, 3) := by decide +kernel
theorem dX3_runNumber_14 : decode cX3_runNumber 14 = .ok (.iload_n 1, 1) := by decide +kernel
theorem dX3_runNumber_15 : decode cX3_runNumber 15 = .ok (.bipush 16, 2) := by decide +kernel
theorem dX3_runNumber_17 : decode cX3_runNumber 17 = .ok (.if_icmp .lt 5, 3) := by decide +kernel
theorem dX3_runNumber_20 : decode cX3_runNumber 20 = .ok (.iconst (-1), 1) := by decide +kernel
theorem dX3_runNumber_21 : decode cX3_runNumber 21 = .ok (.ireturn, 1) := by decide +kernel
theorem dX3_runNumber_22 : decode cX3_runNumber 22 = .ok (.iload_n 0, 1) := by decide +kernel
theorem dX3_runNumber_23 : decode cX3_runNumber 23 = .ok (.bipush 16, 2) := by decide +kernel
theorem dX3_runNumber_25 : decode cX3_runNumber 25 = .ok (.imul, 1) := by decide +kernel
theorem dX3_runNumber_26 : decode cX3_runNumber 26 = .ok (.iload_n 1, 1) := by decide +kernel
theorem dX3_runNumber_27 : decode cX3_runNumber 27 = .ok (.iadd, 1) := by decide +kernel
theorem dX3_runNumber_28 : decode cX3_runNumber 28 = .ok (.ireturn, 1) := by decide +kernel
set_option maxRecDepth 20000 in
theorem ggX3_canBeClaimed_X3_isWithinLimit : GoodIn wsX3_canBeClaimed wsX3_isWithinLimit := goodIn_r _ [4, 5, 6] (by decide +kernel) (by decide +kernel)
set_option maxRecDepth 20000 in
theorem gX3_canBeClaimed_X3_isWithinLimit : GoodIn wsX3_canBeClaimed (va_wsS RX3 172 yX3_isWithinLimit wsX3_isWithinLimit) := goodIn_app (goodIn_of _ (by decide +kernel)) ggX3_canBeClaimed_X3_isWithinLimit
set_option maxRecDepth 20000 in
theorem ggX3_canBeClaimed_X3_isRun : GoodIn wsX3_canBeClaimed wsX3_isRun := goodIn_r _ [9] (by decide +kernel) (by decide +kernel)
set_option maxRecDepth 20000 in
theorem gX3_canBeClaimed_X3_isRun : GoodIn wsX3_canBeClaimed (va_wsS RX3 175 yX3_isRun wsX3_isRun) := goodIn_app (goodIn_of _ (by decide +kernel)) ggX3_canBeClaimed_X3_isRun
set_option maxRecDepth 20000 in
theorem ggX3_canBeClaimed_X3_isFunction : GoodIn wsX3_canBeClaimed wsX3_isFunction := goodIn_r _ [12] (by decide +kernel) (by decide +kernel)
set_option maxRecDepth 20000 in
theorem gX3_canBeClaimed_X3_isFunction : GoodIn wsX3_canBeClaimed (va_wsS RX3 47 yX3_isFunction wsX3_isFunction) := goodIn_app (goodIn_of _ (by decide +kernel)) ggX3_canBeClaimed_X3_isFunction
theorem dX3_canBeClaimed_0 : decode cX3_canBeClaimed 0 = .ok (.iload_n 0, 1) := by decide +kernel
theorem dX3_canBeClaimed_1 : decode cX3_canBeClaimed 1 = .ok (.tableswitch 133 0 7 #[47, 72, 72, 74, 72, 92, 112, 128], 47) := by decide +kernel
theorem dX3_canBeClaimed_48 : decode cX3_canBeClaimed 48 = .ok (.iload_n 1, 1) := by decide +kernel
theorem dX3_canBeClaimed_49 : decode cX3_canBeClaimed 49 = .ok (.invokestatic 172, 3) := by decide +kernel
theorem dX3_canBeClaimed_52 : decode cX3_canBeClaimed 52 = .ok (.ifCond .eq 19, 3) := by decide +kernel
theorem dX3_canBeClaimed_55 : decode cX3_canBeClaimed 55 = .ok (.iload_n 2, 1) := by decide +kernel
theorem dX3_canBeClaimed_56 : decode cX3_canBeClaimed 56 = .ok (.invokestatic 172, 3) := by decide +kernel
theorem dX3_canBeClaimed_59 : decode cX3_canBeClaimed 59 = .ok (.ifCond .eq 12, 3) := by decide +kernel
theorem dX3_canBeClaimed_62 : decode cX3_canBeClaimed 62 = .ok (.iload_n 1, 1) := by decide +kernel
theorem dX3_canBeClaimed_63 : decode cX3_canBeClaimed 63 = .ok (.iload_n 2, 1) := by decide +kernel
theorem dX3_canBeClaimed_64 : decode cX3_canBeClaimed 64 = .ok (.if_icmp .gt 7, 3) := by decide +kernel
theorem dX3_canBeClaimed_67 : decode cX3_canBeClaimed 67 = .ok (.iconst 1, 1) := by decide +kernel
theorem dX3_canBeClaimed_68 : decode cX3_canBeClaimed 68 = .ok (.goto 4, 3) := by decide +kernel
theorem dX3_canBeClaimed_71 : decode cX3_canBeClaimed 71 = .ok (.iconst 0, 1) := by decide +kernel
theorem dX3_canBeClaimed_72 : decode cX3_canBeClaimed 72 = .ok (.ireturn, 1) := by decide +kernel
theorem dX3_canBeClaimed_73 : decode cX3_canBeClaimed 73 = .ok (.iconst 1, 1) := by decide +kernel
theorem dX3_canBeClaimed_74 : decode cX3_canBeClaimed 74 = .ok (.ireturn, 1) := by decide +kernel
theorem dX3_canBeClaimed_75 : decode cX3_canBeClaimed 75 = .ok (.iload_n 1, 1) := by decide +kernel
theorem dX3_canBeClaimed_76 : decode cX3_canBeClaimed 76 = .ok (.iconst 1, 1) := by decide +kernel
theorem dX3_canBeClaimed_77 : decode cX3_canBeClaimed 77 = .ok (.if_icmp .lt 14, 3) := by decide +kernel
theorem dX3_canBeClaimed_80 : decode cX3_canBeClaimed 80 = .ok (.iload_n 1, 1) := by decide +kernel
theorem dX3_canBeClaimed_81 : decode cX3_canBeClaimed 81 = .ok (.sipush 1000, 3) := by decide +kernel
theorem dX3_canBeClaimed_84 : decode cX3_canBeClaimed 84 = .ok (.if_icmp .gt 7, 3) := by decide +kernel
theorem dX3_canBeClaimed_87 : decode cX3_canBeClaimed 87 = .ok (.iconst 1, 1) := by decide +kernel
theorem dX3_canBeClaimed_88 : decode cX3_canBeClaimed 88 = .ok (.goto 4, 3) := by decide +kernel
theorem dX3_canBeClaimed_91 : decode cX3_canBeClaimed 91 = .ok (.iconst 0, 1) := by decide +kernel
theorem dX3_canBeClaimed_92 : decode cX3_canBeClaimed 92 = .ok (.ireturn, 1) := by decide +kernel
theorem dX3_canBeClaimed_93 : decode cX3_canBeClaimed 93 = .ok (.iload_n 1, 1) := by decide +kernel
theorem dX3_canBeClaimed_94 : decode cX3_canBeClaimed 94 = .ok (.invokestatic 175, 3) := by decide +kernel
theorem dX3_canBeClaimed_97 : decode cX3_canBeClaimed 97 = .ok (.ifCond .eq 14, 3) := by decide +kernel
theorem dX3_canBeClaimed_100 : decode cX3_canBeClaimed 100 = .ok (.iload_n 2, 1) := by decide +kernel
theorem dX3_canBeClaimed_101 : decode cX3_canBeClaimed 101 = .ok (.invokestatic 172, 3) := by decide +kernel
theorem dX3_canBeClaimed_104 : decode cX3_canBeClaimed 104 = .ok (.ifCond .eq 7, 3) := by decide +kernel
theorem dX3_canBeClaimed_107 : decode cX3_canBeClaimed 107 = .ok (.iconst 1, 1) := by decide +kernel
theorem dX3_canBeClaimed_108 : decode cX3_canBeClaimed 108 = .ok (.goto 4, 3) := by decide +kernel
theorem dX3_canBeClaimed_111 : decode cX3_canBeClaimed 111 = .ok (.iconst 0, 1) := by decide +kernel
theorem dX3_canBeClaimed_112 : decode cX3_canBeClaimed 112 = .ok (.ireturn, 1) := by decide +kernel
theorem dX3_canBeClaimed_113 : decode cX3_canBeClaimed 113 = .ok (.iload_n 1, 1) := by decide +kernel
theorem dX3_canBeClaimed_114 : decode cX3_canBeClaimed 114 = .ok (.ifCond .lt 13, 3) := by decide +kernel
theorem dX3_canBeClaimed_117 : decode cX3_canBeClaimed 117 = .ok (.iload_n 1, 1) := by decide +kernel
theorem dX3_canBeClaimed_118 : decode cX3_canBeClaimed 118 = .ok (.bipush 16, 2) := by decide +kernel
theorem dX3_canBeClaimed_120 : decode cX3_canBeClaimed 120 = .ok (.if_icmp .gt 7, 3) := by decide +kernel
theorem dX3_canBeClaimed_123 : decode cX3_canBeClaimed 123 = .ok (.iconst 1, 1) := by decide +kernel
theorem dX3_canBeClaimed_124 : decode cX3_canBeClaimed 124 = .ok (.goto 4, 3) := by decide +kernel
theorem dX3_canBeClaimed_127 : decode cX3_canBeClaimed 127 = .ok (.iconst 0, 1) := by decide +kernel
theorem dX3_canBeClaimed_128 : decode cX3_canBeClaimed 128 = .ok (.ireturn, 1) := by decide +kernel
theorem dX3_canBeClaimed_129 : decode cX3_canBeClaimed 129 = .ok (.iload_n 1, 1) := by decide +kernel
theorem dX3_canBeClaimed_130 : decode cX3_canBeClaimed 130 = .ok (.invokestatic 47, 3) := by decide +kernel
theorem dX3_canBeClaimed_133 : decode cX3_canBeClaimed 133 = .ok (.ireturn, 1) := by decide +kernel
theorem dX3_canBeClaimed_134 : decode cX3_canBeClaimed 134 = .ok (.iconst 0, 1) := by decide +kernel
theorem dX3_canBeClaimed_135 : decode cX3_canBeClaimed 135 = .ok (.ireturn, 1) := by decide +kernel
theorem dX3_unsettle_0 : decode cX3_unsettle 0 = .ok (.aload_n 0, 1) := by decide +kernel
theorem dX3_unsettle_1 : decode cX3_unsettle 1 = .ok (.aload_n 0, 1) := by decide +kernel
theorem dX3_unsettle_2 : decode cX3_unsettle 2 = .ok (.getfield 23, 3) := by decide +kernel
theorem dX3_unsettle_5 : decode cX3_unsettle 5 = .ok (.iload_n 1, 1) := by decide +kernel
theorem dX3_unsettle_6 : decode cX3_unsettle 6 = .ok (.invokestatic 178, 3) := by decide +kernel
theorem dX3_unsettle_9 : decode cX3_unsettle 9 = .ok (.putfield 23, 3) := by decide +kernel
theorem dX3_unsettle_12 : decode cX3_unsettle 12 = .ok (.return_, 1) := by decide +kernel
set_option maxRecDepth 20000 in
theorem ggX3_present_X1_runAll : GoodIn wsX3_present wsX1_runAll := goodIn_r _ [8, 9, 10, 11, 7, 12, 13, 14, 15, 16, 17, 18, 19, 20, 21, 22, 23, 24, 25, 26, 27, 28, 29, 30, 31, 32, 33, 34, 35, 36, 37, 38, 39, 40, 41, 42, 43, 44, 45, 46, 47, 48, 49, 50, 51, 52, 53, 54, 55, 56, 57, 66, 67, 68] (by decide +kernel) (by decide +kernel)
set_option maxRecDepth 20000 in
theorem gX3_present_X1_runAll : GoodIn wsX3_present (wsV RX3 183 RX1 yX1_runAll wsX1_runAll) := goodIn_app (goodIn_of _ (by decide +kernel)) ggX3_present_X1_runAll
theorem dX3_present_0 : decode cX3_present 0 = .ok (.aload_n 0, 1) := by decide +kernel
theorem dX3_present_1 : decode cX3_present 1 = .ok (.getfield 23, 3) := by decide +kernel
theorem dX3_present_4 : decode cX3_present 4 = .ok (.istore_n 1, 1) := by decide +kernel
theorem dX3_present_5 : decode cX3_present 5 = .ok (.iload_n 1, 1) := by decide +kernel
theorem dX3_present_6 : decode cX3_present 6 = .ok (.bipush 6, 2) := by decide +kernel
theorem dX3_present_8 : decode cX3_present 8 = .ok (.if_icmp .ge 21, 3) := by decide +kernel
theorem dX3_present_11 : decode cX3_present 11 = .ok (.aload_n 0, 1) := by decide +kernel
theorem dX3_present_12 : decode cX3_present 12 = .ok (.getfield 12, 3) := by decide +kernel
theorem dX3_present_15 : decode cX3_present 15 = .ok (.iload_n 1, 1) := by decide +kernel
theorem dX3_present_16 : decode cX3_present 16 = .ok (.aload_n 0, 1) := by decide +kernel
theorem dX3_present_17 : decode cX3_present 17 = .ok (.getfield 19, 3) := by decide +kernel
theorem dX3_present_20 : decode cX3_present 20 = .ok (.invokevirtual 183, 3) := by decide +kernel
theorem dX3_present_23 : decode cX3_present 23 = .ok (.iinc 1 1, 3) := by decide +kernel
theorem dX3_present_26 : decode cX3_present 26 = .ok (.goto (-21), 3) := by decide +kernel
theorem dX3_present_29 : decode cX3_present 29 = .ok (.aload_n 0, 1) := by decide +kernel
theorem dX3_present_30 : decode cX3_present 30 = .ok (.bipush 6, 2) := by decide +kernel
theorem dX3_present_32 : decode cX3_present 32 = .ok (.putfield 23, 3) := by decide +kernel
theorem dX3_present_35 : decode cX3_present 35 = .ok (.aload_n 0, 1) := by decide +kernel
theorem dX3_present_36 : decode cX3_present 36 = .ok (.getfield 19, 3) := by decide +kernel
theorem dX3_present_39 : decode cX3_present 39 = .ok (.areturn, 1) := by decide +kernel
theorem dX3_keptState_0 : decode cX3_keptState 0 = .ok (.iload_n 1, 1) := by decide +kernel
theorem dX3_keptState_1 : decode cX3_keptState 1 = .ok (.ifCond .lt 29, 3) := by decide +kernel
theorem dX3_keptState_4 : decode cX3_keptState 4 = .ok (.iload_n 1, 1) := by decide +kernel
theorem dX3_keptState_5 : decode cX3_keptState 5 = .ok (.aload_n 0, 1) := by decide +kernel
theorem dX3_keptState_6 : decode cX3_keptState 6 = .ok (.getfield 31, 3) := by decide +kernel
theorem dX3_keptState_9 : decode cX3_keptState 9 = .ok (.if_icmp .gt 21, 3) := by decide +kernel
theorem dX3_keptState_12 : decode cX3_keptState 12 = .ok (.iload_n 1, 1) := by decide +kernel
theorem dX3_keptState_13 : decode cX3_keptState 13 = .ok (.aload_n 0, 1) := by decide +kernel
theorem dX3_keptState_14 : decode cX3_keptState 14 = .ok (.getfield 27, 3) := by decide +kernel
theorem dX3_keptState_17 : decode cX3_keptState 17 = .ok (.arraylength, 1) := by decide +kernel
theorem dX3_keptState_18 : decode cX3_keptState 18 = .ok (.if_icmp .ge 12, 3) := by decide +kernel
theorem dX3_keptState_21 : decode cX3_keptState 21 = .ok (.aload_n 0, 1) := by decide +kernel
theorem dX3_keptState_22 : decode cX3_keptState 22 = .ok (.getfield 27, 3) := by decide +kernel
theorem dX3_keptState_25 : decode cX3_keptState 25 = .ok (.iload_n 1, 1) := by decide +kernel
theorem dX3_keptState_26 : decode cX3_keptState 26 = .ok (.aaload, 1) := by decide +kernel
theorem dX3_keptState_27 : decode cX3_keptState 27 = .ok (.goto 4, 3) := by decide +kernel
theorem dX3_keptState_30 : decode cX3_keptState 30 = .ok (.aconst_null, 1) := by decide +kernel
theorem dX3_keptState_31 : decode cX3_keptState 31 = .ok (.areturn, 1) := by decide +kernel
theorem dX3_claimAt_0 : decode cX3_claimAt 0 = .ok (.iload_n 1, 1) := by decide +kernel
theorem dX3_claimAt_1 : decode cX3_claimAt 1 = .ok (.ifCond .lt 29, 3) := by decide +kernel
theorem dX3_claimAt_4 : decode cX3_claimAt 4 = .ok (.iload_n 1, 1) := by decide +kernel
theorem dX3_claimAt_5 : decode cX3_claimAt 5 = .ok (.aload_n 0, 1) := by decide +kernel
theorem dX3_claimAt_6 : decode cX3_claimAt 6 = .ok (.getfield 40, 3) := by decide +kernel
theorem dX3_claimAt_9 : decode cX3_claimAt 9 = .ok (.if_icmp .ge 21, 3) := by decide +kernel
theorem dX3_claimAt_12 : decode cX3_claimAt 12 = .ok (.iload_n 1, 1) := by decide +kernel
theorem dX3_claimAt_13 : decode cX3_claimAt 13 = .ok (.aload_n 0, 1) := by decide +kernel
theorem dX3_claimAt_14 : decode cX3_claimAt 14 = .ok (.getfield 36, 3) := by decide +kernel
theorem dX3_claimAt_17 : decode cX3_claimAt 17 = .ok (.arraylength, 1) := by decide +kernel
theorem dX3_claimAt_18 : decode cX3_claimAt 18 = .ok (.if_icmp .ge 12, 3) := by decide +kernel
theorem dX3_claimAt_21 : decode cX3_claimAt 21 = .ok (.aload_n 0, 1) := by decide +kernel
theorem dX3_claimAt_22 : decode cX3_claimAt 22 = .ok (.getfield 36, 3) := by decide +kernel
theorem dX3_claimAt_25 : decode cX3_claimAt 25 = .ok (.iload_n 1, 1) := by decide +kernel
theorem dX3_claimAt_26 : decode cX3_claimAt 26 = .ok (.aaload, 1) := by decide +kernel
theorem dX3_claimAt_27 : decode cX3_claimAt 27 = .ok (.goto 4, 3) := by decide +kernel
theorem dX3_claimAt_30 : decode cX3_claimAt 30 = .ok (.aconst_null, 1) := by decide +kernel
theorem dX3_claimAt_31 : decode cX3_claimAt 31 = .ok (.areturn, 1) := by decide +kernel
set_option maxRecDepth 20000 in
theorem ggX3_standing_X0_isHeldIn : GoodIn wsX3_standing wsX0_isHeldIn := goodIn_r _ [6, 7, 8, 9, 5, 10, 11, 12, 13, 14, 15, 16, 17, 18, 19, 20, 21, 22, 23, 24, 25, 26, 27, 28, 29, 30, 31, 32, 33, 34] (by decide +kernel) (by decide +kernel)
set_option maxRecDepth 20000 in
theorem gX3_standing_X0_isHeldIn : GoodIn wsX3_standing (wsV RX3 88 RX0 yX0_isHeldIn wsX0_isHeldIn) := goodIn_app (goodIn_of _ (by decide +kernel)) ggX3_standing_X0_isHeldIn
theorem dX3_standing_0 : decode cX3_standing 0 = .ok (.aload_n 0, 1) := by decide +kernel
theorem dX3_standing_1 : decode cX3_standing 1 = .ok (.aload_n 1, 1) := by decide +kernel
theorem dX3_standing_2 : decode cX3_standing 2 = .ok (.invokevirtual 88, 3) := by decide +kernel
theorem dX3_standing_5 : decode cX3_standing 5 = .ok (.ifCond .eq 5, 3) := by decide +kernel
theorem dX3_standing_8 : decode cX3_standing 8 = .ok (.iconst 0, 1) := by decide +kernel
theorem dX3_standing_9 : decode cX3_standing 9 = .ok (.ireturn, 1) := by decide +kernel
theorem dX3_standing_10 : decode cX3_standing 10 = .ok (.aload_n 0, 1) := by decide +kernel
theorem dX3_standing_11 : decode cX3_standing 11 = .ok (.getfield 92, 3) := by decide +kernel
theorem dX3_standing_14 : decode cX3_standing 14 = .ok (.iconst (-1), 1) := by decide +kernel
theorem dX3_standing_15 : decode cX3_standing 15 = .ok (.if_icmp .ne 7, 3) := by decide +kernel
theorem dX3_standing_18 : decode cX3_standing 18 = .ok (.iconst 1, 1) := by decide +kernel
theorem dX3_standing_19 : decode cX3_standing 19 = .ok (.goto 4, 3) := by decide +kernel
theorem dX3_standing_22 : decode cX3_standing 22 = .ok (.iconst 2, 1) := by decide +kernel
theorem dX3_standing_23 : decode cX3_standing 23 = .ok (.ireturn, 1) := by decide +kernel
set_option maxRecDepth 20000 in
theorem ggX3_lastKeptHolding_X3_keptState : GoodIn wsX3_lastKeptHolding wsX3_keptState := goodIn_r _ [7, 1, 8, 34, 35, 36, 37, 38, 39, 40, 41] (by decide +kernel) (by decide +kernel)
set_option maxRecDepth 20000 in
theorem gX3_lastKeptHolding_X3_keptState : GoodIn wsX3_lastKeptHolding (wsV RX3 95 RX3 yX3_keptState wsX3_keptState) := goodIn_app (goodIn_of _ (by decide +kernel)) ggX3_lastKeptHolding_X3_keptState
set_option maxRecDepth 20000 in
theorem ggX3_lastKeptHolding_X0_isHeldIn : GoodIn wsX3_lastKeptHolding wsX0_isHeldIn := goodIn_r _ [13, 14, 15, 16, 12, 17, 18, 19, 20, 21, 22, 23, 24, 25, 26, 27, 28, 29, 30, 31, 32, 33, 42, 43, 44, 45, 46, 47, 48, 49] (by decide +kernel) (by decide +kernel)
set_option maxRecDepth 20000 in
theorem gX3_lastKeptHolding_X0_isHeldIn : GoodIn wsX3_lastKeptHolding (wsV RX3 88 RX0 yX0_isHeldIn wsX0_isHeldIn) := goodIn_app (goodIn_of _ (by decide +kernel)) ggX3_lastKeptHolding_X0_isHeldIn
theorem dX3_lastKeptHolding_0 : decode cX3_lastKeptHolding 0 = .ok (.aload_n 0, 1) := by decide +kernel
theorem dX3_lastKeptHolding_1 : decode cX3_lastKeptHolding 1 = .ok (.getfield 31, 3) := by decide +kernel
theorem dX3_lastKeptHolding_4 : decode cX3_lastKeptHolding 4 = .ok (.istore_n 2, 1) := by decide +kernel
theorem dX3_lastKeptHolding_5 : decode cX3_lastKeptHolding 5 = .ok (.iload_n 2, 1) := by decide +kernel
theorem dX3_lastKeptHolding_6 : decode cX3_lastKeptHolding 6 = .ok (.aload_n 1, 1) := by decide +kernel
theorem dX3_lastKeptHolding_7 : decode cX3_lastKeptHolding 7 = .ok (.getfield 187, 3) := by decide +kernel
theorem dX3_lastKeptHolding_10 : decode cX3_lastKeptHolding 10 = .ok (.if_icmp .lt 29, 3) := by decide +kernel
theorem dX3_lastKeptHolding_13 : decode cX3_lastKeptHolding 13 = .ok (.aload_n 0, 1) := by decide +kernel
theorem dX3_lastKeptHolding_14 : decode cX3_lastKeptHolding 14 = .ok (.iload_n 2, 1) := by decide +kernel
theorem dX3_lastKeptHolding_15 : decode cX3_lastKeptHolding 15 = .ok (.invokevirtual 95, 3) := by decide +kernel
theorem dX3_lastKeptHolding_18 : decode cX3_lastKeptHolding 18 = .ok (.astore_n 3, 1) := by decide +kernel
theorem dX3_lastKeptHolding_19 : decode cX3_lastKeptHolding 19 = .ok (.aload_n 3, 1) := by decide +kernel
theorem dX3_lastKeptHolding_20 : decode cX3_lastKeptHolding 20 = .ok (.ifnull 13, 3) := by decide +kernel
theorem dX3_lastKeptHolding_23 : decode cX3_lastKeptHolding 23 = .ok (.aload_n 1, 1) := by decide +kernel
theorem dX3_lastKeptHolding_24 : decode cX3_lastKeptHolding 24 = .ok (.aload_n 3, 1) := by decide +kernel
theorem dX3_lastKeptHolding_25 : decode cX3_lastKeptHolding 25 = .ok (.invokevirtual 88, 3) := by decide +kernel
theorem dX3_lastKeptHolding_28 : decode cX3_lastKeptHolding 28 = .ok (.ifCond .eq 5, 3) := by decide +kernel
theorem dX3_lastKeptHolding_31 : decode cX3_lastKeptHolding 31 = .ok (.iload_n 2, 1) := by decide +kernel
theorem dX3_lastKeptHolding_32 : decode cX3_lastKeptHolding 32 = .ok (.ireturn, 1) := by decide +kernel
theorem dX3_lastKeptHolding_33 : decode cX3_lastKeptHolding 33 = .ok (.iinc 2 (-1), 3) := by decide +kernel
theorem dX3_lastKeptHolding_36 : decode cX3_lastKeptHolding 36 = .ok (.goto (-31), 3) := by decide +kernel
theorem dX3_lastKeptHolding_39 : decode cX3_lastKeptHolding 39 = .ok (.iconst (-1), 1) := by decide +kernel
theorem dX3_lastKeptHolding_40 : decode cX3_lastKeptHolding 40 = .ok (.ireturn, 1) := by decide +kernel
set_option maxRecDepth 20000 in
theorem ggX3_firstMend_X3_present : GoodIn wsX3_firstMend wsX3_present := goodIn_r _ [9, 10, 11, 12, 13, 14, 15, 16, 17, 18, 19, 20, 21, 22, 23, 24, 25, 26, 27, 28, 8, 29, 30, 31, 32, 33, 34, 35, 36, 37, 38, 39, 40, 41, 42, 43, 44, 45, 46, 47, 48, 49, 50, 51, 52, 53, 54, 55, 56, 57, 58, 59, 60, 61, 62, 63, 64, 65, 101, 102, 103, 104, 105, 106, 107, 108, 109, 110, 111] (by decide +kernel) (by decide +kernel)
set_option maxRecDepth 20000 in
theorem gX3_firstMend_X3_present : GoodIn wsX3_firstMend (wsV RX3 74 RX3 yX3_present wsX3_present) := goodIn_app (goodIn_of _ (by decide +kernel)) ggX3_firstMend_X3_present
set_option maxRecDepth 20000 in
theorem ggX3_firstMend_X2_least : GoodIn wsX3_firstMend wsX2_least := goodIn_r _ [69, 50, 70, 46, 47, 48, 49, 51, 111] (by decide +kernel) (by decide +kernel)
set_option maxRecDepth 20000 in
theorem gX3_firstMend_X2_least : GoodIn wsX3_firstMend (wsV RX3 160 RX2 yX2_least wsX2_least) := goodIn_app (goodIn_of _ (by decide +kernel)) ggX3_firstMend_X2_least
set_option maxRecDepth 20000 in
theorem ggX3_firstMend_X2_greatestDivisor : GoodIn wsX3_firstMend wsX2_greatestDivisor := goodIn_r _ [74, 50, 75, 76, 40, 77, 70, 46, 47, 48, 49, 51, 78, 79, 80, 111] (by decide +kernel) (by decide +kernel)
set_option maxRecDepth 20000 in
theorem gX3_firstMend_X2_greatestDivisor : GoodIn wsX3_firstMend (wsV RX3 190 RX2 yX2_greatestDivisor wsX2_greatestDivisor) := goodIn_app (goodIn_of _ (by decide +kernel)) ggX3_firstMend_X2_greatestDivisor
set_option maxRecDepth 20000 in
theorem ggX3_firstMend_X2_given : GoodIn wsX3_firstMend wsX2_given := goodIn_r _ [49, 50, 51, 111] (by decide +kernel) (by decide +kernel)
set_option maxRecDepth 20000 in
theorem gX3_firstMend_X2_given : GoodIn wsX3_firstMend (wsV RX3 82 RX2 yX2_given wsX2_given) := goodIn_app (goodIn_of _ (by decide +kernel)) ggX3_firstMend_X2_given
set_option maxRecDepth 20000 in
theorem ggX3_firstMend_X2_refusesFrom : GoodIn wsX3_firstMend wsX2_refusesFrom := goodIn_r _ [85, 50, 86, 87, 88, 48, 89, 70, 46, 47, 49, 51, 90, 91, 92, 93, 111] (by decide +kernel) (by decide +kernel)
set_option maxRecDepth 20000 in
theorem gX3_firstMend_X2_refusesFrom : GoodIn wsX3_firstMend (wsV RX3 193 RX2 yX2_refusesFrom wsX2_refusesFrom) := goodIn_app (goodIn_of _ (by decide +kernel)) ggX3_firstMend_X2_refusesFrom
theorem dX3_firstMend_0 : decode cX3_firstMend 0 = .ok (.aload_n 1, 1) := by decide +kernel
theorem dX3_firstMend_1 : decode cX3_firstMend 1 = .ok (.getfield 121, 3) := by decide +kernel
theorem dX3_firstMend_4 : decode cX3_firstMend 4 = .ok (.tableswitch 96 0 6 #[44, 96, 96, 56, 96, 68, 84], 44) := by decide +kernel
theorem dX3_firstMend_48 : decode cX3_firstMend 48 = .ok (.aload_n 0, 1) := by decide +kernel
theorem dX3_firstMend_49 : decode cX3_firstMend 49 = .ok (.invokevirtual 74, 3) := by decide +kernel
theorem dX3_firstMend_52 : decode cX3_firstMend 52 = .ok (.aload_n 1, 1) := by decide +kernel
theorem dX3_firstMend_53 : decode cX3_firstMend 53 = .ok (.getfield 118, 3) := by decide +kernel
theorem dX3_firstMend_56 : decode cX3_firstMend 56 = .ok (.invokevirtual 160, 3) := by decide +kernel
theorem dX3_firstMend_59 : decode cX3_firstMend 59 = .ok (.ireturn, 1) := by decide +kernel
theorem dX3_firstMend_60 : decode cX3_firstMend 60 = .ok (.aload_n 0, 1) := by decide +kernel
theorem dX3_firstMend_61 : decode cX3_firstMend 61 = .ok (.invokevirtual 74, 3) := by decide +kernel
theorem dX3_firstMend_64 : decode cX3_firstMend 64 = .ok (.aload_n 1, 1) := by decide +kernel
theorem dX3_firstMend_65 : decode cX3_firstMend 65 = .ok (.getfield 118, 3) := by decide +kernel
theorem dX3_firstMend_68 : decode cX3_firstMend 68 = .ok (.invokevirtual 190, 3) := by decide +kernel
theorem dX3_firstMend_71 : decode cX3_firstMend 71 = .ok (.ireturn, 1) := by decide +kernel
theorem dX3_firstMend_72 : decode cX3_firstMend 72 = .ok (.aload_n 0, 1) := by decide +kernel
theorem dX3_firstMend_73 : decode cX3_firstMend 73 = .ok (.invokevirtual 74, 3) := by decide +kernel
theorem dX3_firstMend_76 : decode cX3_firstMend 76 = .ok (.aload_n 1, 1) := by decide +kernel
theorem dX3_firstMend_77 : decode cX3_firstMend 77 = .ok (.getfield 118, 3) := by decide +kernel
theorem dX3_firstMend_80 : decode cX3_firstMend 80 = .ok (.aload_n 1, 1) := by decide +kernel
theorem dX3_firstMend_81 : decode cX3_firstMend 81 = .ok (.getfield 124, 3) := by decide +kernel
theorem dX3_firstMend_84 : decode cX3_firstMend 84 = .ok (.invokevirtual 82, 3) := by decide +kernel
theorem dX3_firstMend_87 : decode cX3_firstMend 87 = .ok (.ireturn, 1) := by decide +kernel
theorem dX3_firstMend_88 : decode cX3_firstMend 88 = .ok (.aload_n 0, 1) := by decide +kernel
theorem dX3_firstMend_89 : decode cX3_firstMend 89 = .ok (.invokevirtual 74, 3) := by decide +kernel
theorem dX3_firstMend_92 : decode cX3_firstMend 92 = .ok (.aload_n 1, 1) := by decide +kernel
theorem dX3_firstMend_93 : decode cX3_firstMend 93 = .ok (.getfield 118, 3) := by decide +kernel
theorem dX3_firstMend_96 : decode cX3_firstMend 96 = .ok (.invokevirtual 193, 3) := by decide +kernel
theorem dX3_firstMend_99 : decode cX3_firstMend 99 = .ok (.ireturn, 1) := by decide +kernel
theorem dX3_firstMend_100 : decode cX3_firstMend 100 = .ok (.ldc 99, 2) := by decide +kernel
theorem dX3_firstMend_102 : decode cX3_firstMend 102 = .ok (.ireturn, 1) := by decide +kernel
set_option maxRecDepth 20000 in
theorem ggX3_secondMend_X3_present : GoodIn wsX3_secondMend wsX3_present := goodIn_r _ [8, 9, 10, 11, 12, 13, 14, 15, 16, 17, 18, 19, 20, 21, 22, 23, 24, 25, 26, 27, 7, 28, 29, 30, 31, 32, 33, 34, 35, 36, 37, 38, 39, 40, 41, 42, 43, 44, 45, 46, 47, 48, 49, 50, 51, 52, 53, 54, 55, 56, 57, 58, 59, 60, 61, 62, 63, 64, 78, 79, 80, 81, 82, 83, 84, 85, 86, 87, 88] (by decide +kernel) (by decide +kernel)
set_option maxRecDepth 20000 in
theorem gX3_secondMend_X3_present : GoodIn wsX3_secondMend (wsV RX3 74 RX3 yX3_present wsX3_present) := goodIn_app (goodIn_of _ (by decide +kernel)) ggX3_secondMend_X3_present
set_option maxRecDepth 20000 in
theorem ggX3_secondMend_X2_most : GoodIn wsX3_secondMend wsX2_most := goodIn_r _ [68, 49, 69, 42, 39, 43, 70, 45, 46, 47, 48, 50, 88] (by decide +kernel) (by decide +kernel)
set_option maxRecDepth 20000 in
theorem gX3_secondMend_X2_most : GoodIn wsX3_secondMend (wsV RX3 196 RX2 yX2_most wsX2_most) := goodIn_app (goodIn_of _ (by decide +kernel)) ggX3_secondMend_X2_most
theorem dX3_secondMend_0 : decode cX3_secondMend 0 = .ok (.aload_n 1, 1) := by decide +kernel
theorem dX3_secondMend_1 : decode cX3_secondMend 1 = .ok (.getfield 121, 3) := by decide +kernel
theorem dX3_secondMend_4 : decode cX3_secondMend 4 = .ok (.ifCond .ne 17, 3) := by decide +kernel
theorem dX3_secondMend_7 : decode cX3_secondMend 7 = .ok (.aload_n 0, 1) := by decide +kernel
theorem dX3_secondMend_8 : decode cX3_secondMend 8 = .ok (.invokevirtual 74, 3) := by decide +kernel
theorem dX3_secondMend_11 : decode cX3_secondMend 11 = .ok (.aload_n 1, 1) := by decide +kernel
theorem dX3_secondMend_12 : decode cX3_secondMend 12 = .ok (.getfield 118, 3) := by decide +kernel
theorem dX3_secondMend_15 : decode cX3_secondMend 15 = .ok (.invokevirtual 196, 3) := by decide +kernel
theorem dX3_secondMend_18 : decode cX3_secondMend 18 = .ok (.goto 5, 3) := by decide +kernel
theorem dX3_secondMend_21 : decode cX3_secondMend 21 = .ok (.ldc 99, 2) := by decide +kernel
theorem dX3_secondMend_23 : decode cX3_secondMend 23 = .ok (.ireturn, 1) := by decide +kernel
set_option maxRecDepth 20000 in
theorem ggX3_fillListedHarms_X3_present : GoodIn wsX3_fillListedHarms wsX3_present := goodIn_r _ [8, 9, 10, 11, 12, 13, 14, 15, 16, 17, 18, 19, 20, 21, 22, 23, 24, 25, 26, 27, 7, 28, 29, 30, 31, 32, 33, 34, 35, 36, 37, 38, 39, 40, 41, 42, 43, 44, 45, 46, 47, 48, 49, 50, 51, 52, 53, 54, 55, 56, 57, 58, 59, 60, 61, 62, 63, 64, 85, 86, 87, 88, 89, 90, 91, 92, 100, 101, 102] (by decide +kernel) (by decide +kernel)
set_option maxRecDepth 20000 in
theorem gX3_fillListedHarms_X3_present : GoodIn wsX3_fillListedHarms (wsV RX3 74 RX3 yX3_present wsX3_present) := goodIn_app (goodIn_of _ (by decide +kernel)) ggX3_fillListedHarms_X3_present
set_option maxRecDepth 20000 in
theorem ggX3_fillListedHarms_X3_claimAt : GoodIn wsX3_fillListedHarms wsX3_claimAt := goodIn_r _ [68, 69, 1, 85, 86, 87, 88, 89, 90, 91, 92] (by decide +kernel) (by decide +kernel)
set_option maxRecDepth 20000 in
theorem gX3_fillListedHarms_X3_claimAt : GoodIn wsX3_fillListedHarms (wsV RX3 110 RX3 yX3_claimAt wsX3_claimAt) := goodIn_app (goodIn_of _ (by decide +kernel)) ggX3_fillListedHarms_X3_claimAt
set_option maxRecDepth 20000 in
theorem ggX3_fillListedHarms_X0_harmIn : GoodIn wsX3_fillListedHarms wsX0_harmIn := goodIn_r _ [74, 75, 76, 77, 73, 78, 79, 80, 81, 82, 83, 84, 45, 46, 47, 48, 49, 50, 93, 94, 95, 96, 97, 98, 99, 102] (by decide +kernel) (by decide +kernel)
set_option maxRecDepth 20000 in
theorem gX3_fillListedHarms_X0_harmIn : GoodIn wsX3_fillListedHarms (wsV RX3 130 RX0 yX0_harmIn wsX0_harmIn) := goodIn_app (goodIn_of _ (by decide +kernel)) ggX3_fillListedHarms_X0_harmIn
theorem dX3_fillListedHarms_0 : decode cX3_fillListedHarms 0 = .ok (.aload_n 0, 1) := by decide +kernel
theorem dX3_fillListedHarms_1 : decode cX3_fillListedHarms 1 = .ok (.invokevirtual 74, 3) := by decide +kernel
theorem dX3_fillListedHarms_4 : decode cX3_fillListedHarms 4 = .ok (.astore_n 1, 1) := by decide +kernel
theorem dX3_fillListedHarms_5 : decode cX3_fillListedHarms 5 = .ok (.iconst 0, 1) := by decide +kernel
theorem dX3_fillListedHarms_6 : decode cX3_fillListedHarms 6 = .ok (.istore_n 2, 1) := by decide +kernel
theorem dX3_fillListedHarms_7 : decode cX3_fillListedHarms 7 = .ok (.iload_n 2, 1) := by decide +kernel
theorem dX3_fillListedHarms_8 : decode cX3_fillListedHarms 8 = .ok (.aload_n 0, 1) := by decide +kernel
theorem dX3_fillListedHarms_9 : decode cX3_fillListedHarms 9 = .ok (.getfield 36, 3) := by decide +kernel
theorem dX3_fillListedHarms_12 : decode cX3_fillListedHarms 12 = .ok (.arraylength, 1) := by decide +kernel
theorem dX3_fillListedHarms_13 : decode cX3_fillListedHarms 13 = .ok (.if_icmp .ge 41, 3) := by decide +kernel
theorem dX3_fillListedHarms_16 : decode cX3_fillListedHarms 16 = .ok (.aload_n 0, 1) := by decide +kernel
theorem dX3_fillListedHarms_17 : decode cX3_fillListedHarms 17 = .ok (.iload_n 2, 1) := by decide +kernel
theorem dX3_fillListedHarms_18 : decode cX3_fillListedHarms 18 = .ok (.invokevirtual 110, 3) := by decide +kernel
theorem dX3_fillListedHarms_21 : decode cX3_fillListedHarms 21 = .ok (.astore_n 3, 1) := by decide +kernel
theorem dX3_fillListedHarms_22 : decode cX3_fillListedHarms 22 = .ok (.aload_n 0, 1) := by decide +kernel
theorem dX3_fillListedHarms_23 : decode cX3_fillListedHarms 23 = .ok (.getfield 43, 3) := by decide +kernel
theorem dX3_fillListedHarms_26 : decode cX3_fillListedHarms 26 = .ok (.iload_n 2, 1) := by decide +kernel
theorem dX3_fillListedHarms_27 : decode cX3_fillListedHarms 27 = .ok (.aload_n 3, 1) := by decide +kernel
theorem dX3_fillListedHarms_28 : decode cX3_fillListedHarms 28 = .ok (.ifnull 10, 3) := by decide +kernel
theorem dX3_fillListedHarms_31 : decode cX3_fillListedHarms 31 = .ok (.aload_n 3, 1) := by decide +kernel
theorem dX3_fillListedHarms_32 : decode cX3_fillListedHarms 32 = .ok (.getfield 134, 3) := by decide +kernel
theorem dX3_fillListedHarms_35 : decode cX3_fillListedHarms 35 = .ok (.ifCond .eq 7, 3) := by decide +kernel
theorem dX3_fillListedHarms_38 : decode cX3_fillListedHarms 38 = .ok (.iconst 0, 1) := by decide +kernel
theorem dX3_fillListedHarms_39 : decode cX3_fillListedHarms 39 = .ok (.goto 8, 3) := by decide +kernel
theorem dX3_fillListedHarms_42 : decode cX3_fillListedHarms 42 = .ok (.aload_n 3, 1) := by decide +kernel
theorem dX3_fillListedHarms_43 : decode cX3_fillListedHarms 43 = .ok (.aload_n 1, 1) := by decide +kernel
theorem dX3_fillListedHarms_44 : decode cX3_fillListedHarms 44 = .ok (.invokevirtual 130, 3) := by decide +kernel
theorem dX3_fillListedHarms_47 : decode cX3_fillListedHarms 47 = .ok (.iastore, 1) := by decide +kernel
theorem dX3_fillListedHarms_48 : decode cX3_fillListedHarms 48 = .ok (.iinc 2 1, 3) := by decide +kernel
theorem dX3_fillListedHarms_51 : decode cX3_fillListedHarms 51 = .ok (.goto (-44), 3) := by decide +kernel
theorem dX3_fillListedHarms_54 : decode cX3_fillListedHarms 54 = .ok (.return_, 1) := by decide +kernel
theorem dX3_listedAheadOf_0 : decode cX3_listedAheadOf 0 = .ok (.aload_n 0, 1) := by decide +kernel
theorem dX3_listedAheadOf_1 : decode cX3_listedAheadOf 1 = .ok (.getfield 43, 3) := by decide +kernel
theorem dX3_listedAheadOf_4 : decode cX3_listedAheadOf 4 = .ok (.iload_n 1, 1) := by decide +kernel
theorem dX3_listedAheadOf_5 : decode cX3_listedAheadOf 5 = .ok (.iaload, 1) := by decide +kernel
theorem dX3_listedAheadOf_6 : decode cX3_listedAheadOf 6 = .ok (.istore_n 2, 1) := by decide +kernel
theorem dX3_listedAheadOf_7 : decode cX3_listedAheadOf 7 = .ok (.iconst 0, 1) := by decide +kernel
theorem dX3_listedAheadOf_8 : decode cX3_listedAheadOf 8 = .ok (.istore_n 3, 1) := by decide +kernel
theorem dX3_listedAheadOf_9 : decode cX3_listedAheadOf 9 = .ok (.iconst 0, 1) := by decide +kernel
theorem dX3_listedAheadOf_10 : decode cX3_listedAheadOf 10 = .ok (.istore 4, 2) := by decide +kernel
theorem dX3_listedAheadOf_12 : decode cX3_listedAheadOf 12 = .ok (.iload 4, 2) := by decide +kernel
theorem dX3_listedAheadOf_14 : decode cX3_listedAheadOf 14 = .ok (.aload_n 0, 1) := by decide +kernel
theorem dX3_listedAheadOf_15 : decode cX3_listedAheadOf 15 = .ok (.getfield 40, 3) := by decide +kernel
theorem dX3_listedAheadOf_18 : decode cX3_listedAheadOf 18 = .ok (.if_icmp .ge 40, 3) := by decide +kernel
theorem dX3_listedAheadOf_21 : decode cX3_listedAheadOf 21 = .ok (.aload_n 0, 1) := by decide +kernel
theorem dX3_listedAheadOf_22 : decode cX3_listedAheadOf 22 = .ok (.getfield 43, 3) := by decide +kernel
theorem dX3_listedAheadOf_25 : decode cX3_listedAheadOf 25 = .ok (.iload 4, 2) := by decide +kernel
theorem dX3_listedAheadOf_27 : decode cX3_listedAheadOf 27 = .ok (.iaload, 1) := by decide +kernel
theorem dX3_listedAheadOf_28 : decode cX3_listedAheadOf 28 = .ok (.iload_n 2, 1) := by decide +kernel
theorem dX3_listedAheadOf_29 : decode cX3_listedAheadOf 29 = .ok (.if_icmp .gt 20, 3) := by decide +kernel
theorem dX3_listedAheadOf_32 : decode cX3_listedAheadOf 32 = .ok (.aload_n 0, 1) := by decide +kernel
theorem dX3_listedAheadOf_33 : decode cX3_listedAheadOf 33 = .ok (.getfield 43, 3) := by decide +kernel
theorem dX3_listedAheadOf_36 : decode cX3_listedAheadOf 36 = .ok (.iload 4, 2) := by decide +kernel
theorem dX3_listedAheadOf_38 : decode cX3_listedAheadOf 38 = .ok (.iaload, 1) := by decide +kernel
theorem dX3_listedAheadOf_39 : decode cX3_listedAheadOf 39 = .ok (.iload_n 2, 1) := by decide +kernel
theorem dX3_listedAheadOf_40 : decode cX3_listedAheadOf 40 = .ok (.if_icmp .ne 12, 3) := by decide +kernel
theorem dX3_listedAheadOf_43 : decode cX3_listedAheadOf 43 = .ok (.iload 4, 2) := by decide +kernel
theorem dX3_listedAheadOf_45 : decode cX3_listedAheadOf 45 = .ok (.iload_n 1, 1) := by decide +kernel
theorem dX3_listedAheadOf_46 : decode cX3_listedAheadOf 46 = .ok (.if_icmp .ge 6, 3) := by decide +kernel
theorem dX3_listedAheadOf_49 : decode cX3_listedAheadOf 49 = .ok (.iinc 3 1, 3) := by decide +kernel
theorem dX3_listedAheadOf_52 : decode cX3_listedAheadOf 52 = .ok (.iinc 4 1, 3) := by decide +kernel
theorem dX3_listedAheadOf_55 : decode cX3_listedAheadOf 55 = .ok (.goto (-43), 3) := by decide +kernel
theorem dX3_listedAheadOf_58 : decode cX3_listedAheadOf 58 = .ok (.iload_n 3, 1) := by decide +kernel
theorem dX3_listedAheadOf_59 : decode cX3_listedAheadOf 59 = .ok (.ireturn, 1) := by decide +kernel
theorem dX3_hasClaim_0 : decode cX3_hasClaim 0 = .ok (.iconst 0, 1) := by decide +kernel
theorem dX3_hasClaim_1 : decode cX3_hasClaim 1 = .ok (.istore_n 3, 1) := by decide +kernel
theorem dX3_hasClaim_2 : decode cX3_hasClaim 2 = .ok (.iload_n 3, 1) := by decide +kernel
theorem dX3_hasClaim_3 : decode cX3_hasClaim 3 = .ok (.aload_n 0, 1) := by decide +kernel
theorem dX3_hasClaim_4 : decode cX3_hasClaim 4 = .ok (.getfield 40, 3) := by decide +kernel
theorem dX3_hasClaim_7 : decode cX3_hasClaim 7 = .ok (.if_icmp .ge 46, 3) := by decide +kernel
theorem dX3_hasClaim_10 : decode cX3_hasClaim 10 = .ok (.aload_n 0, 1) := by decide +kernel
theorem dX3_hasClaim_11 : decode cX3_hasClaim 11 = .ok (.getfield 36, 3) := by decide +kernel
theorem dX3_hasClaim_14 : decode cX3_hasClaim 14 = .ok (.iload_n 3, 1) := by decide +kernel
theorem dX3_hasClaim_15 : decode cX3_hasClaim 15 = .ok (.aaload, 1) := by decide +kernel
theorem dX3_hasClaim_16 : decode cX3_hasClaim 16 = .ok (.astore 4, 2) := by decide +kernel
theorem dX3_hasClaim_18 : decode cX3_hasClaim 18 = .ok (.aload 4, 2) := by decide +kernel
theorem dX3_hasClaim_20 : decode cX3_hasClaim 20 = .ok (.ifnull 27, 3) := by decide +kernel
theorem dX3_hasClaim_23 : decode cX3_hasClaim 23 = .ok (.aload 4, 2) := by decide +kernel
theorem dX3_hasClaim_25 : decode cX3_hasClaim 25 = .ok (.getfield 118, 3) := by decide +kernel
theorem dX3_hasClaim_28 : decode cX3_hasClaim 28 = .ok (.iload_n 1, 1) := by decide +kernel
theorem dX3_hasClaim_29 : decode cX3_hasClaim 29 = .ok (.if_icmp .ne 18, 3) := by decide +kernel
theorem dX3_hasClaim_32 : decode cX3_hasClaim 32 = .ok (.iload_n 2, 1) := by decide +kernel
theorem dX3_hasClaim_33 : decode cX3_hasClaim 33 = .ok (.aload 4, 2) := by decide +kernel
theorem dX3_hasClaim_35 : decode cX3_hasClaim 35 = .ok (.getfield 121, 3) := by decide +kernel
theorem dX3_hasClaim_38 : decode cX3_hasClaim 38 = .ok (.ishr, 1) := by decide +kernel
theorem dX3_hasClaim_39 : decode cX3_hasClaim 39 = .ok (.iconst 1, 1) := by decide +kernel
theorem dX3_hasClaim_40 : decode cX3_hasClaim 40 = .ok (.iand, 1) := by decide +kernel
theorem dX3_hasClaim_41 : decode cX3_hasClaim 41 = .ok (.iconst 1, 1) := by decide +kernel
theorem dX3_hasClaim_42 : decode cX3_hasClaim 42 = .ok (.if_icmp .ne 5, 3) := by decide +kernel
theorem dX3_hasClaim_45 : decode cX3_hasClaim 45 = .ok (.iconst 1, 1) := by decide +kernel
theorem dX3_hasClaim_46 : decode cX3_hasClaim 46 = .ok (.ireturn, 1) := by decide +kernel
theorem dX3_hasClaim_47 : decode cX3_hasClaim 47 = .ok (.iinc 3 1, 3) := by decide +kernel
theorem dX3_hasClaim_50 : decode cX3_hasClaim 50 = .ok (.goto (-48), 3) := by decide +kernel
theorem dX3_hasClaim_53 : decode cX3_hasClaim 53 = .ok (.iconst 0, 1) := by decide +kernel
theorem dX3_hasClaim_54 : decode cX3_hasClaim 54 = .ok (.ireturn, 1) := by decide +kernel
set_option maxRecDepth 20000 in
theorem ggX3_howManyStand_X3_present : GoodIn wsX3_howManyStand wsX3_present := goodIn_r _ [7, 8, 9, 10, 11, 12, 13, 14, 15, 16, 17, 18, 19, 20, 21, 22, 23, 24, 25, 26, 6, 27, 28, 29, 30, 31, 32, 33, 34, 35, 36, 37, 38, 39, 40, 41, 42, 43, 44, 45, 46, 47, 48, 49, 50, 51, 52, 53, 54, 55, 56, 57, 58, 59, 60, 61, 62, 63, 87, 88, 89, 90, 91, 92, 93, 94, 95, 96, 97] (by decide +kernel) (by decide +kernel)
set_option maxRecDepth 20000 in
theorem gX3_howManyStand_X3_present : GoodIn wsX3_howManyStand (wsV RX3 74 RX3 yX3_present wsX3_present) := goodIn_app (goodIn_of _ (by decide +kernel)) ggX3_howManyStand_X3_present
set_option maxRecDepth 20000 in
theorem ggX3_howManyStand_X3_standing : GoodIn wsX3_howManyStand wsX3_standing := goodIn_r _ [66, 67, 68, 69, 70, 71, 72, 73, 74, 75, 76, 77, 78, 79, 80, 81, 82, 83, 84, 85, 86, 44, 45, 46, 47, 48, 49, 98, 99, 100, 101, 102, 103, 104, 97] (by decide +kernel) (by decide +kernel)
set_option maxRecDepth 20000 in
theorem gX3_howManyStand_X3_standing : GoodIn wsX3_howManyStand (va_wsS RX3 114 yX3_standing wsX3_standing) := goodIn_app (goodIn_of _ (by decide +kernel)) ggX3_howManyStand_X3_standing
theorem dX3_howManyStand_0 : decode cX3_howManyStand 0 = .ok (.aload_n 0, 1) := by decide +kernel
theorem dX3_howManyStand_1 : decode cX3_howManyStand 1 = .ok (.invokevirtual 74, 3) := by decide +kernel
theorem dX3_howManyStand_4 : decode cX3_howManyStand 4 = .ok (.astore_n 2, 1) := by decide +kernel
theorem dX3_howManyStand_5 : decode cX3_howManyStand 5 = .ok (.iconst 0, 1) := by decide +kernel
theorem dX3_howManyStand_6 : decode cX3_howManyStand 6 = .ok (.istore_n 3, 1) := by decide +kernel
theorem dX3_howManyStand_7 : decode cX3_howManyStand 7 = .ok (.iconst 0, 1) := by decide +kernel
theorem dX3_howManyStand_8 : decode cX3_howManyStand 8 = .ok (.istore 4, 2) := by decide +kernel
theorem dX3_howManyStand_10 : decode cX3_howManyStand 10 = .ok (.iload 4, 2) := by decide +kernel
theorem dX3_howManyStand_12 : decode cX3_howManyStand 12 = .ok (.aload_n 0, 1) := by decide +kernel
theorem dX3_howManyStand_13 : decode cX3_howManyStand 13 = .ok (.getfield 40, 3) := by decide +kernel
theorem dX3_howManyStand_16 : decode cX3_howManyStand 16 = .ok (.if_icmp .ge 36, 3) := by decide +kernel
theorem dX3_howManyStand_19 : decode cX3_howManyStand 19 = .ok (.aload_n 0, 1) := by decide +kernel
theorem dX3_howManyStand_20 : decode cX3_howManyStand 20 = .ok (.getfield 36, 3) := by decide +kernel
theorem dX3_howManyStand_23 : decode cX3_howManyStand 23 = .ok (.iload 4, 2) := by decide +kernel
theorem dX3_howManyStand_25 : decode cX3_howManyStand 25 = .ok (.aaload, 1) := by decide +kernel
theorem dX3_howManyStand_26 : decode cX3_howManyStand 26 = .ok (.astore 5, 2) := by decide +kernel
theorem dX3_howManyStand_28 : decode cX3_howManyStand 28 = .ok (.aload 5, 2) := by decide +kernel
theorem dX3_howManyStand_30 : decode cX3_howManyStand 30 = .ok (.ifnull 16, 3) := by decide +kernel
theorem dX3_howManyStand_33 : decode cX3_howManyStand 33 = .ok (.aload 5, 2) := by decide +kernel
theorem dX3_howManyStand_35 : decode cX3_howManyStand 35 = .ok (.aload_n 2, 1) := by decide +kernel
theorem dX3_howManyStand_36 : decode cX3_howManyStand 36 = .ok (.invokestatic 114, 3) := by decide +kernel
theorem dX3_howManyStand_39 : decode cX3_howManyStand 39 = .ok (.iload_n 1, 1) := by decide +kernel
theorem dX3_howManyStand_40 : decode cX3_howManyStand 40 = .ok (.if_icmp .ne 6, 3) := by decide +kernel
theorem dX3_howManyStand_43 : decode cX3_howManyStand 43 = .ok (.iinc 3 1, 3) := by decide +kernel
theorem dX3_howManyStand_46 : decode cX3_howManyStand 46 = .ok (.iinc 4 1, 3) := by decide +kernel
theorem dX3_howManyStand_49 : decode cX3_howManyStand 49 = .ok (.goto (-39), 3) := by decide +kernel
theorem dX3_howManyStand_52 : decode cX3_howManyStand 52 = .ok (.iload_n 3, 1) := by decide +kernel
theorem dX3_howManyStand_53 : decode cX3_howManyStand 53 = .ok (.ireturn, 1) := by decide +kernel
theorem dX3_howManyMarked_0 : decode cX3_howManyMarked 0 = .ok (.iconst 0, 1) := by decide +kernel
theorem dX3_howManyMarked_1 : decode cX3_howManyMarked 1 = .ok (.istore_n 1, 1) := by decide +kernel
theorem dX3_howManyMarked_2 : decode cX3_howManyMarked 2 = .ok (.iconst 0, 1) := by decide +kernel
theorem dX3_howManyMarked_3 : decode cX3_howManyMarked 3 = .ok (.istore_n 2, 1) := by decide +kernel
theorem dX3_howManyMarked_4 : decode cX3_howManyMarked 4 = .ok (.iload_n 2, 1) := by decide +kernel
theorem dX3_howManyMarked_5 : decode cX3_howManyMarked 5 = .ok (.aload_n 0, 1) := by decide +kernel
theorem dX3_howManyMarked_6 : decode cX3_howManyMarked 6 = .ok (.getfield 40, 3) := by decide +kernel
theorem dX3_howManyMarked_9 : decode cX3_howManyMarked 9 = .ok (.if_icmp .ge 30, 3) := by decide +kernel
theorem dX3_howManyMarked_12 : decode cX3_howManyMarked 12 = .ok (.aload_n 0, 1) := by decide +kernel
theorem dX3_howManyMarked_13 : decode cX3_howManyMarked 13 = .ok (.getfield 36, 3) := by decide +kernel
theorem dX3_howManyMarked_16 : decode cX3_howManyMarked 16 = .ok (.iload_n 2, 1) := by decide +kernel
theorem dX3_howManyMarked_17 : decode cX3_howManyMarked 17 = .ok (.aaload, 1) := by decide +kernel
theorem dX3_howManyMarked_18 : decode cX3_howManyMarked 18 = .ok (.astore_n 3, 1) := by decide +kernel
theorem dX3_howManyMarked_19 : decode cX3_howManyMarked 19 = .ok (.aload_n 3, 1) := by decide +kernel
theorem dX3_howManyMarked_20 : decode cX3_howManyMarked 20 = .ok (.ifnull 13, 3) := by decide +kernel
theorem dX3_howManyMarked_23 : decode cX3_howManyMarked 23 = .ok (.aload_n 3, 1) := by decide +kernel
theorem dX3_howManyMarked_24 : decode cX3_howManyMarked 24 = .ok (.getfield 134, 3) := by decide +kernel
theorem dX3_howManyMarked_27 : decode cX3_howManyMarked 27 = .ok (.ifCond .eq 6, 3) := by decide +kernel
theorem dX3_howManyMarked_30 : decode cX3_howManyMarked 30 = .ok (.iinc 1 1, 3) := by decide +kernel
theorem dX3_howManyMarked_33 : decode cX3_howManyMarked 33 = .ok (.iinc 2 1, 3) := by decide +kernel
theorem dX3_howManyMarked_36 : decode cX3_howManyMarked 36 = .ok (.goto (-32), 3) := by decide +kernel
theorem dX3_howManyMarked_39 : decode cX3_howManyMarked 39 = .ok (.iload_n 1, 1) := by decide +kernel
theorem dX3_howManyMarked_40 : decode cX3_howManyMarked 40 = .ok (.ireturn, 1) := by decide +kernel
end
section
theorem dX4_init_0 : decode cX4_init 0 = .ok (.aload_n 0, 1) := by decide +kernel
theorem dX4_init_1 : decode cX4_init 1 = .ok (.invokespecial 1, 3) := by decide +kernel
theorem dX4_init_4 : decode cX4_init 4 = .ok (.aload_n 0, 1) := by decide +kernel
theorem dX4_init_5 : decode cX4_init 5 = .ok (.bipush 6, 2) := by decide +kernel
theorem dX4_init_7 : decode cX4_init 7 = .ok (.newarray .int, 2) := by decide +kernel
theorem dX4_init_9 : decode cX4_init 9 = .ok (.putfield 9, 3) := by decide +kernel
theorem dX4_init_12 : decode cX4_init 12 = .ok (.aload_n 0, 1) := by decide +kernel
theorem dX4_init_13 : decode cX4_init 13 = .ok (.bipush 72, 2) := by decide +kernel
theorem dX4_init_15 : decode cX4_init 15 = .ok (.newarray .int, 2) := by decide +kernel
theorem dX4_init_17 : decode cX4_init 17 = .ok (.putfield 13, 3) := by decide +kernel
theorem dX4_init_20 : decode cX4_init 20 = .ok (.aload_n 0, 1) := by decide +kernel
theorem dX4_init_21 : decode cX4_init 21 = .ok (.ldc 16, 2) := by decide +kernel
theorem dX4_init_23 : decode cX4_init 23 = .ok (.newarray .int, 2) := by decide +kernel
theorem dX4_init_25 : decode cX4_init 25 = .ok (.putfield 17, 3) := by decide +kernel
theorem dX4_init_28 : decode cX4_init 28 = .ok (.aload_n 0, 1) := by decide +kernel
theorem dX4_init_29 : decode cX4_init 29 = .ok (.bipush 40, 2) := by decide +kernel
theorem dX4_init_31 : decode cX4_init 31 = .ok (.newarray .int, 2) := by decide +kernel
theorem dX4_init_33 : decode cX4_init 33 = .ok (.putfield 20, 3) := by decide +kernel
theorem dX4_init_36 : decode cX4_init 36 = .ok (.aload_n 0, 1) := by decide +kernel
theorem dX4_init_37 : decode cX4_init 37 = .ok (.bipush 40, 2) := by decide +kernel
theorem dX4_init_39 : decode cX4_init 39 = .ok (.newarray .int, 2) := by decide +kernel
theorem dX4_init_41 : decode cX4_init 41 = .ok (.putfield 23, 3) := by decide +kernel
theorem dX4_init_44 : decode cX4_init 44 = .ok (.aload_n 0, 1) := by decide +kernel
theorem dX4_init_45 : decode cX4_init 45 = .ok (.bipush 40, 2) := by decide +kernel
theorem dX4_init_47 : decode cX4_init 47 = .ok (.newarray .int, 2) := by decide +kernel
theorem dX4_init_49 : decode cX4_init 49 = .ok (.putfield 26, 3) := by decide +kernel
theorem dX4_init_52 : decode cX4_init 52 = .ok (.aload_n 0, 1) := by decide +kernel
theorem dX4_init_53 : decode cX4_init 53 = .ok (.bipush 40, 2) := by decide +kernel
theorem dX4_init_55 : decode cX4_init 55 = .ok (.newarray .int, 2) := by decide +kernel
theorem dX4_init_57 : decode cX4_init 57 = .ok (.putfield 29, 3) := by decide +kernel
theorem dX4_init_60 : decode cX4_init 60 = .ok (.aload_n 0, 1) := by decide +kernel
theorem dX4_init_61 : decode cX4_init 61 = .ok (.bipush 40, 2) := by decide +kernel
theorem dX4_init_63 : decode cX4_init 63 = .ok (.newarray .int, 2) := by decide +kernel
theorem dX4_init_65 : decode cX4_init 65 = .ok (.putfield 32, 3) := by decide +kernel
theorem dX4_init_68 : decode cX4_init 68 = .ok (.aload_n 0, 1) := by decide +kernel
theorem dX4_init_69 : decode cX4_init 69 = .ok (.bipush 40, 2) := by decide +kernel
theorem dX4_init_71 : decode cX4_init 71 = .ok (.newarray .boolean, 2) := by decide +kernel
theorem dX4_init_73 : decode cX4_init 73 = .ok (.putfield 35, 3) := by decide +kernel
theorem dX4_init_76 : decode cX4_init 76 = .ok (.aload_n 0, 1) := by decide +kernel
theorem dX4_init_77 : decode cX4_init 77 = .ok (.bipush 40, 2) := by decide +kernel
theorem dX4_init_79 : decode cX4_init 79 = .ok (.newarray .int, 2) := by decide +kernel
theorem dX4_init_81 : decode cX4_init 81 = .ok (.putfield 39, 3) := by decide +kernel
theorem dX4_init_84 : decode cX4_init 84 = .ok (.return_, 1) := by decide +kernel
theorem dX4_in_0 : decode cX4_in 0 = .ok (.iload_n 0, 1) := by decide +kernel
theorem dX4_in_1 : decode cX4_in 1 = .ok (.iload_n 1, 1) := by decide +kernel
theorem dX4_in_2 : decode cX4_in 2 = .ok (.if_icmp .lt 12, 3) := by decide +kernel
theorem dX4_in_5 : decode cX4_in 5 = .ok (.iload_n 0, 1) := by decide +kernel
theorem dX4_in_6 : decode cX4_in 6 = .ok (.iload_n 2, 1) := by decide +kernel
theorem dX4_in_7 : decode cX4_in 7 = .ok (.if_icmp .gt 7, 3) := by decide +kernel
theorem dX4_in_10 : decode cX4_in 10 = .ok (.iconst 1, 1) := by decide +kernel
theorem dX4_in_11 : decode cX4_in 11 = .ok (.goto 4, 3) := by decide +kernel
theorem dX4_in_14 : decode cX4_in 14 = .ok (.iconst 0, 1) := by decide +kernel
theorem dX4_in_15 : decode cX4_in 15 = .ok (.ireturn, 1) := by decide +kernel
set_option maxRecDepth 20000 in
theorem ggX4_isFunction_X4_in : GoodIn wsX4_isFunction wsX4_in := goodIn_r _ [4] (by decide +kernel) (by decide +kernel)
set_option maxRecDepth 20000 in
theorem gX4_isFunction_X4_in : GoodIn wsX4_isFunction (va_wsS RX4 42 yX4_in wsX4_in) := goodIn_app (goodIn_of _ (by decide +kernel)) ggX4_isFunction_X4_in
theorem dX4_isFunction_0 : decode cX4_isFunction 0 = .ok (.iload_n 0, 1) := by decide +kernel
theorem dX4_isFunction_1 : decode cX4_isFunction 1 = .ok (.iconst 0, 1) := by decide +kernel
theorem dX4_isFunction_2 : decode cX4_isFunction 2 = .ok (.iconst 5, 1) := by decide +kernel
theorem dX4_isFunction_3 : decode cX4_isFunction 3 = .ok (.invokestatic 42, 3) := by decide +kernel
theorem dX4_isFunction_6 : decode cX4_isFunction 6 = .ok (.ireturn, 1) := by decide +kernel
theorem dX4_canBe_0 : decode cX4_canBe 0 = .ok (.iload_n 3, 1) := by decide +kernel
theorem dX4_canBe_1 : decode cX4_canBe 1 = .ok (.sipush 1000, 3) := by decide +kernel
theorem dX4_canBe_4 : decode cX4_canBe 4 = .ok (.idiv, 1) := by decide +kernel
theorem dX4_canBe_5 : decode cX4_canBe 5 = .ok (.istore 4, 2) := by decide +kernel
theorem dX4_canBe_7 : decode cX4_canBe 7 = .ok (.iload_n 3, 1) := by decide +kernel
theorem dX4_canBe_8 : decode cX4_canBe 8 = .ok (.sipush 1000, 3) := by decide +kernel
theorem dX4_canBe_11 : decode cX4_canBe 11 = .ok (.irem, 1) := by decide +kernel
theorem dX4_canBe_12 : decode cX4_canBe 12 = .ok (.istore 5, 2) := by decide +kernel
theorem dX4_canBe_14 : decode cX4_canBe 14 = .ok (.iload_n 3, 1) := by decide +kernel
theorem dX4_canBe_15 : decode cX4_canBe 15 = .ok (.ifCond .lt 35, 3) := by decide +kernel
theorem dX4_canBe_18 : decode cX4_canBe 18 = .ok (.iload 4, 2) := by decide +kernel
theorem dX4_canBe_20 : decode cX4_canBe 20 = .ok (.bipush 10, 2) := by decide +kernel
theorem dX4_canBe_22 : decode cX4_canBe 22 = .ok (.if_icmp .gt 28, 3) := by decide +kernel
theorem dX4_canBe_25 : decode cX4_canBe 25 = .ok (.iload 4, 2) := by decide +kernel
theorem dX4_canBe_27 : decode cX4_canBe 27 = .ok (.bipush 9, 2) := by decide +kernel
theorem dX4_canBe_29 : decode cX4_canBe 29 = .ok (.if_icmp .ne 9, 3) := by decide +kernel
theorem dX4_canBe_32 : decode cX4_canBe 32 = .ok (.iload 5, 2) := by decide +kernel
theorem dX4_canBe_34 : decode cX4_canBe 34 = .ok (.iload_n 1, 1) := by decide +kernel
theorem dX4_canBe_35 : decode cX4_canBe 35 = .ok (.if_icmp .ge 15, 3) := by decide +kernel
theorem dX4_canBe_38 : decode cX4_canBe 38 = .ok (.iload 4, 2) := by decide +kernel
theorem dX4_canBe_40 : decode cX4_canBe 40 = .ok (.bipush 10, 2) := by decide +kernel
theorem dX4_canBe_42 : decode cX4_canBe 42 = .ok (.if_icmp .ne 10, 3) := by decide +kernel
theorem dX4_canBe_45 : decode cX4_canBe 45 = .ok (.iload 5, 2) := by decide +kernel
theorem dX4_canBe_47 : decode cX4_canBe 47 = .ok (.ifCond .ne 5, 3) := by decide +kernel
theorem dX4_canBe_50 : decode cX4_canBe 50 = .ok (.iconst 0, 1) := by decide +kernel
theorem dX4_canBe_51 : decode cX4_canBe 51 = .ok (.ireturn, 1) := by decide +kernel
theorem dX4_canBe_52 : decode cX4_canBe 52 = .ok (.iload 4, 2) := by decide +kernel
theorem dX4_canBe_54 : decode cX4_canBe 54 = .ok (.bipush 9, 2) := by decide +kernel
theorem dX4_canBe_56 : decode cX4_canBe 56 = .ok (.if_icmp .ne 7, 3) := by decide +kernel
theorem dX4_canBe_59 : decode cX4_canBe 59 = .ok (.iconst 1, 1) := by decide +kernel
theorem dX4_canBe_60 : decode cX4_canBe 60 = .ok (.goto 4, 3) := by decide +kernel
theorem dX4_canBe_63 : decode cX4_canBe 63 = .ok (.iconst 0, 1) := by decide +kernel
theorem dX4_canBe_64 : decode cX4_canBe 64 = .ok (.istore 6, 2) := by decide +kernel
theorem dX4_canBe_66 : decode cX4_canBe 66 = .ok (.iconst 0, 1) := by decide +kernel
theorem dX4_canBe_67 : decode cX4_canBe 67 = .ok (.istore 7, 2) := by decide +kernel
theorem dX4_canBe_69 : decode cX4_canBe 69 = .ok (.iload 7, 2) := by decide +kernel
theorem dX4_canBe_71 : decode cX4_canBe 71 = .ok (.aload_n 0, 1) := by decide +kernel
theorem dX4_canBe_72 : decode cX4_canBe 72 = .ok (.getfield 9, 3) := by decide +kernel
theorem dX4_canBe_75 : decode cX4_canBe 75 = .ok (.iload_n 1, 1) := by decide +kernel
theorem dX4_canBe_76 : decode cX4_canBe 76 = .ok (.iaload, 1) := by decide +kernel
theorem dX4_canBe_77 : decode cX4_canBe 77 = .ok (.if_icmp .ge 46, 3) := by decide +kernel
theorem dX4_canBe_80 : decode cX4_canBe 80 = .ok (.iload 6, 2) := by decide +kernel
theorem dX4_canBe_82 : decode cX4_canBe 82 = .ok (.iload 7, 2) := by decide +kernel
theorem dX4_canBe_84 : decode cX4_canBe 84 = .ok (.iload_n 2, 1) := by decide +kernel
theorem dX4_canBe_85 : decode cX4_canBe 85 = .ok (.if_icmp .eq 28, 3) := by decide +kernel
theorem dX4_canBe_88 : decode cX4_canBe 88 = .ok (.aload_n 0, 1) := by decide +kernel
theorem dX4_canBe_89 : decode cX4_canBe 89 = .ok (.getfield 13, 3) := by decide +kernel
theorem dX4_canBe_92 : decode cX4_canBe 92 = .ok (.bipush 12, 2) := by decide +kernel
theorem dX4_canBe_94 : decode cX4_canBe 94 = .ok (.iload_n 1, 1) := by decide +kernel
theorem dX4_canBe_95 : decode cX4_canBe 95 = .ok (.imul, 1) := by decide +kernel
theorem dX4_canBe_96 : decode cX4_canBe 96 = .ok (.iload 7, 2) := by decide +kernel
theorem dX4_canBe_98 : decode cX4_canBe 98 = .ok (.iadd, 1) := by decide +kernel
theorem dX4_canBe_99 : decode cX4_canBe 99 = .ok (.iaload, 1) := by decide +kernel
theorem dX4_canBe_100 : decode cX4_canBe 100 = .ok (.sipush 1000, 3) := by decide +kernel
theorem dX4_canBe_103 : decode cX4_canBe 103 = .ok (.idiv, 1) := by decide +kernel
theorem dX4_canBe_104 : decode cX4_canBe 104 = .ok (.bipush 9, 2) := by decide +kernel
theorem dX4_canBe_106 : decode cX4_canBe 106 = .ok (.if_icmp .ne 7, 3) := by decide +kernel
theorem dX4_canBe_109 : decode cX4_canBe 109 = .ok (.iconst 1, 1) := by decide +kernel
theorem dX4_canBe_110 : decode cX4_canBe 110 = .ok (.goto 4, 3) := by decide +kernel
theorem dX4_canBe_113 : decode cX4_canBe 113 = .ok (.iconst 0, 1) := by decide +kernel
theorem dX4_canBe_114 : decode cX4_canBe 114 = .ok (.iadd, 1) := by decide +kernel
theorem dX4_canBe_115 : decode cX4_canBe 115 = .ok (.istore 6, 2) := by decide +kernel
theorem dX4_canBe_117 : decode cX4_canBe 117 = .ok (.iinc 7 1, 3) := by decide +kernel
theorem dX4_canBe_120 : decode cX4_canBe 120 = .ok (.goto (-51), 3) := by decide +kernel
theorem dX4_canBe_123 : decode cX4_canBe 123 = .ok (.iload 4, 2) := by decide +kernel
theorem dX4_canBe_125 : decode cX4_canBe 125 = .ok (.bipush 9, 2) := by decide +kernel
theorem dX4_canBe_127 : decode cX4_canBe 127 = .ok (.if_icmp .ne 9, 3) := by decide +kernel
theorem dX4_canBe_130 : decode cX4_canBe 130 = .ok (.iload 6, 2) := by decide +kernel
theorem dX4_canBe_132 : decode cX4_canBe 132 = .ok (.iconst 2, 1) := by decide +kernel
theorem dX4_canBe_133 : decode cX4_canBe 133 = .ok (.if_icmp .gt 7, 3) := by decide +kernel
theorem dX4_canBe_136 : decode cX4_canBe 136 = .ok (.iconst 1, 1) := by decide +kernel
theorem dX4_canBe_137 : decode cX4_canBe 137 = .ok (.goto 4, 3) := by decide +kernel
theorem dX4_canBe_140 : decode cX4_canBe 140 = .ok (.iconst 0, 1) := by decide +kernel
theorem dX4_canBe_141 : decode cX4_canBe 141 = .ok (.ireturn, 1) := by decide +kernel
set_option maxRecDepth 20000 in
theorem ggX4_clear_X4_isFunction : GoodIn wsX4_clear wsX4_isFunction := goodIn_r _ [5, 6, 7, 4, 8] (by decide +kernel) (by decide +kernel)
set_option maxRecDepth 20000 in
theorem gX4_clear_X4_isFunction : GoodIn wsX4_clear (va_wsS RX4 46 yX4_isFunction wsX4_isFunction) := goodIn_app (goodIn_of _ (by decide +kernel)) ggX4_clear_X4_isFunction
set_option maxRecDepth 20000 in
theorem ggX4_clear_X4_runs : GoodIn wsX4_clear wsX4_runs := goodIn_r _ [12, 13, 14, 15, 4, 16, 17, 18, 19, 20, 1, 21, 22, 23, 24, 25, 26, 27, 28, 29, 30, 31, 32, 33, 34, 35, 36, 37, 38] (by decide +kernel) (by decide +kernel)
set_option maxRecDepth 20000 in
theorem gX4_clear_X4_runs : GoodIn wsX4_clear (wsV RX4 50 RX4 yX4_runs wsX4_runs) := goodIn_app (goodIn_of _ (by decide +kernel)) ggX4_clear_X4_runs
theorem dX4_clear_0 : decode cX4_clear 0 = .ok (.iload_n 1, 1) := by decide +kernel
theorem dX4_clear_1 : decode cX4_clear 1 = .ok (.invokestatic 46, 3) := by decide +kernel
theorem dX4_clear_4 : decode cX4_clear 4 = .ok (.ifCond .ne 5, 3) := by decide +kernel
theorem dX4_clear_7 : decode cX4_clear 7 = .ok (.iconst 0, 1) := by decide +kernel
theorem dX4_clear_8 : decode cX4_clear 8 = .ok (.ireturn, 1) := by decide +kernel
theorem dX4_clear_9 : decode cX4_clear 9 = .ok (.aload_n 0, 1) := by decide +kernel
theorem dX4_clear_10 : decode cX4_clear 10 = .ok (.getfield 9, 3) := by decide +kernel
theorem dX4_clear_13 : decode cX4_clear 13 = .ok (.iload_n 1, 1) := by decide +kernel
theorem dX4_clear_14 : decode cX4_clear 14 = .ok (.iconst 0, 1) := by decide +kernel
theorem dX4_clear_15 : decode cX4_clear 15 = .ok (.iastore, 1) := by decide +kernel
theorem dX4_clear_16 : decode cX4_clear 16 = .ok (.aload_n 0, 1) := by decide +kernel
theorem dX4_clear_17 : decode cX4_clear 17 = .ok (.invokevirtual 50, 3) := by decide +kernel
theorem dX4_clear_20 : decode cX4_clear 20 = .ok (.iconst 1, 1) := by decide +kernel
theorem dX4_clear_21 : decode cX4_clear 21 = .ok (.ireturn, 1) := by decide +kernel
set_option maxRecDepth 20000 in
theorem ggX4_step_X4_isFunction : GoodIn wsX4_step wsX4_isFunction := goodIn_r _ [6, 7, 8, 5, 9] (by decide +kernel) (by decide +kernel)
set_option maxRecDepth 20000 in
theorem gX4_step_X4_isFunction : GoodIn wsX4_step (va_wsS RX4 46 yX4_isFunction wsX4_isFunction) := goodIn_app (goodIn_of _ (by decide +kernel)) ggX4_step_X4_isFunction
set_option maxRecDepth 20000 in
theorem ggX4_step_X4_canBe : GoodIn wsX4_step wsX4_canBe := goodIn_r _ [13, 1, 2, 29, 30, 31, 32, 33, 34, 35, 36, 37, 38, 39, 40, 41, 42] (by decide +kernel) (by decide +kernel)
set_option maxRecDepth 20000 in
theorem gX4_step_X4_canBe : GoodIn wsX4_step (wsV RX4 53 RX4 yX4_canBe wsX4_canBe) := goodIn_app (goodIn_of _ (by decide +kernel)) ggX4_step_X4_canBe
set_option maxRecDepth 20000 in
theorem ggX4_step_X4_runs : GoodIn wsX4_step wsX4_runs := goodIn_r _ [17, 18, 19, 20, 5, 21, 22, 23, 24, 25, 1, 2, 26, 27, 28, 29, 30, 31, 32, 33, 34, 35, 36, 37, 38, 39, 40, 41, 42] (by decide +kernel) (by decide +kernel)
set_option maxRecDepth 20000 in
theorem gX4_step_X4_runs : GoodIn wsX4_step (wsV RX4 50 RX4 yX4_runs wsX4_runs) := goodIn_app (goodIn_of _ (by decide +kernel)) ggX4_step_X4_runs
theorem dX4_step_0 : decode cX4_step 0 = .ok (.iload_n 1, 1) := by decide +kernel
theorem dX4_step_1 : decode cX4_step 1 = .ok (.invokestatic 46, 3) := by decide +kernel
theorem dX4_step_4 : decode cX4_step 4 = .ok (.ifCond .eq 24, 3) := by decide +kernel
theorem dX4_step_7 : decode cX4_step 7 = .ok (.aload_n 0, 1) := by decide +kernel
theorem dX4_step_8 : decode cX4_step 8 = .ok (.getfield 9, 3) := by decide +kernel
theorem dX4_step_11 : decode cX4_step 11 = .ok (.iload_n 1, 1) := by decide +kernel
theorem dX4_step_12 : decode cX4_step 12 = .ok (.iaload, 1) := by decide +kernel
theorem dX4_step_13 : decode cX4_step 13 = .ok (.bipush 12, 2) := by decide +kernel
theorem dX4_step_15 : decode cX4_step 15 = .ok (.if_icmp .eq 13, 3) := by decide +kernel
theorem dX4_step_18 : decode cX4_step 18 = .ok (.aload_n 0, 1) := by decide +kernel
theorem dX4_step_19 : decode cX4_step 19 = .ok (.iload_n 1, 1) := by decide +kernel
theorem dX4_step_20 : decode cX4_step 20 = .ok (.iconst (-1), 1) := by decide +kernel
theorem dX4_step_21 : decode cX4_step 21 = .ok (.iload_n 2, 1) := by decide +kernel
theorem dX4_step_22 : decode cX4_step 22 = .ok (.invokevirtual 53, 3) := by decide +kernel
theorem dX4_step_25 : decode cX4_step 25 = .ok (.ifCond .ne 5, 3) := by decide +kernel
theorem dX4_step_28 : decode cX4_step 28 = .ok (.iconst (-1), 1) := by decide +kernel
theorem dX4_step_29 : decode cX4_step 29 = .ok (.ireturn, 1) := by decide +kernel
theorem dX4_step_30 : decode cX4_step 30 = .ok (.aload_n 0, 1) := by decide +kernel
theorem dX4_step_31 : decode cX4_step 31 = .ok (.getfield 13, 3) := by decide +kernel
theorem dX4_step_34 : decode cX4_step 34 = .ok (.bipush 12, 2) := by decide +kernel
theorem dX4_step_36 : decode cX4_step 36 = .ok (.iload_n 1, 1) := by decide +kernel
theorem dX4_step_37 : decode cX4_step 37 = .ok (.imul, 1) := by decide +kernel
theorem dX4_step_38 : decode cX4_step 38 = .ok (.aload_n 0, 1) := by decide +kernel
theorem dX4_step_39 : decode cX4_step 39 = .ok (.getfield 9, 3) := by decide +kernel
theorem dX4_step_42 : decode cX4_step 42 = .ok (.iload_n 1, 1) := by decide +kernel
theorem dX4_step_43 : decode cX4_step 43 = .ok (.iaload, 1) := by decide +kernel
theorem dX4_step_44 : decode cX4_step 44 = .ok (.iadd, 1) := by decide +kernel
theorem dX4_step_45 : decode cX4_step 45 = .ok (.iload_n 2, 1) := by decide +kernel
theorem dX4_step_46 : decode cX4_step 46 = .ok (.iastore, 1) := by decide +kernel
theorem dX4_step_47 : decode cX4_step 47 = .ok (.aload_n 0, 1) := by decide +kernel
theorem dX4_step_48 : decode cX4_step 48 = .ok (.getfield 9, 3) := by decide +kernel
theorem dX4_step_51 : decode cX4_step 51 = .ok (.iload_n 1, 1) := by decide +kernel
theorem dX4_step_52 : decode cX4_step 52 = .ok (.dup2, 1) := by decide +kernel
theorem dX4_step_53 : decode cX4_step 53 = .ok (.iaload, 1) := by decide +kernel
theorem dX4_step_54 : decode cX4_step 54 = .ok (.iconst 1, 1) := by decide +kernel
theorem dX4_step_55 : decode cX4_step 55 = .ok (.iadd, 1) := by decide +kernel
theorem dX4_step_56 : decode cX4_step 56 = .ok (.iastore, 1) := by decide +kernel
theorem dX4_step_57 : decode cX4_step 57 = .ok (.aload_n 0, 1) := by decide +kernel
theorem dX4_step_58 : decode cX4_step 58 = .ok (.invokevirtual 50, 3) := by decide +kernel
theorem dX4_step_61 : decode cX4_step 61 = .ok (.aload_n 0, 1) := by decide +kernel
theorem dX4_step_62 : decode cX4_step 62 = .ok (.getfield 9, 3) := by decide +kernel
theorem dX4_step_65 : decode cX4_step 65 = .ok (.iload_n 1, 1) := by decide +kernel
theorem dX4_step_66 : decode cX4_step 66 = .ok (.iaload, 1) := by decide +kernel
theorem dX4_step_67 : decode cX4_step 67 = .ok (.ireturn, 1) := by decide +kernel
set_option maxRecDepth 20000 in
theorem ggX4_change_X4_isFunction : GoodIn wsX4_change wsX4_isFunction := goodIn_r _ [6, 7, 8, 5, 9] (by decide +kernel) (by decide +kernel)
set_option maxRecDepth 20000 in
theorem gX4_change_X4_isFunction : GoodIn wsX4_change (va_wsS RX4 46 yX4_isFunction wsX4_isFunction) := goodIn_app (goodIn_of _ (by decide +kernel)) ggX4_change_X4_isFunction
set_option maxRecDepth 20000 in
theorem ggX4_change_X4_in : GoodIn wsX4_change wsX4_in := goodIn_r _ [9] (by decide +kernel) (by decide +kernel)
set_option maxRecDepth 20000 in
theorem gX4_change_X4_in : GoodIn wsX4_change (va_wsS RX4 42 yX4_in wsX4_in) := goodIn_app (goodIn_of _ (by decide +kernel)) ggX4_change_X4_in
set_option maxRecDepth 20000 in
theorem ggX4_change_X4_canBe : GoodIn wsX4_change wsX4_canBe := goodIn_r _ [13, 1, 2, 29, 30, 31, 32, 33, 34, 35, 36, 37, 38, 39, 40, 41, 42] (by decide +kernel) (by decide +kernel)
set_option maxRecDepth 20000 in
theorem gX4_change_X4_canBe : GoodIn wsX4_change (wsV RX4 53 RX4 yX4_canBe wsX4_canBe) := goodIn_app (goodIn_of _ (by decide +kernel)) ggX4_change_X4_canBe
set_option maxRecDepth 20000 in
theorem ggX4_change_X4_runs : GoodIn wsX4_change wsX4_runs := goodIn_r _ [17, 18, 19, 20, 5, 21, 22, 23, 24, 25, 1, 2, 26, 27, 28, 29, 30, 31, 32, 33, 34, 35, 36, 37, 38, 39, 40, 41, 42] (by decide +kernel) (by decide +kernel)
set_option maxRecDepth 20000 in
theorem gX4_change_X4_runs : GoodIn wsX4_change (wsV RX4 50 RX4 yX4_runs wsX4_runs) := goodIn_app (goodIn_of _ (by decide +kernel)) ggX4_change_X4_runs
theorem dX4_change_0 : decode cX4_change 0 = .ok (.iload_n 1, 1) := by decide +kernel
theorem dX4_change_1 : decode cX4_change 1 = .ok (.invokestatic 46, 3) := by decide +kernel
theorem dX4_change_4 : decode cX4_change 4 = .ok (.ifCond .eq 29, 3) := by decide +kernel
theorem dX4_change_7 : decode cX4_change 7 = .ok (.iload_n 2, 1) := by decide +kernel
theorem dX4_change_8 : decode cX4_change 8 = .ok (.iconst 0, 1) := by decide +kernel
theorem dX4_change_9 : decode cX4_change 9 = .ok (.aload_n 0, 1) := by decide +kernel
theorem dX4_change_10 : decode cX4_change 10 = .ok (.getfield 9, 3) := by decide +kernel
theorem dX4_change_13 : decode cX4_change 13 = .ok (.iload_n 1, 1) := by decide +kernel
theorem dX4_change_14 : decode cX4_change 14 = .ok (.iaload, 1) := by decide +kernel
theorem dX4_change_15 : decode cX4_change 15 = .ok (.iconst 1, 1) := by decide +kernel
theorem dX4_change_16 : decode cX4_change 16 = .ok (.isub, 1) := by decide +kernel
theorem dX4_change_17 : decode cX4_change 17 = .ok (.invokestatic 42, 3) := by decide +kernel
theorem dX4_change_20 : decode cX4_change 20 = .ok (.ifCond .eq 13, 3) := by decide +kernel
theorem dX4_change_23 : decode cX4_change 23 = .ok (.aload_n 0, 1) := by decide +kernel
theorem dX4_change_24 : decode cX4_change 24 = .ok (.iload_n 1, 1) := by decide +kernel
theorem dX4_change_25 : decode cX4_change 25 = .ok (.iload_n 2, 1) := by decide +kernel
theorem dX4_change_26 : decode cX4_change 26 = .ok (.iload_n 3, 1) := by decide +kernel
theorem dX4_change_27 : decode cX4_change 27 = .ok (.invokevirtual 53, 3) := by decide +kernel
theorem dX4_change_30 : decode cX4_change 30 = .ok (.ifCond .ne 5, 3) := by decide +kernel
theorem dX4_change_33 : decode cX4_change 33 = .ok (.iconst 0, 1) := by decide +kernel
theorem dX4_change_34 : decode cX4_change 34 = .ok (.ireturn, 1) := by decide +kernel
theorem dX4_change_35 : decode cX4_change 35 = .ok (.aload_n 0, 1) := by decide +kernel
theorem dX4_change_36 : decode cX4_change 36 = .ok (.getfield 13, 3) := by decide +kernel
theorem dX4_change_39 : decode cX4_change 39 = .ok (.bipush 12, 2) := by decide +kernel
theorem dX4_change_41 : decode cX4_change 41 = .ok (.iload_n 1, 1) := by decide +kernel
theorem dX4_change_42 : decode cX4_change 42 = .ok (.imul, 1) := by decide +kernel
theorem dX4_change_43 : decode cX4_change 43 = .ok (.iload_n 2, 1) := by decide +kernel
theorem dX4_change_44 : decode cX4_change 44 = .ok (.iadd, 1) := by decide +kernel
theorem dX4_change_45 : decode cX4_change 45 = .ok (.iload_n 3, 1) := by decide +kernel
theorem dX4_change_46 : decode cX4_change 46 = .ok (.iastore, 1) := by decide +kernel
theorem dX4_change_47 : decode cX4_change 47 = .ok (.aload_n 0, 1) := by decide +kernel
theorem dX4_change_48 : decode cX4_change 48 = .ok (.invokevirtual 50, 3) := by decide +kernel
theorem dX4_change_51 : decode cX4_change 51 = .ok (.iconst 1, 1) := by decide +kernel
theorem dX4_change_52 : decode cX4_change 52 = .ok (.ireturn, 1) := by decide +kernel
theorem dX4_at_0 : decode cX4_at 0 = .ok (.sipush 256, 3) := by decide +kernel
theorem dX4_at_3 : decode cX4_at 3 = .ok (.bipush 6, 2) := by decide +kernel
theorem dX4_at_5 : decode cX4_at 5 = .ok (.iload_n 0, 1) := by decide +kernel
theorem dX4_at_6 : decode cX4_at 6 = .ok (.imul, 1) := by decide +kernel
theorem dX4_at_7 : decode cX4_at 7 = .ok (.iload_n 1, 1) := by decide +kernel
theorem dX4_at_8 : decode cX4_at 8 = .ok (.iadd, 1) := by decide +kernel
theorem dX4_at_9 : decode cX4_at 9 = .ok (.imul, 1) := by decide +kernel
theorem dX4_at_10 : decode cX4_at 10 = .ok (.iload_n 2, 1) := by decide +kernel
theorem dX4_at_11 : decode cX4_at 11 = .ok (.iadd, 1) := by decide +kernel
theorem dX4_at_12 : decode cX4_at 12 = .ok (.ireturn, 1) := by decide +kernel
set_option maxRecDepth 20000 in
theorem ggX4_runs_X4_at : GoodIn wsX4_runs wsX4_at := goodIn_r _ [5] (by decide +kernel) (by decide +kernel)
set_option maxRecDepth 20000 in
theorem gX4_runs_X4_at : GoodIn wsX4_runs (va_wsS RX4 56 yX4_at wsX4_at) := goodIn_app (goodIn_of _ (by decide +kernel)) ggX4_runs_X4_at
set_option maxRecDepth 20000 in
theorem ggX4_runs_X4_goes : GoodIn wsX4_runs wsX4_goes := goodIn_r _ [9, 10, 11, 12, 1, 13, 14, 2, 3, 4, 5, 15, 16, 17, 18, 19, 20, 21, 22, 23, 24, 25, 26, 27, 28] (by decide +kernel) (by decide +kernel)
set_option maxRecDepth 20000 in
theorem gX4_runs_X4_goes : GoodIn wsX4_runs (wsV RX4 60 RX4 yX4_goes wsX4_goes) := goodIn_app (goodIn_of _ (by decide +kernel)) ggX4_runs_X4_goes
theorem dX4_runs_0 : decode cX4_runs 0 = .ok (.iconst 0, 1) := by decide +kernel
theorem dX4_runs_1 : decode cX4_runs 1 = .ok (.istore_n 1, 1) := by decide +kernel
theorem dX4_runs_2 : decode cX4_runs 2 = .ok (.iload_n 1, 1) := by decide +kernel
theorem dX4_runs_3 : decode cX4_runs 3 = .ok (.bipush 6, 2) := by decide +kernel
theorem dX4_runs_5 : decode cX4_runs 5 = .ok (.if_icmp .ge 42, 3) := by decide +kernel
theorem dX4_runs_8 : decode cX4_runs 8 = .ok (.iconst 0, 1) := by decide +kernel
theorem dX4_runs_9 : decode cX4_runs 9 = .ok (.istore_n 2, 1) := by decide +kernel
theorem dX4_runs_10 : decode cX4_runs 10 = .ok (.iload_n 2, 1) := by decide +kernel
theorem dX4_runs_11 : decode cX4_runs 11 = .ok (.sipush 256, 3) := by decide +kernel
theorem dX4_runs_14 : decode cX4_runs 14 = .ok (.if_icmp .ge 27, 3) := by decide +kernel
theorem dX4_runs_17 : decode cX4_runs 17 = .ok (.aload_n 0, 1) := by decide +kernel
theorem dX4_runs_18 : decode cX4_runs 18 = .ok (.getfield 17, 3) := by decide +kernel
theorem dX4_runs_21 : decode cX4_runs 21 = .ok (.bipush 31, 2) := by decide +kernel
theorem dX4_runs_23 : decode cX4_runs 23 = .ok (.iload_n 1, 1) := by decide +kernel
theorem dX4_runs_24 : decode cX4_runs 24 = .ok (.iload_n 2, 1) := by decide +kernel
theorem dX4_runs_25 : decode cX4_runs 25 = .ok (.invokestatic 56, 3) := by decide +kernel
theorem dX4_runs_28 : decode cX4_runs 28 = .ok (.aload_n 0, 1) := by decide +kernel
theorem dX4_runs_29 : decode cX4_runs 29 = .ok (.iload_n 1, 1) := by decide +kernel
theorem dX4_runs_30 : decode cX4_runs 30 = .ok (.iload_n 2, 1) := by decide +kernel
theorem dX4_runs_31 : decode cX4_runs 31 = .ok (.invokevirtual 60, 3) := by decide +kernel
theorem dX4_runs_34 : decode cX4_runs 34 = .ok (.iastore, 1) := by decide +kernel
theorem dX4_runs_35 : decode cX4_runs 35 = .ok (.iinc 2 1, 3) := by decide +kernel
theorem dX4_runs_38 : decode cX4_runs 38 = .ok (.goto (-28), 3) := by decide +kernel
theorem dX4_runs_41 : decode cX4_runs 41 = .ok (.iinc 1 1, 3) := by decide +kernel
theorem dX4_runs_44 : decode cX4_runs 44 = .ok (.goto (-42), 3) := by decide +kernel
theorem dX4_runs_47 : decode cX4_runs 47 = .ok (.return_, 1) := by decide +kernel
set_option maxRecDepth 20000 in
theorem ggX4_goes_X4_at : GoodIn wsX4_goes wsX4_at := goodIn_r _ [10] (by decide +kernel) (by decide +kernel)
set_option maxRecDepth 20000 in
theorem gX4_goes_X4_at : GoodIn wsX4_goes (va_wsS RX4 56 yX4_at wsX4_at) := goodIn_app (goodIn_of _ (by decide +kernel)) ggX4_goes_X4_at
theorem dX4_goes_0 : decode cX4_goes 0 = .ok (.lconst 0, 1) := by decide +kernel
theorem dX4_goes_1 : decode cX4_goes 1 = .ok (.lstore_n 3, 1) := by decide +kernel
theorem dX4_goes_2 : decode cX4_goes 2 = .ok (.iconst 0, 1) := by decide +kernel
theorem dX4_goes_3 : decode cX4_goes 3 = .ok (.istore 5, 2) := by decide +kernel
theorem dX4_goes_5 : decode cX4_goes 5 = .ok (.iload 5, 2) := by decide +kernel
theorem dX4_goes_7 : decode cX4_goes 7 = .ok (.aload_n 0, 1) := by decide +kernel
theorem dX4_goes_8 : decode cX4_goes 8 = .ok (.getfield 9, 3) := by decide +kernel
theorem dX4_goes_11 : decode cX4_goes 11 = .ok (.iload_n 1, 1) := by decide +kernel
theorem dX4_goes_12 : decode cX4_goes 12 = .ok (.iaload, 1) := by decide +kernel
theorem dX4_goes_13 : decode cX4_goes 13 = .ok (.if_icmp .ge 297, 3) := by decide +kernel
theorem dX4_goes_16 : decode cX4_goes 16 = .ok (.aload_n 0, 1) := by decide +kernel
theorem dX4_goes_17 : decode cX4_goes 17 = .ok (.getfield 13, 3) := by decide +kernel
theorem dX4_goes_20 : decode cX4_goes 20 = .ok (.bipush 12, 2) := by decide +kernel
theorem dX4_goes_22 : decode cX4_goes 22 = .ok (.iload_n 1, 1) := by decide +kernel
theorem dX4_goes_23 : decode cX4_goes 23 = .ok (.imul, 1) := by decide +kernel
theorem dX4_goes_24 : decode cX4_goes 24 = .ok (.iload 5, 2) := by decide +kernel
theorem dX4_goes_26 : decode cX4_goes 26 = .ok (.iadd, 1) := by decide +kernel
theorem dX4_goes_27 : decode cX4_goes 27 = .ok (.iaload, 1) := by decide +kernel
theorem dX4_goes_28 : decode cX4_goes 28 = .ok (.sipush 1000, 3) := by decide +kernel
theorem dX4_goes_31 : decode cX4_goes 31 = .ok (.idiv, 1) := by decide +kernel
theorem dX4_goes_32 : decode cX4_goes 32 = .ok (.istore 6, 2) := by decide +kernel
theorem dX4_goes_34 : decode cX4_goes 34 = .ok (.aload_n 0, 1) := by decide +kernel
theorem dX4_goes_35 : decode cX4_goes 35 = .ok (.getfield 13, 3) := by decide +kernel
theorem dX4_goes_38 : decode cX4_goes 38 = .ok (.bipush 12, 2) := by decide +kernel
theorem dX4_goes_40 : decode cX4_goes 40 = .ok (.iload_n 1, 1) := by decide +kernel
theorem dX4_goes_41 : decode cX4_goes 41 = .ok (.imul, 1) := by decide +kernel
theorem dX4_goes_42 : decode cX4_goes 42 = .ok (.iload 5, 2) := by decide +kernel
theorem dX4_goes_44 : decode cX4_goes 44 = .ok (.iadd, 1) := by decide +kernel
theorem dX4_goes_45 : decode cX4_goes 45 = .ok (.iaload, 1) := by decide +kernel
theorem dX4_goes_46 : decode cX4_goes 46 = .ok (.sipush 1000, 3) := by decide +kernel
theorem dX4_goes_49 : decode cX4_goes 49 = .ok (.irem, 1) := by decide +kernel
theorem dX4_goes_50 : decode cX4_goes 50 = .ok (.istore 7, 2) := by decide +kernel
theorem dX4_goes_52 : decode cX4_goes 52 = .ok (.iload 7, 2) := by decide +kernel
theorem dX4_goes_54 : decode cX4_goes 54 = .ok (.sipush 500, 3) := by decide +kernel
theorem dX4_goes_57 : decode cX4_goes 57 = .ok (.isub, 1) := by decide +kernel
theorem dX4_goes_58 : decode cX4_goes 58 = .ok (.istore 8, 2) := by decide +kernel
theorem dX4_goes_60 : decode cX4_goes 60 = .ok (.iinc 5 1, 3) := by decide +kernel
theorem dX4_goes_63 : decode cX4_goes 63 = .ok (.iload 6, 2) := by decide +kernel
theorem dX4_goes_65 : decode cX4_goes 65 = .ok (.tableswitch 209 0 9 #[55, 62, 71, 85, 99, 108, 127, 146, 167, 170], 55) := by decide +kernel
theorem dX4_goes_120 : decode cX4_goes 120 = .ok (.iload 8, 2) := by decide +kernel
theorem dX4_goes_122 : decode cX4_goes 122 = .ok (.i2l, 1) := by decide +kernel
theorem dX4_goes_123 : decode cX4_goes 123 = .ok (.lstore_n 3, 1) := by decide +kernel
theorem dX4_goes_124 : decode cX4_goes 124 = .ok (.goto 164, 3) := by decide +kernel
theorem dX4_goes_127 : decode cX4_goes 127 = .ok (.lload_n 3, 1) := by decide +kernel
theorem dX4_goes_128 : decode cX4_goes 128 = .ok (.iload 8, 2) := by decide +kernel
theorem dX4_goes_130 : decode cX4_goes 130 = .ok (.i2l, 1) := by decide +kernel
theorem dX4_goes_131 : decode cX4_goes 131 = .ok (.ladd, 1) := by decide +kernel
theorem dX4_goes_132 : decode cX4_goes 132 = .ok (.lstore_n 3, 1) := by decide +kernel
theorem dX4_goes_133 : decode cX4_goes 133 = .ok (.goto 155, 3) := by decide +kernel
theorem dX4_goes_136 : decode cX4_goes 136 = .ok (.lload_n 3, 1) := by decide +kernel
theorem dX4_goes_137 : decode cX4_goes 137 = .ok (.iload 8, 2) := by decide +kernel
theorem dX4_goes_139 : decode cX4_goes 139 = .ok (.iload_n 2, 1) := by decide +kernel
theorem dX4_goes_140 : decode cX4_goes 140 = .ok (.bipush 16, 2) := by decide +kernel
theorem dX4_goes_142 : decode cX4_goes 142 = .ok (.idiv, 1) := by decide +kernel
theorem dX4_goes_143 : decode cX4_goes 143 = .ok (.imul, 1) := by decide +kernel
theorem dX4_goes_144 : decode cX4_goes 144 = .ok (.i2l, 1) := by decide +kernel
theorem dX4_goes_145 : decode cX4_goes 145 = .ok (.ladd, 1) := by decide +kernel
theorem dX4_goes_146 : decode cX4_goes 146 = .ok (.lstore_n 3, 1) := by decide +kernel
theorem dX4_goes_147 : decode cX4_goes 147 = .ok (.goto 141, 3) := by decide +kernel
theorem dX4_goes_150 : decode cX4_goes 150 = .ok (.lload_n 3, 1) := by decide +kernel
theorem dX4_goes_151 : decode cX4_goes 151 = .ok (.iload 8, 2) := by decide +kernel
theorem dX4_goes_153 : decode cX4_goes 153 = .ok (.iload_n 2, 1) := by decide +kernel
theorem dX4_goes_154 : decode cX4_goes 154 = .ok (.bipush 16, 2) := by decide +kernel
theorem dX4_goes_156 : decode cX4_goes 156 = .ok (.irem, 1) := by decide +kernel
theorem dX4_goes_157 : decode cX4_goes 157 = .ok (.imul, 1) := by decide +kernel
theorem dX4_goes_158 : decode cX4_goes 158 = .ok (.i2l, 1) := by decide +kernel
theorem dX4_goes_159 : decode cX4_goes 159 = .ok (.ladd, 1) := by decide +kernel
theorem dX4_goes_160 : decode cX4_goes 160 = .ok (.lstore_n 3, 1) := by decide +kernel
theorem dX4_goes_161 : decode cX4_goes 161 = .ok (.goto 127, 3) := by decide +kernel
theorem dX4_goes_164 : decode cX4_goes 164 = .ok (.lload_n 3, 1) := by decide +kernel
theorem dX4_goes_165 : decode cX4_goes 165 = .ok (.iload 8, 2) := by decide +kernel
theorem dX4_goes_167 : decode cX4_goes 167 = .ok (.i2l, 1) := by decide +kernel
theorem dX4_goes_168 : decode cX4_goes 168 = .ok (.lmul, 1) := by decide +kernel
theorem dX4_goes_169 : decode cX4_goes 169 = .ok (.lstore_n 3, 1) := by decide +kernel
theorem dX4_goes_170 : decode cX4_goes 170 = .ok (.goto 118, 3) := by decide +kernel
theorem dX4_goes_173 : decode cX4_goes 173 = .ok (.lload_n 3, 1) := by decide +kernel
theorem dX4_goes_174 : decode cX4_goes 174 = .ok (.iload 8, 2) := by decide +kernel
theorem dX4_goes_176 : decode cX4_goes 176 = .ok (.i2l, 1) := by decide +kernel
theorem dX4_goes_177 : decode cX4_goes 177 = .ok (.lcmp, 1) := by decide +kernel
theorem dX4_goes_178 : decode cX4_goes 178 = .ok (.ifCond .le 9, 3) := by decide +kernel
theorem dX4_goes_181 : decode cX4_goes 181 = .ok (.iload 8, 2) := by decide +kernel
theorem dX4_goes_183 : decode cX4_goes 183 = .ok (.i2l, 1) := by decide +kernel
theorem dX4_goes_184 : decode cX4_goes 184 = .ok (.goto 4, 3) := by decide +kernel
theorem dX4_goes_187 : decode cX4_goes 187 = .ok (.lload_n 3, 1) := by decide +kernel
theorem dX4_goes_188 : decode cX4_goes 188 = .ok (.lstore_n 3, 1) := by decide +kernel
theorem dX4_goes_189 : decode cX4_goes 189 = .ok (.goto 99, 3) := by decide +kernel
theorem dX4_goes_192 : decode cX4_goes 192 = .ok (.lload_n 3, 1) := by decide +kernel
theorem dX4_goes_193 : decode cX4_goes 193 = .ok (.iload 8, 2) := by decide +kernel
theorem dX4_goes_195 : decode cX4_goes 195 = .ok (.i2l, 1) := by decide +kernel
theorem dX4_goes_196 : decode cX4_goes 196 = .ok (.lcmp, 1) := by decide +kernel
theorem dX4_goes_197 : decode cX4_goes 197 = .ok (.ifCond .ge 9, 3) := by decide +kernel
theorem dX4_goes_200 : decode cX4_goes 200 = .ok (.iload 8, 2) := by decide +kernel
theorem dX4_goes_202 : decode cX4_goes 202 = .ok (.i2l, 1) := by decide +kernel
theorem dX4_goes_203 : decode cX4_goes 203 = .ok (.goto 4, 3) := by decide +kernel
theorem dX4_goes_206 : decode cX4_goes 206 = .ok (.lload_n 3, 1) := by decide +kernel
theorem dX4_goes_207 : decode cX4_goes 207 = .ok (.lstore_n 3, 1) := by decide +kernel
theorem dX4_goes_208 : decode cX4_goes 208 = .ok (.goto 80, 3) := by decide +kernel
theorem dX4_goes_211 : decode cX4_goes 211 = .ok (.iload 5, 2) := by decide +kernel
theorem dX4_goes_213 : decode cX4_goes 213 = .ok (.lload_n 3, 1) := by decide +kernel
theorem dX4_goes_214 : decode cX4_goes 214 = .ok (.iload 8, 2) := by decide +kernel
theorem dX4_goes_216 : decode cX4_goes 216 = .ok (.i2l, 1) := by decide +kernel
theorem dX4_goes_217 : decode cX4_goes 217 = .ok (.lcmp, 1) := by decide +kernel
theorem dX4_goes_218 : decode cX4_goes 218 = .ok (.ifCond .ge 7, 3) := by decide +kernel
theorem dX4_goes_221 : decode cX4_goes 221 = .ok (.iconst 1, 1) := by decide +kernel
theorem dX4_goes_222 : decode cX4_goes 222 = .ok (.goto 4, 3) := by decide +kernel
theorem dX4_goes_225 : decode cX4_goes 225 = .ok (.iconst 0, 1) := by decide +kernel
theorem dX4_goes_226 : decode cX4_goes 226 = .ok (.iadd, 1) := by decide +kernel
theorem dX4_goes_227 : decode cX4_goes 227 = .ok (.istore 5, 2) := by decide +kernel
theorem dX4_goes_229 : decode cX4_goes 229 = .ok (.goto 59, 3) := by decide +kernel
theorem dX4_goes_232 : decode cX4_goes 232 = .ok (.ldc 64, 2) := by decide +kernel
theorem dX4_goes_234 : decode cX4_goes 234 = .ok (.ireturn, 1) := by decide +kernel
theorem dX4_goes_235 : decode cX4_goes 235 = .ok (.aload_n 0, 1) := by decide +kernel
theorem dX4_goes_236 : decode cX4_goes 236 = .ok (.getfield 17, 3) := by decide +kernel
theorem dX4_goes_239 : decode cX4_goes 239 = .ok (.bipush 31, 2) := by decide +kernel
theorem dX4_goes_241 : decode cX4_goes 241 = .ok (.iload 7, 2) := by decide +kernel
theorem dX4_goes_243 : decode cX4_goes 243 = .ok (.iload_n 2, 1) := by decide +kernel
theorem dX4_goes_244 : decode cX4_goes 244 = .ok (.invokestatic 56, 3) := by decide +kernel
theorem dX4_goes_247 : decode cX4_goes 247 = .ok (.iaload, 1) := by decide +kernel
theorem dX4_goes_248 : decode cX4_goes 248 = .ok (.ldc 64, 2) := by decide +kernel
theorem dX4_goes_250 : decode cX4_goes 250 = .ok (.if_icmp .ne 6, 3) := by decide +kernel
theorem dX4_goes_253 : decode cX4_goes 253 = .ok (.ldc 64, 2) := by decide +kernel
theorem dX4_goes_255 : decode cX4_goes 255 = .ok (.ireturn, 1) := by decide +kernel
theorem dX4_goes_256 : decode cX4_goes 256 = .ok (.aload_n 0, 1) := by decide +kernel
theorem dX4_goes_257 : decode cX4_goes 257 = .ok (.getfield 17, 3) := by decide +kernel
theorem dX4_goes_260 : decode cX4_goes 260 = .ok (.bipush 31, 2) := by decide +kernel
theorem dX4_goes_262 : decode cX4_goes 262 = .ok (.iload 7, 2) := by decide +kernel
theorem dX4_goes_264 : decode cX4_goes 264 = .ok (.iload_n 2, 1) := by decide +kernel
theorem dX4_goes_265 : decode cX4_goes 265 = .ok (.invokestatic 56, 3) := by decide +kernel
theorem dX4_goes_268 : decode cX4_goes 268 = .ok (.iaload, 1) := by decide +kernel
theorem dX4_goes_269 : decode cX4_goes 269 = .ok (.i2l, 1) := by decide +kernel
theorem dX4_goes_270 : decode cX4_goes 270 = .ok (.lstore_n 3, 1) := by decide +kernel
theorem dX4_goes_271 : decode cX4_goes 271 = .ok (.goto 17, 3) := by decide +kernel
theorem dX4_goes_274 : decode cX4_goes 274 = .ok (.lload_n 3, 1) := by decide +kernel
theorem dX4_goes_275 : decode cX4_goes 275 = .ok (.iload 7, 2) := by decide +kernel
theorem dX4_goes_277 : decode cX4_goes 277 = .ok (.i2l, 1) := by decide +kernel
theorem dX4_goes_278 : decode cX4_goes 278 = .ok (.lrem, 1) := by decide +kernel
theorem dX4_goes_279 : decode cX4_goes 279 = .ok (.iload 7, 2) := by decide +kernel
theorem dX4_goes_281 : decode cX4_goes 281 = .ok (.i2l, 1) := by decide +kernel
theorem dX4_goes_282 : decode cX4_goes 282 = .ok (.ladd, 1) := by decide +kernel
theorem dX4_goes_283 : decode cX4_goes 283 = .ok (.iload 7, 2) := by decide +kernel
theorem dX4_goes_285 : decode cX4_goes 285 = .ok (.i2l, 1) := by decide +kernel
theorem dX4_goes_286 : decode cX4_goes 286 = .ok (.lrem, 1) := by decide +kernel
theorem dX4_goes_287 : decode cX4_goes 287 = .ok (.lstore_n 3, 1) := by decide +kernel
theorem dX4_goes_288 : decode cX4_goes 288 = .ok (.lload_n 3, 1) := by decide +kernel
theorem dX4_goes_289 : decode cX4_goes 289 = .ok (.ldc2_w 65, 3) := by decide +kernel
theorem dX4_goes_292 : decode cX4_goes 292 = .ok (.lcmp, 1) := by decide +kernel
theorem dX4_goes_293 : decode cX4_goes 293 = .ok (.ifCond .gt 11, 3) := by decide +kernel
theorem dX4_goes_296 : decode cX4_goes 296 = .ok (.lload_n 3, 1) := by decide +kernel
theorem dX4_goes_297 : decode cX4_goes 297 = .ok (.ldc2_w 67, 3) := by decide +kernel
theorem dX4_goes_300 : decode cX4_goes 300 = .ok (.lcmp, 1) := by decide +kernel
theorem dX4_goes_301 : decode cX4_goes 301 = .ok (.ifCond .ge 6, 3) := by decide +kernel
theorem dX4_goes_304 : decode cX4_goes 304 = .ok (.ldc 64, 2) := by decide +kernel
theorem dX4_goes_306 : decode cX4_goes 306 = .ok (.ireturn, 1) := by decide +kernel
theorem dX4_goes_307 : decode cX4_goes 307 = .ok (.goto (-302), 3) := by decide +kernel
theorem dX4_goes_310 : decode cX4_goes 310 = .ok (.lload_n 3, 1) := by decide +kernel
theorem dX4_goes_311 : decode cX4_goes 311 = .ok (.l2i, 1) := by decide +kernel
theorem dX4_goes_312 : decode cX4_goes 312 = .ok (.ireturn, 1) := by decide +kernel
set_option maxRecDepth 20000 in
theorem ggX4_give_X4_at : GoodIn wsX4_give wsX4_at := goodIn_r _ [5] (by decide +kernel) (by decide +kernel)
set_option maxRecDepth 20000 in
theorem gX4_give_X4_at : GoodIn wsX4_give (va_wsS RX4 56 yX4_at wsX4_at) := goodIn_app (goodIn_of _ (by decide +kernel)) ggX4_give_X4_at
theorem dX4_give_0 : decode cX4_give 0 = .ok (.aload_n 0, 1) := by decide +kernel
theorem dX4_give_1 : decode cX4_give 1 = .ok (.getfield 17, 3) := by decide +kernel
theorem dX4_give_4 : decode cX4_give 4 = .ok (.iload_n 1, 1) := by decide +kernel
theorem dX4_give_5 : decode cX4_give 5 = .ok (.iload_n 2, 1) := by decide +kernel
theorem dX4_give_6 : decode cX4_give 6 = .ok (.iload_n 3, 1) := by decide +kernel
theorem dX4_give_7 : decode cX4_give 7 = .ok (.invokestatic 56, 3) := by decide +kernel
theorem dX4_give_10 : decode cX4_give 10 = .ok (.iaload, 1) := by decide +kernel
theorem dX4_give_11 : decode cX4_give 11 = .ok (.ireturn, 1) := by decide +kernel
set_option maxRecDepth 20000 in
theorem ggX4_isRun_X4_isFunction : GoodIn wsX4_isRun wsX4_isFunction := goodIn_r _ [4, 5, 6, 3, 7] (by decide +kernel) (by decide +kernel)
set_option maxRecDepth 20000 in
theorem gX4_isRun_X4_isFunction : GoodIn wsX4_isRun (va_wsS RX4 46 yX4_isFunction wsX4_isFunction) := goodIn_app (goodIn_of _ (by decide +kernel)) ggX4_isRun_X4_isFunction
set_option maxRecDepth 20000 in
theorem ggX4_isRun_X4_in : GoodIn wsX4_isRun wsX4_in := goodIn_r _ [7] (by decide +kernel) (by decide +kernel)
set_option maxRecDepth 20000 in
theorem gX4_isRun_X4_in : GoodIn wsX4_isRun (va_wsS RX4 42 yX4_in wsX4_in) := goodIn_app (goodIn_of _ (by decide +kernel)) ggX4_isRun_X4_in
theorem dX4_isRun_0 : decode cX4_isRun 0 = .ok (.iload_n 0, 1) := by decide +kernel
theorem dX4_isRun_1 : decode cX4_isRun 1 = .ok (.invokestatic 46, 3) := by decide +kernel
theorem dX4_isRun_4 : decode cX4_isRun 4 = .ok (.ifCond .eq 27, 3) := by decide +kernel
theorem dX4_isRun_7 : decode cX4_isRun 7 = .ok (.iload_n 1, 1) := by decide +kernel
theorem dX4_isRun_8 : decode cX4_isRun 8 = .ok (.iconst 0, 1) := by decide +kernel
theorem dX4_isRun_9 : decode cX4_isRun 9 = .ok (.bipush 15, 2) := by decide +kernel
theorem dX4_isRun_11 : decode cX4_isRun 11 = .ok (.invokestatic 42, 3) := by decide +kernel
theorem dX4_isRun_14 : decode cX4_isRun 14 = .ok (.ifCond .eq 17, 3) := by decide +kernel
theorem dX4_isRun_17 : decode cX4_isRun 17 = .ok (.iload_n 2, 1) := by decide +kernel
theorem dX4_isRun_18 : decode cX4_isRun 18 = .ok (.iconst 0, 1) := by decide +kernel
theorem dX4_isRun_19 : decode cX4_isRun 19 = .ok (.bipush 15, 2) := by decide +kernel
theorem dX4_isRun_21 : decode cX4_isRun 21 = .ok (.invokestatic 42, 3) := by decide +kernel
theorem dX4_isRun_24 : decode cX4_isRun 24 = .ok (.ifCond .eq 7, 3) := by decide +kernel
theorem dX4_isRun_27 : decode cX4_isRun 27 = .ok (.iconst 1, 1) := by decide +kernel
theorem dX4_isRun_28 : decode cX4_isRun 28 = .ok (.goto 4, 3) := by decide +kernel
theorem dX4_isRun_31 : decode cX4_isRun 31 = .ok (.iconst 0, 1) := by decide +kernel
theorem dX4_isRun_32 : decode cX4_isRun 32 = .ok (.ireturn, 1) := by decide +kernel
set_option maxRecDepth 20000 in
theorem ggX4_run_X4_isRun : GoodIn wsX4_run wsX4_isRun := goodIn_r _ [5, 6, 7, 4, 8, 9, 10, 11] (by decide +kernel) (by decide +kernel)
set_option maxRecDepth 20000 in
theorem gX4_run_X4_isRun : GoodIn wsX4_run (va_wsS RX4 69 yX4_isRun wsX4_isRun) := goodIn_app (goodIn_of _ (by decide +kernel)) ggX4_run_X4_isRun
set_option maxRecDepth 20000 in
theorem ggX4_run_X4_give : GoodIn wsX4_run wsX4_give := goodIn_r _ [15, 16, 17, 18, 4, 19, 20, 21, 22, 23, 24, 25, 26, 27, 28, 29, 30, 31, 32, 33] (by decide +kernel) (by decide +kernel)
set_option maxRecDepth 20000 in
theorem gX4_run_X4_give : GoodIn wsX4_run (wsV RX4 72 RX4 yX4_give wsX4_give) := goodIn_app (goodIn_of _ (by decide +kernel)) ggX4_run_X4_give
theorem dX4_run_0 : decode cX4_run 0 = .ok (.iload_n 1, 1) := by decide +kernel
theorem dX4_run_1 : decode cX4_run 1 = .ok (.iload_n 2, 1) := by decide +kernel
theorem dX4_run_2 : decode cX4_run 2 = .ok (.iload_n 3, 1) := by decide +kernel
theorem dX4_run_3 : decode cX4_run 3 = .ok (.invokestatic 69, 3) := by decide +kernel
theorem dX4_run_6 : decode cX4_run 6 = .ok (.ifCond .eq 19, 3) := by decide +kernel
theorem dX4_run_9 : decode cX4_run 9 = .ok (.aload_n 0, 1) := by decide +kernel
theorem dX4_run_10 : decode cX4_run 10 = .ok (.bipush 31, 2) := by decide +kernel
theorem dX4_run_12 : decode cX4_run 12 = .ok (.iload_n 1, 1) := by decide +kernel
theorem dX4_run_13 : decode cX4_run 13 = .ok (.bipush 16, 2) := by decide +kernel
theorem dX4_run_15 : decode cX4_run 15 = .ok (.iload_n 2, 1) := by decide +kernel
theorem dX4_run_16 : decode cX4_run 16 = .ok (.imul, 1) := by decide +kernel
theorem dX4_run_17 : decode cX4_run 17 = .ok (.iload_n 3, 1) := by decide +kernel
theorem dX4_run_18 : decode cX4_run 18 = .ok (.iadd, 1) := by decide +kernel
theorem dX4_run_19 : decode cX4_run 19 = .ok (.invokevirtual 72, 3) := by decide +kernel
theorem dX4_run_22 : decode cX4_run 22 = .ok (.goto 5, 3) := by decide +kernel
theorem dX4_run_25 : decode cX4_run 25 = .ok (.ldc 64, 2) := by decide +kernel
theorem dX4_run_27 : decode cX4_run 27 = .ok (.ireturn, 1) := by decide +kernel
set_option maxRecDepth 20000 in
theorem ggX4_keep_X4_at : GoodIn wsX4_keep wsX4_at := goodIn_r _ [6] (by decide +kernel) (by decide +kernel)
set_option maxRecDepth 20000 in
theorem gX4_keep_X4_at : GoodIn wsX4_keep (va_wsS RX4 56 yX4_at wsX4_at) := goodIn_app (goodIn_of _ (by decide +kernel)) ggX4_keep_X4_at
set_option maxRecDepth 20000 in
theorem ggX4_keep_X4_give : GoodIn wsX4_keep wsX4_give := goodIn_r _ [10, 2, 3, 4, 5, 6, 11, 12, 13, 14, 15, 16, 17, 18, 19, 20, 21, 22, 23, 24] (by decide +kernel) (by decide +kernel)
set_option maxRecDepth 20000 in
theorem gX4_keep_X4_give : GoodIn wsX4_keep (wsV RX4 72 RX4 yX4_give wsX4_give) := goodIn_app (goodIn_of _ (by decide +kernel)) ggX4_keep_X4_give
theorem dX4_keep_0 : decode cX4_keep 0 = .ok (.aload_n 0, 1) := by decide +kernel
theorem dX4_keep_1 : decode cX4_keep 1 = .ok (.getfield 75, 3) := by decide +kernel
theorem dX4_keep_4 : decode cX4_keep 4 = .ok (.bipush 30, 2) := by decide +kernel
theorem dX4_keep_6 : decode cX4_keep 6 = .ok (.if_icmp .ne 5, 3) := by decide +kernel
theorem dX4_keep_9 : decode cX4_keep 9 = .ok (.iconst (-1), 1) := by decide +kernel
theorem dX4_keep_10 : decode cX4_keep 10 = .ok (.ireturn, 1) := by decide +kernel
theorem dX4_keep_11 : decode cX4_keep 11 = .ok (.aload_n 0, 1) := by decide +kernel
theorem dX4_keep_12 : decode cX4_keep 12 = .ok (.dup, 1) := by decide +kernel
theorem dX4_keep_13 : decode cX4_keep 13 = .ok (.getfield 75, 3) := by decide +kernel
theorem dX4_keep_16 : decode cX4_keep 16 = .ok (.iconst 1, 1) := by decide +kernel
theorem dX4_keep_17 : decode cX4_keep 17 = .ok (.iadd, 1) := by decide +kernel
theorem dX4_keep_18 : decode cX4_keep 18 = .ok (.putfield 75, 3) := by decide +kernel
theorem dX4_keep_21 : decode cX4_keep 21 = .ok (.iconst 0, 1) := by decide +kernel
theorem dX4_keep_22 : decode cX4_keep 22 = .ok (.istore_n 1, 1) := by decide +kernel
theorem dX4_keep_23 : decode cX4_keep 23 = .ok (.iload_n 1, 1) := by decide +kernel
theorem dX4_keep_24 : decode cX4_keep 24 = .ok (.bipush 6, 2) := by decide +kernel
theorem dX4_keep_26 : decode cX4_keep 26 = .ok (.if_icmp .ge 46, 3) := by decide +kernel
theorem dX4_keep_29 : decode cX4_keep 29 = .ok (.iconst 0, 1) := by decide +kernel
theorem dX4_keep_30 : decode cX4_keep 30 = .ok (.istore_n 2, 1) := by decide +kernel
theorem dX4_keep_31 : decode cX4_keep 31 = .ok (.iload_n 2, 1) := by decide +kernel
theorem dX4_keep_32 : decode cX4_keep 32 = .ok (.sipush 256, 3) := by decide +kernel
theorem dX4_keep_35 : decode cX4_keep 35 = .ok (.if_icmp .ge 31, 3) := by decide +kernel
theorem dX4_keep_38 : decode cX4_keep 38 = .ok (.aload_n 0, 1) := by decide +kernel
theorem dX4_keep_39 : decode cX4_keep 39 = .ok (.getfield 17, 3) := by decide +kernel
theorem dX4_keep_42 : decode cX4_keep 42 = .ok (.aload_n 0, 1) := by decide +kernel
theorem dX4_keep_43 : decode cX4_keep 43 = .ok (.getfield 75, 3) := by decide +kernel
theorem dX4_keep_46 : decode cX4_keep 46 = .ok (.iload_n 1, 1) := by decide +kernel
theorem dX4_keep_47 : decode cX4_keep 47 = .ok (.iload_n 2, 1) := by decide +kernel
theorem dX4_keep_48 : decode cX4_keep 48 = .ok (.invokestatic 56, 3) := by decide +kernel
theorem dX4_keep_51 : decode cX4_keep 51 = .ok (.aload_n 0, 1) := by decide +kernel
theorem dX4_keep_52 : decode cX4_keep 52 = .ok (.bipush 31, 2) := by decide +kernel
theorem dX4_keep_54 : decode cX4_keep 54 = .ok (.iload_n 1, 1) := by decide +kernel
theorem dX4_keep_55 : decode cX4_keep 55 = .ok (.iload_n 2, 1) := by decide +kernel
theorem dX4_keep_56 : decode cX4_keep 56 = .ok (.invokevirtual 72, 3) := by decide +kernel
theorem dX4_keep_59 : decode cX4_keep 59 = .ok (.iastore, 1) := by decide +kernel
theorem dX4_keep_60 : decode cX4_keep 60 = .ok (.iinc 2 1, 3) := by decide +kernel
theorem dX4_keep_63 : decode cX4_keep 63 = .ok (.goto (-32), 3) := by decide +kernel
theorem dX4_keep_66 : decode cX4_keep 66 = .ok (.iinc 1 1, 3) := by decide +kernel
theorem dX4_keep_69 : decode cX4_keep 69 = .ok (.goto (-46), 3) := by decide +kernel
theorem dX4_keep_72 : decode cX4_keep 72 = .ok (.aload_n 0, 1) := by decide +kernel
theorem dX4_keep_73 : decode cX4_keep 73 = .ok (.getfield 75, 3) := by decide +kernel
theorem dX4_keep_76 : decode cX4_keep 76 = .ok (.ireturn, 1) := by decide +kernel
set_option maxRecDepth 20000 in
theorem ggX4_was_X4_in : GoodIn wsX4_was wsX4_in := goodIn_r _ [6] (by decide +kernel) (by decide +kernel)
set_option maxRecDepth 20000 in
theorem gX4_was_X4_in : GoodIn wsX4_was (va_wsS RX4 42 yX4_in wsX4_in) := goodIn_app (goodIn_of _ (by decide +kernel)) ggX4_was_X4_in
set_option maxRecDepth 20000 in
theorem ggX4_was_X4_isRun : GoodIn wsX4_was wsX4_isRun := goodIn_r _ [9, 10, 11, 5, 12, 3, 4, 6] (by decide +kernel) (by decide +kernel)
set_option maxRecDepth 20000 in
theorem gX4_was_X4_isRun : GoodIn wsX4_was (va_wsS RX4 69 yX4_isRun wsX4_isRun) := goodIn_app (goodIn_of _ (by decide +kernel)) ggX4_was_X4_isRun
set_option maxRecDepth 20000 in
theorem ggX4_was_X4_give : GoodIn wsX4_was wsX4_give := goodIn_r _ [16, 17, 18, 19, 5, 20, 21, 22, 23, 24, 25, 26, 27, 28, 29, 30, 31, 32, 33, 34] (by decide +kernel) (by decide +kernel)
set_option maxRecDepth 20000 in
theorem gX4_was_X4_give : GoodIn wsX4_was (wsV RX4 72 RX4 yX4_give wsX4_give) := goodIn_app (goodIn_of _ (by decide +kernel)) ggX4_was_X4_give
theorem dX4_was_0 : decode cX4_was 0 = .ok (.iload_n 1, 1) := by decide +kernel
theorem dX4_was_1 : decode cX4_was 1 = .ok (.iconst 0, 1) := by decide +kernel
theorem dX4_was_2 : decode cX4_was 2 = .ok (.aload_n 0, 1) := by decide +kernel
theorem dX4_was_3 : decode cX4_was 3 = .ok (.getfield 75, 3) := by decide +kernel
theorem dX4_was_6 : decode cX4_was 6 = .ok (.invokestatic 42, 3) := by decide +kernel
theorem dX4_was_9 : decode cX4_was 9 = .ok (.ifCond .eq 29, 3) := by decide +kernel
theorem dX4_was_12 : decode cX4_was 12 = .ok (.iload_n 2, 1) := by decide +kernel
theorem dX4_was_13 : decode cX4_was 13 = .ok (.iload_n 3, 1) := by decide +kernel
theorem dX4_was_14 : decode cX4_was 14 = .ok (.iload 4, 2) := by decide +kernel
theorem dX4_was_16 : decode cX4_was 16 = .ok (.invokestatic 69, 3) := by decide +kernel
theorem dX4_was_19 : decode cX4_was 19 = .ok (.ifCond .eq 19, 3) := by decide +kernel
theorem dX4_was_22 : decode cX4_was 22 = .ok (.aload_n 0, 1) := by decide +kernel
theorem dX4_was_23 : decode cX4_was 23 = .ok (.iload_n 1, 1) := by decide +kernel
theorem dX4_was_24 : decode cX4_was 24 = .ok (.iload_n 2, 1) := by decide +kernel
theorem dX4_was_25 : decode cX4_was 25 = .ok (.bipush 16, 2) := by decide +kernel
theorem dX4_was_27 : decode cX4_was 27 = .ok (.iload_n 3, 1) := by decide +kernel
theorem dX4_was_28 : decode cX4_was 28 = .ok (.imul, 1) := by decide +kernel
theorem dX4_was_29 : decode cX4_was 29 = .ok (.iload 4, 2) := by decide +kernel
theorem dX4_was_31 : decode cX4_was 31 = .ok (.iadd, 1) := by decide +kernel
theorem dX4_was_32 : decode cX4_was 32 = .ok (.invokevirtual 72, 3) := by decide +kernel
theorem dX4_was_35 : decode cX4_was 35 = .ok (.goto 5, 3) := by decide +kernel
theorem dX4_was_38 : decode cX4_was 38 = .ok (.ldc 64, 2) := by decide +kernel
theorem dX4_was_40 : decode cX4_was 40 = .ok (.ireturn, 1) := by decide +kernel
set_option maxRecDepth 20000 in
theorem ggX4_claim_X4_isFunction : GoodIn wsX4_claim wsX4_isFunction := goodIn_r _ [13, 14, 15, 12, 16] (by decide +kernel) (by decide +kernel)
set_option maxRecDepth 20000 in
theorem gX4_claim_X4_isFunction : GoodIn wsX4_claim (va_wsS RX4 46 yX4_isFunction wsX4_isFunction) := goodIn_app (goodIn_of _ (by decide +kernel)) ggX4_claim_X4_isFunction
set_option maxRecDepth 20000 in
theorem ggX4_claim_X4_in : GoodIn wsX4_claim wsX4_in := goodIn_r _ [16] (by decide +kernel) (by decide +kernel)
set_option maxRecDepth 20000 in
theorem gX4_claim_X4_in : GoodIn wsX4_claim (va_wsS RX4 42 yX4_in wsX4_in) := goodIn_app (goodIn_of _ (by decide +kernel)) ggX4_claim_X4_in
theorem dX4_claim_0 : decode cX4_claim 0 = .ok (.iload_n 1, 1) := by decide +kernel
theorem dX4_claim_1 : decode cX4_claim 1 = .ok (.invokestatic 46, 3) := by decide +kernel
theorem dX4_claim_4 : decode cX4_claim 4 = .ok (.ifCond .eq 22, 3) := by decide +kernel
theorem dX4_claim_7 : decode cX4_claim 7 = .ok (.iload_n 2, 1) := by decide +kernel
theorem dX4_claim_8 : decode cX4_claim 8 = .ok (.iconst 0, 1) := by decide +kernel
theorem dX4_claim_9 : decode cX4_claim 9 = .ok (.bipush 7, 2) := by decide +kernel
theorem dX4_claim_11 : decode cX4_claim 11 = .ok (.invokestatic 42, 3) := by decide +kernel
theorem dX4_claim_14 : decode cX4_claim 14 = .ok (.ifCond .eq 12, 3) := by decide +kernel
theorem dX4_claim_17 : decode cX4_claim 17 = .ok (.aload_n 0, 1) := by decide +kernel
theorem dX4_claim_18 : decode cX4_claim 18 = .ok (.getfield 79, 3) := by decide +kernel
theorem dX4_claim_21 : decode cX4_claim 21 = .ok (.bipush 40, 2) := by decide +kernel
theorem dX4_claim_23 : decode cX4_claim 23 = .ok (.if_icmp .ne 5, 3) := by decide +kernel
theorem dX4_claim_26 : decode cX4_claim 26 = .ok (.iconst (-1), 1) := by decide +kernel
theorem dX4_claim_27 : decode cX4_claim 27 = .ok (.ireturn, 1) := by decide +kernel
theorem dX4_claim_28 : decode cX4_claim 28 = .ok (.iconst 1, 1) := by decide +kernel
theorem dX4_claim_29 : decode cX4_claim 29 = .ok (.istore 5, 2) := by decide +kernel
theorem dX4_claim_31 : decode cX4_claim 31 = .ok (.iload_n 2, 1) := by decide +kernel
theorem dX4_claim_32 : decode cX4_claim 32 = .ok (.tableswitch 144 0 7 #[48, 144, 144, 77, 144, 90, 123, 135], 48) := by decide +kernel
theorem dX4_claim_80 : decode cX4_claim 80 = .ok (.iload_n 3, 1) := by decide +kernel
theorem dX4_claim_81 : decode cX4_claim 81 = .ok (.ldc 82, 2) := by decide +kernel
theorem dX4_claim_83 : decode cX4_claim 83 = .ok (.if_icmp .lt 20, 3) := by decide +kernel
theorem dX4_claim_86 : decode cX4_claim 86 = .ok (.iload_n 3, 1) := by decide +kernel
theorem dX4_claim_87 : decode cX4_claim 87 = .ok (.iload 4, 2) := by decide +kernel
theorem dX4_claim_89 : decode cX4_claim 89 = .ok (.if_icmp .gt 14, 3) := by decide +kernel
theorem dX4_claim_92 : decode cX4_claim 92 = .ok (.iload 4, 2) := by decide +kernel
theorem dX4_claim_94 : decode cX4_claim 94 = .ok (.ldc 83, 2) := by decide +kernel
theorem dX4_claim_96 : decode cX4_claim 96 = .ok (.if_icmp .gt 7, 3) := by decide +kernel
theorem dX4_claim_99 : decode cX4_claim 99 = .ok (.iconst 1, 1) := by decide +kernel
theorem dX4_claim_100 : decode cX4_claim 100 = .ok (.goto 4, 3) := by decide +kernel
theorem dX4_claim_103 : decode cX4_claim 103 = .ok (.iconst 0, 1) := by decide +kernel
theorem dX4_claim_104 : decode cX4_claim 104 = .ok (.istore 5, 2) := by decide +kernel
theorem dX4_claim_106 : decode cX4_claim 106 = .ok (.goto 70, 3) := by decide +kernel
theorem dX4_claim_109 : decode cX4_claim 109 = .ok (.iload_n 3, 1) := by decide +kernel
theorem dX4_claim_110 : decode cX4_claim 110 = .ok (.iconst 1, 1) := by decide +kernel
theorem dX4_claim_111 : decode cX4_claim 111 = .ok (.sipush 1000, 3) := by decide +kernel
theorem dX4_claim_114 : decode cX4_claim 114 = .ok (.invokestatic 42, 3) := by decide +kernel
theorem dX4_claim_117 : decode cX4_claim 117 = .ok (.istore 5, 2) := by decide +kernel
theorem dX4_claim_119 : decode cX4_claim 119 = .ok (.goto 57, 3) := by decide +kernel
theorem dX4_claim_122 : decode cX4_claim 122 = .ok (.iload_n 3, 1) := by decide +kernel
theorem dX4_claim_123 : decode cX4_claim 123 = .ok (.iconst 0, 1) := by decide +kernel
theorem dX4_claim_124 : decode cX4_claim 124 = .ok (.sipush 255, 3) := by decide +kernel
theorem dX4_claim_127 : decode cX4_claim 127 = .ok (.invokestatic 42, 3) := by decide +kernel
theorem dX4_claim_130 : decode cX4_claim 130 = .ok (.ifCond .eq 19, 3) := by decide +kernel
theorem dX4_claim_133 : decode cX4_claim 133 = .ok (.iload 4, 2) := by decide +kernel
theorem dX4_claim_135 : decode cX4_claim 135 = .ok (.ldc 82, 2) := by decide +kernel
theorem dX4_claim_137 : decode cX4_claim 137 = .ok (.ldc 83, 2) := by decide +kernel
theorem dX4_claim_139 : decode cX4_claim 139 = .ok (.invokestatic 42, 3) := by decide +kernel
theorem dX4_claim_142 : decode cX4_claim 142 = .ok (.ifCond .eq 7, 3) := by decide +kernel
theorem dX4_claim_145 : decode cX4_claim 145 = .ok (.iconst 1, 1) := by decide +kernel
theorem dX4_claim_146 : decode cX4_claim 146 = .ok (.goto 4, 3) := by decide +kernel
theorem dX4_claim_149 : decode cX4_claim 149 = .ok (.iconst 0, 1) := by decide +kernel
theorem dX4_claim_150 : decode cX4_claim 150 = .ok (.istore 5, 2) := by decide +kernel
theorem dX4_claim_152 : decode cX4_claim 152 = .ok (.goto 24, 3) := by decide +kernel
theorem dX4_claim_155 : decode cX4_claim 155 = .ok (.iload_n 3, 1) := by decide +kernel
theorem dX4_claim_156 : decode cX4_claim 156 = .ok (.iconst 0, 1) := by decide +kernel
theorem dX4_claim_157 : decode cX4_claim 157 = .ok (.bipush 16, 2) := by decide +kernel
theorem dX4_claim_159 : decode cX4_claim 159 = .ok (.invokestatic 42, 3) := by decide +kernel
theorem dX4_claim_162 : decode cX4_claim 162 = .ok (.istore 5, 2) := by decide +kernel
theorem dX4_claim_164 : decode cX4_claim 164 = .ok (.goto 12, 3) := by decide +kernel
theorem dX4_claim_167 : decode cX4_claim 167 = .ok (.iload_n 3, 1) := by decide +kernel
theorem dX4_claim_168 : decode cX4_claim 168 = .ok (.invokestatic 46, 3) := by decide +kernel
theorem dX4_claim_171 : decode cX4_claim 171 = .ok (.istore 5, 2) := by decide +kernel
theorem dX4_claim_173 : decode cX4_claim 173 = .ok (.goto 3, 3) := by decide +kernel
theorem dX4_claim_176 : decode cX4_claim 176 = .ok (.iload 5, 2) := by decide +kernel
theorem dX4_claim_178 : decode cX4_claim 178 = .ok (.ifCond .ne 5, 3) := by decide +kernel
theorem dX4_claim_181 : decode cX4_claim 181 = .ok (.iconst (-1), 1) := by decide +kernel
theorem dX4_claim_182 : decode cX4_claim 182 = .ok (.ireturn, 1) := by decide +kernel
theorem dX4_claim_183 : decode cX4_claim 183 = .ok (.aload_n 0, 1) := by decide +kernel
theorem dX4_claim_184 : decode cX4_claim 184 = .ok (.getfield 20, 3) := by decide +kernel
theorem dX4_claim_187 : decode cX4_claim 187 = .ok (.aload_n 0, 1) := by decide +kernel
theorem dX4_claim_188 : decode cX4_claim 188 = .ok (.getfield 79, 3) := by decide +kernel
theorem dX4_claim_191 : decode cX4_claim 191 = .ok (.iload_n 1, 1) := by decide +kernel
theorem dX4_claim_192 : decode cX4_claim 192 = .ok (.iastore, 1) := by decide +kernel
theorem dX4_claim_193 : decode cX4_claim 193 = .ok (.aload_n 0, 1) := by decide +kernel
theorem dX4_claim_194 : decode cX4_claim 194 = .ok (.getfield 23, 3) := by decide +kernel
theorem dX4_claim_197 : decode cX4_claim 197 = .ok (.aload_n 0, 1) := by decide +kernel
theorem dX4_claim_198 : decode cX4_claim 198 = .ok (.getfield 79, 3) := by decide +kernel
theorem dX4_claim_201 : decode cX4_claim 201 = .ok (.iload_n 2, 1) := by decide +kernel
theorem dX4_claim_202 : decode cX4_claim 202 = .ok (.iastore, 1) := by decide +kernel
theorem dX4_claim_203 : decode cX4_claim 203 = .ok (.aload_n 0, 1) := by decide +kernel
theorem dX4_claim_204 : decode cX4_claim 204 = .ok (.getfield 26, 3) := by decide +kernel
theorem dX4_claim_207 : decode cX4_claim 207 = .ok (.aload_n 0, 1) := by decide +kernel
theorem dX4_claim_208 : decode cX4_claim 208 = .ok (.getfield 79, 3) := by decide +kernel
theorem dX4_claim_211 : decode cX4_claim 211 = .ok (.iload_n 3, 1) := by decide +kernel
theorem dX4_claim_212 : decode cX4_claim 212 = .ok (.iastore, 1) := by decide +kernel
theorem dX4_claim_213 : decode cX4_claim 213 = .ok (.aload_n 0, 1) := by decide +kernel
theorem dX4_claim_214 : decode cX4_claim 214 = .ok (.getfield 29, 3) := by decide +kernel
theorem dX4_claim_217 : decode cX4_claim 217 = .ok (.aload_n 0, 1) := by decide +kernel
theorem dX4_claim_218 : decode cX4_claim 218 = .ok (.getfield 79, 3) := by decide +kernel
theorem dX4_claim_221 : decode cX4_claim 221 = .ok (.iload 4, 2) := by decide +kernel
theorem dX4_claim_223 : decode cX4_claim 223 = .ok (.iastore, 1) := by decide +kernel
theorem dX4_claim_224 : decode cX4_claim 224 = .ok (.aload_n 0, 1) := by decide +kernel
theorem dX4_claim_225 : decode cX4_claim 225 = .ok (.getfield 32, 3) := by decide +kernel
theorem dX4_claim_228 : decode cX4_claim 228 = .ok (.aload_n 0, 1) := by decide +kernel
theorem dX4_claim_229 : decode cX4_claim 229 = .ok (.getfield 79, 3) := by decide +kernel
theorem dX4_claim_232 : decode cX4_claim 232 = .ok (.aload_n 0, 1) := by decide +kernel
theorem dX4_claim_233 : decode cX4_claim 233 = .ok (.getfield 75, 3) := by decide +kernel
theorem dX4_claim_236 : decode cX4_claim 236 = .ok (.iastore, 1) := by decide +kernel
theorem dX4_claim_237 : decode cX4_claim 237 = .ok (.aload_n 0, 1) := by decide +kernel
theorem dX4_claim_238 : decode cX4_claim 238 = .ok (.dup, 1) := by decide +kernel
theorem dX4_claim_239 : decode cX4_claim 239 = .ok (.getfield 79, 3) := by decide +kernel
theorem dX4_claim_242 : decode cX4_claim 242 = .ok (.iconst 1, 1) := by decide +kernel
theorem dX4_claim_243 : decode cX4_claim 243 = .ok (.iadd, 1) := by decide +kernel
theorem dX4_claim_244 : decode cX4_claim 244 = .ok (.putfield 79, 3) := by decide +kernel
theorem dX4_claim_247 : decode cX4_claim 247 = .ok (.aload_n 0, 1) := by decide +kernel
theorem dX4_claim_248 : decode cX4_claim 248 = .ok (.getfield 79, 3) := by decide +kernel
theorem dX4_claim_251 : decode cX4_claim 251 = .ok (.iconst 1, 1) := by decide +kernel
theorem dX4_claim_252 : decode cX4_claim 252 = .ok (.isub, 1) := by decide +kernel
theorem dX4_claim_253 : decode cX4_claim 253 = .ok (.ireturn, 1) := by decide +kernel
set_option maxRecDepth 20000 in
theorem ggX4_isClaim_X4_in : GoodIn wsX4_isClaim wsX4_in := goodIn_r _ [5] (by decide +kernel) (by decide +kernel)
set_option maxRecDepth 20000 in
theorem gX4_isClaim_X4_in : GoodIn wsX4_isClaim (va_wsS RX4 42 yX4_in wsX4_in) := goodIn_app (goodIn_of _ (by decide +kernel)) ggX4_isClaim_X4_in
theorem dX4_isClaim_0 : decode cX4_isClaim 0 = .ok (.iload_n 1, 1) := by decide +kernel
theorem dX4_isClaim_1 : decode cX4_isClaim 1 = .ok (.iconst 0, 1) := by decide +kernel
theorem dX4_isClaim_2 : decode cX4_isClaim 2 = .ok (.aload_n 0, 1) := by decide +kernel
theorem dX4_isClaim_3 : decode cX4_isClaim 3 = .ok (.getfield 79, 3) := by decide +kernel
theorem dX4_isClaim_6 : decode cX4_isClaim 6 = .ok (.iconst 1, 1) := by decide +kernel
theorem dX4_isClaim_7 : decode cX4_isClaim 7 = .ok (.isub, 1) := by decide +kernel
theorem dX4_isClaim_8 : decode cX4_isClaim 8 = .ok (.invokestatic 42, 3) := by decide +kernel
theorem dX4_isClaim_11 : decode cX4_isClaim 11 = .ok (.ireturn, 1) := by decide +kernel
set_option maxRecDepth 20000 in
theorem ggX4_denies_X4_give : GoodIn wsX4_denies wsX4_give := goodIn_r _ [10, 11, 12, 13, 9, 14, 15, 16, 17, 18, 19, 20, 21, 22, 23, 24, 25, 26, 27, 28] (by decide +kernel) (by decide +kernel)
set_option maxRecDepth 20000 in
theorem gX4_denies_X4_give : GoodIn wsX4_denies (wsV RX4 72 RX4 yX4_give wsX4_give) := goodIn_app (goodIn_of _ (by decide +kernel)) ggX4_denies_X4_give
theorem dX4_denies_0 : decode cX4_denies 0 = .ok (.aload_n 0, 1) := by decide +kernel
theorem dX4_denies_1 : decode cX4_denies 1 = .ok (.iload_n 2, 1) := by decide +kernel
theorem dX4_denies_2 : decode cX4_denies 2 = .ok (.aload_n 0, 1) := by decide +kernel
theorem dX4_denies_3 : decode cX4_denies 3 = .ok (.getfield 20, 3) := by decide +kernel
theorem dX4_denies_6 : decode cX4_denies 6 = .ok (.iload_n 1, 1) := by decide +kernel
theorem dX4_denies_7 : decode cX4_denies 7 = .ok (.iaload, 1) := by decide +kernel
theorem dX4_denies_8 : decode cX4_denies 8 = .ok (.iload_n 3, 1) := by decide +kernel
theorem dX4_denies_9 : decode cX4_denies 9 = .ok (.invokevirtual 72, 3) := by decide +kernel
theorem dX4_denies_12 : decode cX4_denies 12 = .ok (.istore 4, 2) := by decide +kernel
theorem dX4_denies_14 : decode cX4_denies 14 = .ok (.iload 4, 2) := by decide +kernel
theorem dX4_denies_16 : decode cX4_denies 16 = .ok (.ldc 64, 2) := by decide +kernel
theorem dX4_denies_18 : decode cX4_denies 18 = .ok (.if_icmp .ne 7, 3) := by decide +kernel
theorem dX4_denies_21 : decode cX4_denies 21 = .ok (.iconst 1, 1) := by decide +kernel
theorem dX4_denies_22 : decode cX4_denies 22 = .ok (.goto 4, 3) := by decide +kernel
theorem dX4_denies_25 : decode cX4_denies 25 = .ok (.iconst 0, 1) := by decide +kernel
theorem dX4_denies_26 : decode cX4_denies 26 = .ok (.istore 5, 2) := by decide +kernel
theorem dX4_denies_28 : decode cX4_denies 28 = .ok (.aload_n 0, 1) := by decide +kernel
theorem dX4_denies_29 : decode cX4_denies 29 = .ok (.getfield 26, 3) := by decide +kernel
theorem dX4_denies_32 : decode cX4_denies 32 = .ok (.iload_n 1, 1) := by decide +kernel
theorem dX4_denies_33 : decode cX4_denies 33 = .ok (.iaload, 1) := by decide +kernel
theorem dX4_denies_34 : decode cX4_denies 34 = .ok (.istore 6, 2) := by decide +kernel
theorem dX4_denies_36 : decode cX4_denies 36 = .ok (.aload_n 0, 1) := by decide +kernel
theorem dX4_denies_37 : decode cX4_denies 37 = .ok (.getfield 23, 3) := by decide +kernel
theorem dX4_denies_40 : decode cX4_denies 40 = .ok (.iload_n 1, 1) := by decide +kernel
theorem dX4_denies_41 : decode cX4_denies 41 = .ok (.iaload, 1) := by decide +kernel
theorem dX4_denies_42 : decode cX4_denies 42 = .ok (.tableswitch 232 0 6 #[42, 71, 74, 131, 150, 184, 207], 42) := by decide +kernel
theorem dX4_denies_84 : decode cX4_denies 84 = .ok (.iload 5, 2) := by decide +kernel
theorem dX4_denies_86 : decode cX4_denies 86 = .ok (.ifCond .ne 25, 3) := by decide +kernel
theorem dX4_denies_89 : decode cX4_denies 89 = .ok (.iload 4, 2) := by decide +kernel
theorem dX4_denies_91 : decode cX4_denies 91 = .ok (.iload 6, 2) := by decide +kernel
theorem dX4_denies_93 : decode cX4_denies 93 = .ok (.if_icmp .lt 14, 3) := by decide +kernel
theorem dX4_denies_96 : decode cX4_denies 96 = .ok (.iload 4, 2) := by decide +kernel
theorem dX4_denies_98 : decode cX4_denies 98 = .ok (.aload_n 0, 1) := by decide +kernel
theorem dX4_denies_99 : decode cX4_denies 99 = .ok (.getfield 29, 3) := by decide +kernel
theorem dX4_denies_102 : decode cX4_denies 102 = .ok (.iload_n 1, 1) := by decide +kernel
theorem dX4_denies_103 : decode cX4_denies 103 = .ok (.iaload, 1) := by decide +kernel
theorem dX4_denies_104 : decode cX4_denies 104 = .ok (.if_icmp .le 7, 3) := by decide +kernel
theorem dX4_denies_107 : decode cX4_denies 107 = .ok (.iconst 1, 1) := by decide +kernel
theorem dX4_denies_108 : decode cX4_denies 108 = .ok (.goto 4, 3) := by decide +kernel
theorem dX4_denies_111 : decode cX4_denies 111 = .ok (.iconst 0, 1) := by decide +kernel
theorem dX4_denies_112 : decode cX4_denies 112 = .ok (.ireturn, 1) := by decide +kernel
theorem dX4_denies_113 : decode cX4_denies 113 = .ok (.iload 5, 2) := by decide +kernel
theorem dX4_denies_115 : decode cX4_denies 115 = .ok (.ireturn, 1) := by decide +kernel
theorem dX4_denies_116 : decode cX4_denies 116 = .ok (.iload_n 3, 1) := by decide +kernel
theorem dX4_denies_117 : decode cX4_denies 117 = .ok (.bipush 16, 2) := by decide +kernel
theorem dX4_denies_119 : decode cX4_denies 119 = .ok (.iadd, 1) := by decide +kernel
theorem dX4_denies_120 : decode cX4_denies 120 = .ok (.sipush 256, 3) := by decide +kernel
theorem dX4_denies_123 : decode cX4_denies 123 = .ok (.if_icmp .ge 21, 3) := by decide +kernel
theorem dX4_denies_126 : decode cX4_denies 126 = .ok (.aload_n 0, 1) := by decide +kernel
theorem dX4_denies_127 : decode cX4_denies 127 = .ok (.iload_n 2, 1) := by decide +kernel
theorem dX4_denies_128 : decode cX4_denies 128 = .ok (.aload_n 0, 1) := by decide +kernel
theorem dX4_denies_129 : decode cX4_denies 129 = .ok (.getfield 20, 3) := by decide +kernel
theorem dX4_denies_132 : decode cX4_denies 132 = .ok (.iload_n 1, 1) := by decide +kernel
theorem dX4_denies_133 : decode cX4_denies 133 = .ok (.iaload, 1) := by decide +kernel
theorem dX4_denies_134 : decode cX4_denies 134 = .ok (.iload_n 3, 1) := by decide +kernel
theorem dX4_denies_135 : decode cX4_denies 135 = .ok (.bipush 16, 2) := by decide +kernel
theorem dX4_denies_137 : decode cX4_denies 137 = .ok (.iadd, 1) := by decide +kernel
theorem dX4_denies_138 : decode cX4_denies 138 = .ok (.invokevirtual 72, 3) := by decide +kernel
theorem dX4_denies_141 : decode cX4_denies 141 = .ok (.goto 5, 3) := by decide +kernel
theorem dX4_denies_144 : decode cX4_denies 144 = .ok (.ldc 64, 2) := by decide +kernel
theorem dX4_denies_146 : decode cX4_denies 146 = .ok (.istore 7, 2) := by decide +kernel
theorem dX4_denies_148 : decode cX4_denies 148 = .ok (.iload 5, 2) := by decide +kernel
theorem dX4_denies_150 : decode cX4_denies 150 = .ok (.ifCond .ne 21, 3) := by decide +kernel
theorem dX4_denies_153 : decode cX4_denies 153 = .ok (.iload 7, 2) := by decide +kernel
theorem dX4_denies_155 : decode cX4_denies 155 = .ok (.ldc 64, 2) := by decide +kernel
theorem dX4_denies_157 : decode cX4_denies 157 = .ok (.if_icmp .eq 14, 3) := by decide +kernel
theorem dX4_denies_160 : decode cX4_denies 160 = .ok (.iload 7, 2) := by decide +kernel
theorem dX4_denies_162 : decode cX4_denies 162 = .ok (.iload 4, 2) := by decide +kernel
theorem dX4_denies_164 : decode cX4_denies 164 = .ok (.if_icmp .ge 7, 3) := by decide +kernel
theorem dX4_denies_167 : decode cX4_denies 167 = .ok (.iconst 1, 1) := by decide +kernel
theorem dX4_denies_168 : decode cX4_denies 168 = .ok (.goto 4, 3) := by decide +kernel
theorem dX4_denies_171 : decode cX4_denies 171 = .ok (.iconst 0, 1) := by decide +kernel
theorem dX4_denies_172 : decode cX4_denies 172 = .ok (.ireturn, 1) := by decide +kernel
theorem dX4_denies_173 : decode cX4_denies 173 = .ok (.iload 5, 2) := by decide +kernel
theorem dX4_denies_175 : decode cX4_denies 175 = .ok (.ifCond .ne 15, 3) := by decide +kernel
theorem dX4_denies_178 : decode cX4_denies 178 = .ok (.iload 4, 2) := by decide +kernel
theorem dX4_denies_180 : decode cX4_denies 180 = .ok (.iload 6, 2) := by decide +kernel
theorem dX4_denies_182 : decode cX4_denies 182 = .ok (.irem, 1) := by decide +kernel
theorem dX4_denies_183 : decode cX4_denies 183 = .ok (.ifCond .eq 7, 3) := by decide +kernel
theorem dX4_denies_186 : decode cX4_denies 186 = .ok (.iconst 1, 1) := by decide +kernel
theorem dX4_denies_187 : decode cX4_denies 187 = .ok (.goto 4, 3) := by decide +kernel
theorem dX4_denies_190 : decode cX4_denies 190 = .ok (.iconst 0, 1) := by decide +kernel
theorem dX4_denies_191 : decode cX4_denies 191 = .ok (.ireturn, 1) := by decide +kernel
theorem dX4_denies_192 : decode cX4_denies 192 = .ok (.iload 4, 2) := by decide +kernel
theorem dX4_denies_194 : decode cX4_denies 194 = .ok (.aload_n 0, 1) := by decide +kernel
theorem dX4_denies_195 : decode cX4_denies 195 = .ok (.iload_n 2, 1) := by decide +kernel
theorem dX4_denies_196 : decode cX4_denies 196 = .ok (.aload_n 0, 1) := by decide +kernel
theorem dX4_denies_197 : decode cX4_denies 197 = .ok (.getfield 20, 3) := by decide +kernel
theorem dX4_denies_200 : decode cX4_denies 200 = .ok (.iload_n 1, 1) := by decide +kernel
theorem dX4_denies_201 : decode cX4_denies 201 = .ok (.iaload, 1) := by decide +kernel
theorem dX4_denies_202 : decode cX4_denies 202 = .ok (.iload_n 3, 1) := by decide +kernel
theorem dX4_denies_203 : decode cX4_denies 203 = .ok (.bipush 16, 2) := by decide +kernel
theorem dX4_denies_205 : decode cX4_denies 205 = .ok (.irem, 1) := by decide +kernel
theorem dX4_denies_206 : decode cX4_denies 206 = .ok (.bipush 16, 2) := by decide +kernel
theorem dX4_denies_208 : decode cX4_denies 208 = .ok (.imul, 1) := by decide +kernel
theorem dX4_denies_209 : decode cX4_denies 209 = .ok (.iload_n 3, 1) := by decide +kernel
theorem dX4_denies_210 : decode cX4_denies 210 = .ok (.bipush 16, 2) := by decide +kernel
theorem dX4_denies_212 : decode cX4_denies 212 = .ok (.idiv, 1) := by decide +kernel
theorem dX4_denies_213 : decode cX4_denies 213 = .ok (.iadd, 1) := by decide +kernel
theorem dX4_denies_214 : decode cX4_denies 214 = .ok (.invokevirtual 72, 3) := by decide +kernel
theorem dX4_denies_217 : decode cX4_denies 217 = .ok (.if_icmp .eq 7, 3) := by decide +kernel
theorem dX4_denies_220 : decode cX4_denies 220 = .ok (.iconst 1, 1) := by decide +kernel
theorem dX4_denies_221 : decode cX4_denies 221 = .ok (.goto 4, 3) := by decide +kernel
theorem dX4_denies_224 : decode cX4_denies 224 = .ok (.iconst 0, 1) := by decide +kernel
theorem dX4_denies_225 : decode cX4_denies 225 = .ok (.ireturn, 1) := by decide +kernel
theorem dX4_denies_226 : decode cX4_denies 226 = .ok (.iload_n 3, 1) := by decide +kernel
theorem dX4_denies_227 : decode cX4_denies 227 = .ok (.iload 6, 2) := by decide +kernel
theorem dX4_denies_229 : decode cX4_denies 229 = .ok (.if_icmp .ne 18, 3) := by decide +kernel
theorem dX4_denies_232 : decode cX4_denies 232 = .ok (.iload 4, 2) := by decide +kernel
theorem dX4_denies_234 : decode cX4_denies 234 = .ok (.aload_n 0, 1) := by decide +kernel
theorem dX4_denies_235 : decode cX4_denies 235 = .ok (.getfield 29, 3) := by decide +kernel
theorem dX4_denies_238 : decode cX4_denies 238 = .ok (.iload_n 1, 1) := by decide +kernel
theorem dX4_denies_239 : decode cX4_denies 239 = .ok (.iaload, 1) := by decide +kernel
theorem dX4_denies_240 : decode cX4_denies 240 = .ok (.if_icmp .eq 7, 3) := by decide +kernel
theorem dX4_denies_243 : decode cX4_denies 243 = .ok (.iconst 1, 1) := by decide +kernel
theorem dX4_denies_244 : decode cX4_denies 244 = .ok (.goto 4, 3) := by decide +kernel
theorem dX4_denies_247 : decode cX4_denies 247 = .ok (.iconst 0, 1) := by decide +kernel
theorem dX4_denies_248 : decode cX4_denies 248 = .ok (.ireturn, 1) := by decide +kernel
theorem dX4_denies_249 : decode cX4_denies 249 = .ok (.iload 5, 2) := by decide +kernel
theorem dX4_denies_251 : decode cX4_denies 251 = .ok (.iload_n 3, 1) := by decide +kernel
theorem dX4_denies_252 : decode cX4_denies 252 = .ok (.bipush 16, 2) := by decide +kernel
theorem dX4_denies_254 : decode cX4_denies 254 = .ok (.idiv, 1) := by decide +kernel
theorem dX4_denies_255 : decode cX4_denies 255 = .ok (.iload 6, 2) := by decide +kernel
theorem dX4_denies_257 : decode cX4_denies 257 = .ok (.if_icmp .lt 7, 3) := by decide +kernel
theorem dX4_denies_260 : decode cX4_denies 260 = .ok (.iconst 1, 1) := by decide +kernel
theorem dX4_denies_261 : decode cX4_denies 261 = .ok (.goto 4, 3) := by decide +kernel
theorem dX4_denies_264 : decode cX4_denies 264 = .ok (.iconst 0, 1) := by decide +kernel
theorem dX4_denies_265 : decode cX4_denies 265 = .ok (.if_icmp .eq 7, 3) := by decide +kernel
theorem dX4_denies_268 : decode cX4_denies 268 = .ok (.iconst 1, 1) := by decide +kernel
theorem dX4_denies_269 : decode cX4_denies 269 = .ok (.goto 4, 3) := by decide +kernel
theorem dX4_denies_272 : decode cX4_denies 272 = .ok (.iconst 0, 1) := by decide +kernel
theorem dX4_denies_273 : decode cX4_denies 273 = .ok (.ireturn, 1) := by decide +kernel
theorem dX4_denies_274 : decode cX4_denies 274 = .ok (.iload 4, 2) := by decide +kernel
theorem dX4_denies_276 : decode cX4_denies 276 = .ok (.aload_n 0, 1) := by decide +kernel
theorem dX4_denies_277 : decode cX4_denies 277 = .ok (.iload_n 2, 1) := by decide +kernel
theorem dX4_denies_278 : decode cX4_denies 278 = .ok (.iload 6, 2) := by decide +kernel
theorem dX4_denies_280 : decode cX4_denies 280 = .ok (.iload_n 3, 1) := by decide +kernel
theorem dX4_denies_281 : decode cX4_denies 281 = .ok (.invokevirtual 72, 3) := by decide +kernel
theorem dX4_denies_284 : decode cX4_denies 284 = .ok (.if_icmp .eq 7, 3) := by decide +kernel
theorem dX4_denies_287 : decode cX4_denies 287 = .ok (.iconst 1, 1) := by decide +kernel
theorem dX4_denies_288 : decode cX4_denies 288 = .ok (.goto 4, 3) := by decide +kernel
theorem dX4_denies_291 : decode cX4_denies 291 = .ok (.iconst 0, 1) := by decide +kernel
theorem dX4_denies_292 : decode cX4_denies 292 = .ok (.ireturn, 1) := by decide +kernel
set_option maxRecDepth 20000 in
theorem ggX4_harm_X4_denies : GoodIn wsX4_harm wsX4_denies := goodIn_r _ [5, 6, 7, 8, 9, 10, 11, 12, 13, 4, 14, 15, 16, 17, 18, 19, 20, 21, 22, 23, 24, 25, 26, 27, 28, 29, 30, 31, 32] (by decide +kernel) (by decide +kernel)
set_option maxRecDepth 20000 in
theorem gX4_harm_X4_denies : GoodIn wsX4_harm (wsV RX4 84 RX4 yX4_denies wsX4_denies) := goodIn_app (goodIn_of _ (by decide +kernel)) ggX4_harm_X4_denies
theorem dX4_harm_0 : decode cX4_harm 0 = .ok (.iconst 0, 1) := by decide +kernel
theorem dX4_harm_1 : decode cX4_harm 1 = .ok (.istore_n 3, 1) := by decide +kernel
theorem dX4_harm_2 : decode cX4_harm 2 = .ok (.iconst 0, 1) := by decide +kernel
theorem dX4_harm_3 : decode cX4_harm 3 = .ok (.istore 4, 2) := by decide +kernel
theorem dX4_harm_5 : decode cX4_harm 5 = .ok (.iload 4, 2) := by decide +kernel
theorem dX4_harm_7 : decode cX4_harm 7 = .ok (.sipush 256, 3) := by decide +kernel
theorem dX4_harm_10 : decode cX4_harm 10 = .ok (.if_icmp .ge 28, 3) := by decide +kernel
theorem dX4_harm_13 : decode cX4_harm 13 = .ok (.iload_n 3, 1) := by decide +kernel
theorem dX4_harm_14 : decode cX4_harm 14 = .ok (.aload_n 0, 1) := by decide +kernel
theorem dX4_harm_15 : decode cX4_harm 15 = .ok (.iload_n 1, 1) := by decide +kernel
theorem dX4_harm_16 : decode cX4_harm 16 = .ok (.iload_n 2, 1) := by decide +kernel
theorem dX4_harm_17 : decode cX4_harm 17 = .ok (.iload 4, 2) := by decide +kernel
theorem dX4_harm_19 : decode cX4_harm 19 = .ok (.invokevirtual 84, 3) := by decide +kernel
theorem dX4_harm_22 : decode cX4_harm 22 = .ok (.ifCond .eq 7, 3) := by decide +kernel
theorem dX4_harm_25 : decode cX4_harm 25 = .ok (.iconst 1, 1) := by decide +kernel
theorem dX4_harm_26 : decode cX4_harm 26 = .ok (.goto 4, 3) := by decide +kernel
theorem dX4_harm_29 : decode cX4_harm 29 = .ok (.iconst 0, 1) := by decide +kernel
theorem dX4_harm_30 : decode cX4_harm 30 = .ok (.iadd, 1) := by decide +kernel
theorem dX4_harm_31 : decode cX4_harm 31 = .ok (.istore_n 3, 1) := by decide +kernel
theorem dX4_harm_32 : decode cX4_harm 32 = .ok (.iinc 4 1, 3) := by decide +kernel
theorem dX4_harm_35 : decode cX4_harm 35 = .ok (.goto (-30), 3) := by decide +kernel
theorem dX4_harm_38 : decode cX4_harm 38 = .ok (.iload_n 3, 1) := by decide +kernel
theorem dX4_harm_39 : decode cX4_harm 39 = .ok (.ireturn, 1) := by decide +kernel
set_option maxRecDepth 20000 in
theorem ggX4_lastHeld_X4_harm : GoodIn wsX4_lastHeld wsX4_harm := goodIn_r _ [7, 8, 9, 10, 6, 11, 12, 13, 14, 15, 16, 17, 18, 19, 20, 21, 22, 23, 24, 25, 26, 27, 28, 29, 30, 31, 32, 33, 34, 35, 36, 37, 38] (by decide +kernel) (by decide +kernel)
set_option maxRecDepth 20000 in
theorem gX4_lastHeld_X4_harm : GoodIn wsX4_lastHeld (wsV RX4 87 RX4 yX4_harm wsX4_harm) := goodIn_app (goodIn_of _ (by decide +kernel)) ggX4_lastHeld_X4_harm
theorem dX4_lastHeld_0 : decode cX4_lastHeld 0 = .ok (.aload_n 0, 1) := by decide +kernel
theorem dX4_lastHeld_1 : decode cX4_lastHeld 1 = .ok (.getfield 75, 3) := by decide +kernel
theorem dX4_lastHeld_4 : decode cX4_lastHeld 4 = .ok (.istore_n 2, 1) := by decide +kernel
theorem dX4_lastHeld_5 : decode cX4_lastHeld 5 = .ok (.iload_n 2, 1) := by decide +kernel
theorem dX4_lastHeld_6 : decode cX4_lastHeld 6 = .ok (.aload_n 0, 1) := by decide +kernel
theorem dX4_lastHeld_7 : decode cX4_lastHeld 7 = .ok (.getfield 32, 3) := by decide +kernel
theorem dX4_lastHeld_10 : decode cX4_lastHeld 10 = .ok (.iload_n 1, 1) := by decide +kernel
theorem dX4_lastHeld_11 : decode cX4_lastHeld 11 = .ok (.iaload, 1) := by decide +kernel
theorem dX4_lastHeld_12 : decode cX4_lastHeld 12 = .ok (.if_icmp .lt 18, 3) := by decide +kernel
theorem dX4_lastHeld_15 : decode cX4_lastHeld 15 = .ok (.aload_n 0, 1) := by decide +kernel
theorem dX4_lastHeld_16 : decode cX4_lastHeld 16 = .ok (.iload_n 1, 1) := by decide +kernel
theorem dX4_lastHeld_17 : decode cX4_lastHeld 17 = .ok (.iload_n 2, 1) := by decide +kernel
theorem dX4_lastHeld_18 : decode cX4_lastHeld 18 = .ok (.invokevirtual 87, 3) := by decide +kernel
theorem dX4_lastHeld_21 : decode cX4_lastHeld 21 = .ok (.ifCond .le 9, 3) := by decide +kernel
theorem dX4_lastHeld_24 : decode cX4_lastHeld 24 = .ok (.iinc 2 (-1), 3) := by decide +kernel
theorem dX4_lastHeld_27 : decode cX4_lastHeld 27 = .ok (.goto (-22), 3) := by decide +kernel
theorem dX4_lastHeld_30 : decode cX4_lastHeld 30 = .ok (.iload_n 2, 1) := by decide +kernel
theorem dX4_lastHeld_31 : decode cX4_lastHeld 31 = .ok (.aload_n 0, 1) := by decide +kernel
theorem dX4_lastHeld_32 : decode cX4_lastHeld 32 = .ok (.getfield 32, 3) := by decide +kernel
theorem dX4_lastHeld_35 : decode cX4_lastHeld 35 = .ok (.iload_n 1, 1) := by decide +kernel
theorem dX4_lastHeld_36 : decode cX4_lastHeld 36 = .ok (.iaload, 1) := by decide +kernel
theorem dX4_lastHeld_37 : decode cX4_lastHeld 37 = .ok (.if_icmp .lt 7, 3) := by decide +kernel
theorem dX4_lastHeld_40 : decode cX4_lastHeld 40 = .ok (.iload_n 2, 1) := by decide +kernel
theorem dX4_lastHeld_41 : decode cX4_lastHeld 41 = .ok (.goto 4, 3) := by decide +kernel
theorem dX4_lastHeld_44 : decode cX4_lastHeld 44 = .ok (.iconst (-1), 1) := by decide +kernel
theorem dX4_lastHeld_45 : decode cX4_lastHeld 45 = .ok (.ireturn, 1) := by decide +kernel
set_option maxRecDepth 20000 in
theorem ggX4_isHeld_X4_harm : GoodIn wsX4_isHeld wsX4_harm := goodIn_r _ [5, 6, 7, 8, 4, 9, 10, 11, 12, 13, 14, 15, 16, 17, 18, 19, 20, 21, 22, 23, 24, 25, 26, 27, 28, 29, 30, 31, 32, 33, 34, 35, 36] (by decide +kernel) (by decide +kernel)
set_option maxRecDepth 20000 in
theorem gX4_isHeld_X4_harm : GoodIn wsX4_isHeld (wsV RX4 87 RX4 yX4_harm wsX4_harm) := goodIn_app (goodIn_of _ (by decide +kernel)) ggX4_isHeld_X4_harm
theorem dX4_isHeld_0 : decode cX4_isHeld 0 = .ok (.aload_n 0, 1) := by decide +kernel
theorem dX4_isHeld_1 : decode cX4_isHeld 1 = .ok (.iload_n 1, 1) := by decide +kernel
theorem dX4_isHeld_2 : decode cX4_isHeld 2 = .ok (.bipush 31, 2) := by decide +kernel
theorem dX4_isHeld_4 : decode cX4_isHeld 4 = .ok (.invokevirtual 87, 3) := by decide +kernel
theorem dX4_isHeld_7 : decode cX4_isHeld 7 = .ok (.ifCond .ne 7, 3) := by decide +kernel
theorem dX4_isHeld_10 : decode cX4_isHeld 10 = .ok (.iconst 1, 1) := by decide +kernel
theorem dX4_isHeld_11 : decode cX4_isHeld 11 = .ok (.goto 4, 3) := by decide +kernel
theorem dX4_isHeld_14 : decode cX4_isHeld 14 = .ok (.iconst 0, 1) := by decide +kernel
theorem dX4_isHeld_15 : decode cX4_isHeld 15 = .ok (.ireturn, 1) := by decide +kernel
set_option maxRecDepth 20000 in
theorem ggX4_stateOf_X4_isHeld : GoodIn wsX4_stateOf wsX4_isHeld := goodIn_r _ [5, 6, 7, 8, 4, 9, 10, 11, 12, 13, 14, 15, 16, 17, 18, 19, 20, 21, 22, 23, 24, 25, 26, 33, 34, 35, 36, 37, 38, 39, 40, 41, 42, 43, 44, 45, 46] (by decide +kernel) (by decide +kernel)
set_option maxRecDepth 20000 in
theorem gX4_stateOf_X4_isHeld : GoodIn wsX4_stateOf (wsV RX4 90 RX4 yX4_isHeld wsX4_isHeld) := goodIn_app (goodIn_of _ (by decide +kernel)) ggX4_stateOf_X4_isHeld
set_option maxRecDepth 20000 in
theorem ggX4_stateOf_X4_lastHeld : GoodIn wsX4_stateOf wsX4_lastHeld := goodIn_r _ [30, 31, 32, 6, 7, 8, 4, 9, 10, 11, 12, 13, 14, 15, 16, 17, 18, 19, 20, 21, 22, 23, 24, 25, 26, 33, 34, 35, 36, 37, 38, 39, 40, 41, 42, 43, 44, 45, 46] (by decide +kernel) (by decide +kernel)
set_option maxRecDepth 20000 in
theorem gX4_stateOf_X4_lastHeld : GoodIn wsX4_stateOf (wsV RX4 93 RX4 yX4_lastHeld wsX4_lastHeld) := goodIn_app (goodIn_of _ (by decide +kernel)) ggX4_stateOf_X4_lastHeld
theorem dX4_stateOf_0 : decode cX4_stateOf 0 = .ok (.aload_n 0, 1) := by decide +kernel
theorem dX4_stateOf_1 : decode cX4_stateOf 1 = .ok (.iload_n 1, 1) := by decide +kernel
theorem dX4_stateOf_2 : decode cX4_stateOf 2 = .ok (.invokevirtual 90, 3) := by decide +kernel
theorem dX4_stateOf_5 : decode cX4_stateOf 5 = .ok (.ifCond .eq 7, 3) := by decide +kernel
theorem dX4_stateOf_8 : decode cX4_stateOf 8 = .ok (.iconst 0, 1) := by decide +kernel
theorem dX4_stateOf_9 : decode cX4_stateOf 9 = .ok (.goto 17, 3) := by decide +kernel
theorem dX4_stateOf_12 : decode cX4_stateOf 12 = .ok (.aload_n 0, 1) := by decide +kernel
theorem dX4_stateOf_13 : decode cX4_stateOf 13 = .ok (.iload_n 1, 1) := by decide +kernel
theorem dX4_stateOf_14 : decode cX4_stateOf 14 = .ok (.invokevirtual 93, 3) := by decide +kernel
theorem dX4_stateOf_17 : decode cX4_stateOf 17 = .ok (.iconst (-1), 1) := by decide +kernel
theorem dX4_stateOf_18 : decode cX4_stateOf 18 = .ok (.if_icmp .ne 7, 3) := by decide +kernel
theorem dX4_stateOf_21 : decode cX4_stateOf 21 = .ok (.iconst 1, 1) := by decide +kernel
theorem dX4_stateOf_22 : decode cX4_stateOf 22 = .ok (.goto 4, 3) := by decide +kernel
theorem dX4_stateOf_25 : decode cX4_stateOf 25 = .ok (.iconst 2, 1) := by decide +kernel
theorem dX4_stateOf_26 : decode cX4_stateOf 26 = .ok (.ireturn, 1) := by decide +kernel
set_option maxRecDepth 20000 in
theorem ggX4_told_X4_isClaim : GoodIn wsX4_told wsX4_isClaim := goodIn_r _ [11, 12, 13, 14, 10, 15, 46, 47, 48, 49, 50, 51, 52, 53, 54, 55, 56, 57, 58, 59] (by decide +kernel) (by decide +kernel)
set_option maxRecDepth 20000 in
theorem gX4_told_X4_isClaim : GoodIn wsX4_told (wsV RX4 97 RX4 yX4_isClaim wsX4_isClaim) := goodIn_app (goodIn_of _ (by decide +kernel)) ggX4_told_X4_isClaim
set_option maxRecDepth 20000 in
theorem ggX4_told_X4_stateOf : GoodIn wsX4_told wsX4_stateOf := goodIn_r _ [19, 20, 21, 22, 10, 23, 24, 25, 26, 27, 28, 29, 30, 31, 2, 1, 4, 3, 5, 32, 33, 34, 35, 36, 37, 38, 39, 40, 41, 42, 43, 44, 45, 46, 47, 48, 49, 50, 51, 52, 53, 54, 55, 56, 57, 58, 59] (by decide +kernel) (by decide +kernel)
set_option maxRecDepth 20000 in
theorem gX4_told_X4_stateOf : GoodIn wsX4_told (wsV RX4 100 RX4 yX4_stateOf wsX4_stateOf) := goodIn_app (goodIn_of _ (by decide +kernel)) ggX4_told_X4_stateOf
set_option maxRecDepth 20000 in
theorem ggX4_told_X4_harm : GoodIn wsX4_told wsX4_harm := goodIn_r _ [27, 28, 29, 30, 10, 31, 2, 1, 4, 3, 5, 32, 33, 34, 35, 36, 37, 38, 39, 46, 47, 48, 49, 50, 51, 52, 53, 54, 55, 56, 57, 58, 59] (by decide +kernel) (by decide +kernel)
set_option maxRecDepth 20000 in
theorem gX4_told_X4_harm : GoodIn wsX4_told (wsV RX4 87 RX4 yX4_harm wsX4_harm) := goodIn_app (goodIn_of _ (by decide +kernel)) ggX4_told_X4_harm
set_option maxRecDepth 20000 in
theorem ggX4_told_X4_lastHeld : GoodIn wsX4_told wsX4_lastHeld := goodIn_r _ [43, 44, 45, 24, 25, 26, 10, 27, 28, 29, 30, 31, 2, 1, 4, 3, 5, 32, 33, 34, 35, 36, 37, 38, 39, 46, 47, 48, 49, 50, 51, 52, 53, 54, 55, 56, 57, 58, 59] (by decide +kernel) (by decide +kernel)
set_option maxRecDepth 20000 in
theorem gX4_told_X4_lastHeld : GoodIn wsX4_told (wsV RX4 93 RX4 yX4_lastHeld wsX4_lastHeld) := goodIn_app (goodIn_of _ (by decide +kernel)) ggX4_told_X4_lastHeld
theorem dX4_told_0 : decode cX4_told 0 = .ok (.aload_n 0, 1) := by decide +kernel
theorem dX4_told_1 : decode cX4_told 1 = .ok (.iload_n 1, 1) := by decide +kernel
theorem dX4_told_2 : decode cX4_told 2 = .ok (.invokevirtual 97, 3) := by decide +kernel
theorem dX4_told_5 : decode cX4_told 5 = .ok (.ifCond .ne 6, 3) := by decide +kernel
theorem dX4_told_8 : decode cX4_told 8 = .ok (.ldc 64, 2) := by decide +kernel
theorem dX4_told_10 : decode cX4_told 10 = .ok (.ireturn, 1) := by decide +kernel
theorem dX4_told_11 : decode cX4_told 11 = .ok (.iload_n 2, 1) := by decide +kernel
theorem dX4_told_12 : decode cX4_told 12 = .ok (.tableswitch 126 0 7 #[48, 54, 61, 68, 75, 82, 90, 111], 48) := by decide +kernel
theorem dX4_told_60 : decode cX4_told 60 = .ok (.aload_n 0, 1) := by decide +kernel
theorem dX4_told_61 : decode cX4_told 61 = .ok (.iload_n 1, 1) := by decide +kernel
theorem dX4_told_62 : decode cX4_told 62 = .ok (.invokevirtual 100, 3) := by decide +kernel
theorem dX4_told_65 : decode cX4_told 65 = .ok (.ireturn, 1) := by decide +kernel
theorem dX4_told_66 : decode cX4_told 66 = .ok (.aload_n 0, 1) := by decide +kernel
theorem dX4_told_67 : decode cX4_told 67 = .ok (.getfield 20, 3) := by decide +kernel
theorem dX4_told_70 : decode cX4_told 70 = .ok (.iload_n 1, 1) := by decide +kernel
theorem dX4_told_71 : decode cX4_told 71 = .ok (.iaload, 1) := by decide +kernel
theorem dX4_told_72 : decode cX4_told 72 = .ok (.ireturn, 1) := by decide +kernel
theorem dX4_told_73 : decode cX4_told 73 = .ok (.aload_n 0, 1) := by decide +kernel
theorem dX4_told_74 : decode cX4_told 74 = .ok (.getfield 23, 3) := by decide +kernel
theorem dX4_told_77 : decode cX4_told 77 = .ok (.iload_n 1, 1) := by decide +kernel
theorem dX4_told_78 : decode cX4_told 78 = .ok (.iaload, 1) := by decide +kernel
theorem dX4_told_79 : decode cX4_told 79 = .ok (.ireturn, 1) := by decide +kernel
theorem dX4_told_80 : decode cX4_told 80 = .ok (.aload_n 0, 1) := by decide +kernel
theorem dX4_told_81 : decode cX4_told 81 = .ok (.getfield 26, 3) := by decide +kernel
theorem dX4_told_84 : decode cX4_told 84 = .ok (.iload_n 1, 1) := by decide +kernel
theorem dX4_told_85 : decode cX4_told 85 = .ok (.iaload, 1) := by decide +kernel
theorem dX4_told_86 : decode cX4_told 86 = .ok (.ireturn, 1) := by decide +kernel
theorem dX4_told_87 : decode cX4_told 87 = .ok (.aload_n 0, 1) := by decide +kernel
theorem dX4_told_88 : decode cX4_told 88 = .ok (.getfield 29, 3) := by decide +kernel
theorem dX4_told_91 : decode cX4_told 91 = .ok (.iload_n 1, 1) := by decide +kernel
theorem dX4_told_92 : decode cX4_told 92 = .ok (.iaload, 1) := by decide +kernel
theorem dX4_told_93 : decode cX4_told 93 = .ok (.ireturn, 1) := by decide +kernel
theorem dX4_told_94 : decode cX4_told 94 = .ok (.aload_n 0, 1) := by decide +kernel
theorem dX4_told_95 : decode cX4_told 95 = .ok (.iload_n 1, 1) := by decide +kernel
theorem dX4_told_96 : decode cX4_told 96 = .ok (.bipush 31, 2) := by decide +kernel
theorem dX4_told_98 : decode cX4_told 98 = .ok (.invokevirtual 87, 3) := by decide +kernel
theorem dX4_told_101 : decode cX4_told 101 = .ok (.ireturn, 1) := by decide +kernel
theorem dX4_told_102 : decode cX4_told 102 = .ok (.aload_n 0, 1) := by decide +kernel
theorem dX4_told_103 : decode cX4_told 103 = .ok (.iload_n 1, 1) := by decide +kernel
theorem dX4_told_104 : decode cX4_told 104 = .ok (.invokevirtual 100, 3) := by decide +kernel
theorem dX4_told_107 : decode cX4_told 107 = .ok (.iconst 2, 1) := by decide +kernel
theorem dX4_told_108 : decode cX4_told 108 = .ok (.if_icmp .ne 13, 3) := by decide +kernel
theorem dX4_told_111 : decode cX4_told 111 = .ok (.aload_n 0, 1) := by decide +kernel
theorem dX4_told_112 : decode cX4_told 112 = .ok (.iload_n 1, 1) := by decide +kernel
theorem dX4_told_113 : decode cX4_told 113 = .ok (.invokevirtual 93, 3) := by decide +kernel
theorem dX4_told_116 : decode cX4_told 116 = .ok (.iconst 1, 1) := by decide +kernel
theorem dX4_told_117 : decode cX4_told 117 = .ok (.iadd, 1) := by decide +kernel
theorem dX4_told_118 : decode cX4_told 118 = .ok (.goto 4, 3) := by decide +kernel
theorem dX4_told_121 : decode cX4_told 121 = .ok (.iconst (-1), 1) := by decide +kernel
theorem dX4_told_122 : decode cX4_told 122 = .ok (.ireturn, 1) := by decide +kernel
theorem dX4_told_123 : decode cX4_told 123 = .ok (.aload_n 0, 1) := by decide +kernel
theorem dX4_told_124 : decode cX4_told 124 = .ok (.getfield 35, 3) := by decide +kernel
theorem dX4_told_127 : decode cX4_told 127 = .ok (.iload_n 1, 1) := by decide +kernel
theorem dX4_told_128 : decode cX4_told 128 = .ok (.baload, 1) := by decide +kernel
theorem dX4_told_129 : decode cX4_told 129 = .ok (.ifCond .eq 7, 3) := by decide +kernel
theorem dX4_told_132 : decode cX4_told 132 = .ok (.iconst 1, 1) := by decide +kernel
theorem dX4_told_133 : decode cX4_told 133 = .ok (.goto 4, 3) := by decide +kernel
theorem dX4_told_136 : decode cX4_told 136 = .ok (.iconst 0, 1) := by decide +kernel
theorem dX4_told_137 : decode cX4_told 137 = .ok (.ireturn, 1) := by decide +kernel
theorem dX4_told_138 : decode cX4_told 138 = .ok (.ldc 64, 2) := by decide +kernel
theorem dX4_told_140 : decode cX4_told 140 = .ok (.ireturn, 1) := by decide +kernel
set_option maxRecDepth 20000 in
theorem ggX4_denied_X4_isClaim : GoodIn wsX4_denied wsX4_isClaim := goodIn_r _ [5, 6, 7, 8, 4, 9, 27, 28, 29, 30, 31, 32, 33, 34, 35, 36, 37, 38, 39, 40] (by decide +kernel) (by decide +kernel)
set_option maxRecDepth 20000 in
theorem gX4_denied_X4_isClaim : GoodIn wsX4_denied (wsV RX4 97 RX4 yX4_isClaim wsX4_isClaim) := goodIn_app (goodIn_of _ (by decide +kernel)) ggX4_denied_X4_isClaim
set_option maxRecDepth 20000 in
theorem ggX4_denied_X4_denies : GoodIn wsX4_denied wsX4_denies := goodIn_r _ [13, 14, 15, 16, 17, 18, 19, 20, 21, 4, 22, 23, 24, 25, 26, 27, 28, 29, 30, 31, 32, 33, 34, 35, 36, 37, 38, 39, 40] (by decide +kernel) (by decide +kernel)
set_option maxRecDepth 20000 in
theorem gX4_denied_X4_denies : GoodIn wsX4_denied (wsV RX4 84 RX4 yX4_denies wsX4_denies) := goodIn_app (goodIn_of _ (by decide +kernel)) ggX4_denied_X4_denies
theorem dX4_denied_0 : decode cX4_denied 0 = .ok (.aload_n 0, 1) := by decide +kernel
theorem dX4_denied_1 : decode cX4_denied 1 = .ok (.iload_n 1, 1) := by decide +kernel
theorem dX4_denied_2 : decode cX4_denied 2 = .ok (.invokevirtual 97, 3) := by decide +kernel
theorem dX4_denied_5 : decode cX4_denied 5 = .ok (.ifCond .ne 5, 3) := by decide +kernel
theorem dX4_denied_8 : decode cX4_denied 8 = .ok (.iconst (-1), 1) := by decide +kernel
theorem dX4_denied_9 : decode cX4_denied 9 = .ok (.ireturn, 1) := by decide +kernel
theorem dX4_denied_10 : decode cX4_denied 10 = .ok (.iconst 0, 1) := by decide +kernel
theorem dX4_denied_11 : decode cX4_denied 11 = .ok (.istore_n 2, 1) := by decide +kernel
theorem dX4_denied_12 : decode cX4_denied 12 = .ok (.iload_n 2, 1) := by decide +kernel
theorem dX4_denied_13 : decode cX4_denied 13 = .ok (.sipush 256, 3) := by decide +kernel
theorem dX4_denied_16 : decode cX4_denied 16 = .ok (.if_icmp .ge 22, 3) := by decide +kernel
theorem dX4_denied_19 : decode cX4_denied 19 = .ok (.aload_n 0, 1) := by decide +kernel
theorem dX4_denied_20 : decode cX4_denied 20 = .ok (.iload_n 1, 1) := by decide +kernel
theorem dX4_denied_21 : decode cX4_denied 21 = .ok (.bipush 31, 2) := by decide +kernel
theorem dX4_denied_23 : decode cX4_denied 23 = .ok (.iload_n 2, 1) := by decide +kernel
theorem dX4_denied_24 : decode cX4_denied 24 = .ok (.invokevirtual 84, 3) := by decide +kernel
theorem dX4_denied_27 : decode cX4_denied 27 = .ok (.ifCond .eq 5, 3) := by decide +kernel
theorem dX4_denied_30 : decode cX4_denied 30 = .ok (.iload_n 2, 1) := by decide +kernel
theorem dX4_denied_31 : decode cX4_denied 31 = .ok (.ireturn, 1) := by decide +kernel
theorem dX4_denied_32 : decode cX4_denied 32 = .ok (.iinc 2 1, 3) := by decide +kernel
theorem dX4_denied_35 : decode cX4_denied 35 = .ok (.goto (-23), 3) := by decide +kernel
theorem dX4_denied_38 : decode cX4_denied 38 = .ok (.iconst (-1), 1) := by decide +kernel
theorem dX4_denied_39 : decode cX4_denied 39 = .ok (.ireturn, 1) := by decide +kernel
set_option maxRecDepth 20000 in
theorem ggX4_mends_X4_isClaim : GoodIn wsX4_mends wsX4_isClaim := goodIn_r _ [10, 11, 12, 13, 9, 14, 52, 53, 54, 55, 56, 57, 58, 59, 60, 61, 62, 63, 64, 65] (by decide +kernel) (by decide +kernel)
set_option maxRecDepth 20000 in
theorem gX4_mends_X4_isClaim : GoodIn wsX4_mends (wsV RX4 97 RX4 yX4_isClaim wsX4_isClaim) := goodIn_app (goodIn_of _ (by decide +kernel)) ggX4_mends_X4_isClaim
set_option maxRecDepth 20000 in
theorem ggX4_mends_X4_isHeld : GoodIn wsX4_mends wsX4_isHeld := goodIn_r _ [18, 19, 20, 21, 9, 22, 23, 24, 25, 26, 2, 5, 3, 1, 27, 28, 29, 30, 31, 32, 33, 34, 35, 52, 53, 54, 55, 56, 57, 58, 59, 60, 61, 62, 63, 64, 65] (by decide +kernel) (by decide +kernel)
set_option maxRecDepth 20000 in
theorem gX4_mends_X4_isHeld : GoodIn wsX4_mends (wsV RX4 90 RX4 yX4_isHeld wsX4_isHeld) := goodIn_app (goodIn_of _ (by decide +kernel)) ggX4_mends_X4_isHeld
set_option maxRecDepth 20000 in
theorem ggX4_mends_X4_spans : GoodIn wsX4_mends wsX4_spans := goodIn_r _ [39, 40, 4, 41, 42, 2, 5, 43, 28, 29, 30, 9, 31, 32, 33, 34, 35, 52, 53, 54, 55, 56, 57, 58, 59, 60, 61, 62, 63, 64, 65] (by decide +kernel) (by decide +kernel)
set_option maxRecDepth 20000 in
theorem gX4_mends_X4_spans : GoodIn wsX4_mends (wsV RX4 103 RX4 yX4_spans wsX4_spans) := goodIn_app (goodIn_of _ (by decide +kernel)) ggX4_mends_X4_spans
set_option maxRecDepth 20000 in
theorem ggX4_mends_X4_divides : GoodIn wsX4_mends wsX4_divides := goodIn_r _ [47, 4, 2, 5, 28, 29, 30, 9, 31, 32, 33, 34, 35, 52, 53, 54, 55, 56, 57, 58, 59, 60, 61, 62, 63, 64, 65] (by decide +kernel) (by decide +kernel)
set_option maxRecDepth 20000 in
theorem gX4_mends_X4_divides : GoodIn wsX4_mends (wsV RX4 106 RX4 yX4_divides wsX4_divides) := goodIn_app (goodIn_of _ (by decide +kernel)) ggX4_mends_X4_divides
set_option maxRecDepth 20000 in
theorem ggX4_mends_X4_give : GoodIn wsX4_mends wsX4_give := goodIn_r _ [31, 32, 33, 34, 9, 35, 52, 53, 54, 55, 56, 57, 58, 59, 60, 61, 62, 63, 64, 65] (by decide +kernel) (by decide +kernel)
set_option maxRecDepth 20000 in
theorem gX4_mends_X4_give : GoodIn wsX4_mends (wsV RX4 72 RX4 yX4_give wsX4_give) := goodIn_app (goodIn_of _ (by decide +kernel)) ggX4_mends_X4_give
set_option maxRecDepth 20000 in
theorem ggX4_mends_X4_refuses : GoodIn wsX4_mends wsX4_refuses := goodIn_r _ [51, 3, 4, 15, 16, 17, 9, 18, 19, 20, 21, 22, 23, 24, 25, 26, 2, 5, 1, 27, 28, 29, 30, 31, 32, 33, 34, 35, 52, 53, 54, 55, 56, 57, 58, 59, 60, 61, 62, 63, 64, 65] (by decide +kernel) (by decide +kernel)
set_option maxRecDepth 20000 in
theorem gX4_mends_X4_refuses : GoodIn wsX4_mends (wsV RX4 112 RX4 yX4_refuses wsX4_refuses) := goodIn_app (goodIn_of _ (by decide +kernel)) ggX4_mends_X4_refuses
theorem dX4_mends_0 : decode cX4_mends 0 = .ok (.aload_n 0, 1) := by decide +kernel
theorem dX4_mends_1 : decode cX4_mends 1 = .ok (.iload_n 1, 1) := by decide +kernel
theorem dX4_mends_2 : decode cX4_mends 2 = .ok (.invokevirtual 97, 3) := by decide +kernel
theorem dX4_mends_5 : decode cX4_mends 5 = .ok (.ifCond .eq 11, 3) := by decide +kernel
theorem dX4_mends_8 : decode cX4_mends 8 = .ok (.aload_n 0, 1) := by decide +kernel
theorem dX4_mends_9 : decode cX4_mends 9 = .ok (.iload_n 1, 1) := by decide +kernel
theorem dX4_mends_10 : decode cX4_mends 10 = .ok (.invokevirtual 90, 3) := by decide +kernel
theorem dX4_mends_13 : decode cX4_mends 13 = .ok (.ifCond .eq 5, 3) := by decide +kernel
theorem dX4_mends_16 : decode cX4_mends 16 = .ok (.iconst 0, 1) := by decide +kernel
theorem dX4_mends_17 : decode cX4_mends 17 = .ok (.ireturn, 1) := by decide +kernel
theorem dX4_mends_18 : decode cX4_mends 18 = .ok (.aload_n 0, 1) := by decide +kernel
theorem dX4_mends_19 : decode cX4_mends 19 = .ok (.getfield 23, 3) := by decide +kernel
theorem dX4_mends_22 : decode cX4_mends 22 = .ok (.iload_n 1, 1) := by decide +kernel
theorem dX4_mends_23 : decode cX4_mends 23 = .ok (.iaload, 1) := by decide +kernel
theorem dX4_mends_24 : decode cX4_mends 24 = .ok (.tableswitch 99 0 6 #[44, 99, 99, 50, 99, 56, 93], 44) := by decide +kernel
theorem dX4_mends_68 : decode cX4_mends 68 = .ok (.aload_n 0, 1) := by decide +kernel
theorem dX4_mends_69 : decode cX4_mends 69 = .ok (.iload_n 1, 1) := by decide +kernel
theorem dX4_mends_70 : decode cX4_mends 70 = .ok (.invokevirtual 103, 3) := by decide +kernel
theorem dX4_mends_73 : decode cX4_mends 73 = .ok (.ireturn, 1) := by decide +kernel
theorem dX4_mends_74 : decode cX4_mends 74 = .ok (.aload_n 0, 1) := by decide +kernel
theorem dX4_mends_75 : decode cX4_mends 75 = .ok (.iload_n 1, 1) := by decide +kernel
theorem dX4_mends_76 : decode cX4_mends 76 = .ok (.invokevirtual 106, 3) := by decide +kernel
theorem dX4_mends_79 : decode cX4_mends 79 = .ok (.ireturn, 1) := by decide +kernel
theorem dX4_mends_80 : decode cX4_mends 80 = .ok (.aload_n 0, 1) := by decide +kernel
theorem dX4_mends_81 : decode cX4_mends 81 = .ok (.aload_n 0, 1) := by decide +kernel
theorem dX4_mends_82 : decode cX4_mends 82 = .ok (.bipush 31, 2) := by decide +kernel
theorem dX4_mends_84 : decode cX4_mends 84 = .ok (.aload_n 0, 1) := by decide +kernel
theorem dX4_mends_85 : decode cX4_mends 85 = .ok (.getfield 20, 3) := by decide +kernel
theorem dX4_mends_88 : decode cX4_mends 88 = .ok (.iload_n 1, 1) := by decide +kernel
theorem dX4_mends_89 : decode cX4_mends 89 = .ok (.iaload, 1) := by decide +kernel
theorem dX4_mends_90 : decode cX4_mends 90 = .ok (.aload_n 0, 1) := by decide +kernel
theorem dX4_mends_91 : decode cX4_mends 91 = .ok (.getfield 26, 3) := by decide +kernel
theorem dX4_mends_94 : decode cX4_mends 94 = .ok (.iload_n 1, 1) := by decide +kernel
theorem dX4_mends_95 : decode cX4_mends 95 = .ok (.iaload, 1) := by decide +kernel
theorem dX4_mends_96 : decode cX4_mends 96 = .ok (.invokevirtual 72, 3) := by decide +kernel
theorem dX4_mends_99 : decode cX4_mends 99 = .ok (.putfield 109, 3) := by decide +kernel
theorem dX4_mends_102 : decode cX4_mends 102 = .ok (.aload_n 0, 1) := by decide +kernel
theorem dX4_mends_103 : decode cX4_mends 103 = .ok (.getfield 109, 3) := by decide +kernel
theorem dX4_mends_106 : decode cX4_mends 106 = .ok (.ldc 64, 2) := by decide +kernel
theorem dX4_mends_108 : decode cX4_mends 108 = .ok (.if_icmp .eq 7, 3) := by decide +kernel
theorem dX4_mends_111 : decode cX4_mends 111 = .ok (.iconst 1, 1) := by decide +kernel
theorem dX4_mends_112 : decode cX4_mends 112 = .ok (.goto 4, 3) := by decide +kernel
theorem dX4_mends_115 : decode cX4_mends 115 = .ok (.iconst 0, 1) := by decide +kernel
theorem dX4_mends_116 : decode cX4_mends 116 = .ok (.ireturn, 1) := by decide +kernel
theorem dX4_mends_117 : decode cX4_mends 117 = .ok (.aload_n 0, 1) := by decide +kernel
theorem dX4_mends_118 : decode cX4_mends 118 = .ok (.iload_n 1, 1) := by decide +kernel
theorem dX4_mends_119 : decode cX4_mends 119 = .ok (.invokevirtual 112, 3) := by decide +kernel
theorem dX4_mends_122 : decode cX4_mends 122 = .ok (.ireturn, 1) := by decide +kernel
theorem dX4_mends_123 : decode cX4_mends 123 = .ok (.iconst 0, 1) := by decide +kernel
theorem dX4_mends_124 : decode cX4_mends 124 = .ok (.ireturn, 1) := by decide +kernel
set_option maxRecDepth 20000 in
theorem ggX4_spans_X4_give : GoodIn wsX4_spans wsX4_give := goodIn_r _ [12, 13, 14, 15, 11, 16, 17, 18, 19, 20, 21, 22, 23, 24, 25, 26, 27, 28, 29, 30] (by decide +kernel) (by decide +kernel)
set_option maxRecDepth 20000 in
theorem gX4_spans_X4_give : GoodIn wsX4_spans (wsV RX4 72 RX4 yX4_give wsX4_give) := goodIn_app (goodIn_of _ (by decide +kernel)) ggX4_spans_X4_give
theorem dX4_spans_0 : decode cX4_spans 0 = .ok (.aload_n 0, 1) := by decide +kernel
theorem dX4_spans_1 : decode cX4_spans 1 = .ok (.ldc 115, 2) := by decide +kernel
theorem dX4_spans_3 : decode cX4_spans 3 = .ok (.putfield 109, 3) := by decide +kernel
theorem dX4_spans_6 : decode cX4_spans 6 = .ok (.aload_n 0, 1) := by decide +kernel
theorem dX4_spans_7 : decode cX4_spans 7 = .ok (.ldc 116, 2) := by decide +kernel
theorem dX4_spans_9 : decode cX4_spans 9 = .ok (.putfield 117, 3) := by decide +kernel
theorem dX4_spans_12 : decode cX4_spans 12 = .ok (.iconst 0, 1) := by decide +kernel
theorem dX4_spans_13 : decode cX4_spans 13 = .ok (.istore_n 2, 1) := by decide +kernel
theorem dX4_spans_14 : decode cX4_spans 14 = .ok (.iload_n 2, 1) := by decide +kernel
theorem dX4_spans_15 : decode cX4_spans 15 = .ok (.sipush 256, 3) := by decide +kernel
theorem dX4_spans_18 : decode cX4_spans 18 = .ok (.if_icmp .ge 58, 3) := by decide +kernel
theorem dX4_spans_21 : decode cX4_spans 21 = .ok (.aload_n 0, 1) := by decide +kernel
theorem dX4_spans_22 : decode cX4_spans 22 = .ok (.bipush 31, 2) := by decide +kernel
theorem dX4_spans_24 : decode cX4_spans 24 = .ok (.aload_n 0, 1) := by decide +kernel
theorem dX4_spans_25 : decode cX4_spans 25 = .ok (.getfield 20, 3) := by decide +kernel
theorem dX4_spans_28 : decode cX4_spans 28 = .ok (.iload_n 1, 1) := by decide +kernel
theorem dX4_spans_29 : decode cX4_spans 29 = .ok (.iaload, 1) := by decide +kernel
theorem dX4_spans_30 : decode cX4_spans 30 = .ok (.iload_n 2, 1) := by decide +kernel
theorem dX4_spans_31 : decode cX4_spans 31 = .ok (.invokevirtual 72, 3) := by decide +kernel
theorem dX4_spans_34 : decode cX4_spans 34 = .ok (.istore_n 3, 1) := by decide +kernel
theorem dX4_spans_35 : decode cX4_spans 35 = .ok (.iload_n 3, 1) := by decide +kernel
theorem dX4_spans_36 : decode cX4_spans 36 = .ok (.ldc 64, 2) := by decide +kernel
theorem dX4_spans_38 : decode cX4_spans 38 = .ok (.if_icmp .ne 6, 3) := by decide +kernel
theorem dX4_spans_41 : decode cX4_spans 41 = .ok (.goto 29, 3) := by decide +kernel
theorem dX4_spans_44 : decode cX4_spans 44 = .ok (.iload_n 3, 1) := by decide +kernel
theorem dX4_spans_45 : decode cX4_spans 45 = .ok (.aload_n 0, 1) := by decide +kernel
theorem dX4_spans_46 : decode cX4_spans 46 = .ok (.getfield 109, 3) := by decide +kernel
theorem dX4_spans_49 : decode cX4_spans 49 = .ok (.if_icmp .ge 8, 3) := by decide +kernel
theorem dX4_spans_52 : decode cX4_spans 52 = .ok (.aload_n 0, 1) := by decide +kernel
theorem dX4_spans_53 : decode cX4_spans 53 = .ok (.iload_n 3, 1) := by decide +kernel
theorem dX4_spans_54 : decode cX4_spans 54 = .ok (.putfield 109, 3) := by decide +kernel
theorem dX4_spans_57 : decode cX4_spans 57 = .ok (.iload_n 3, 1) := by decide +kernel
theorem dX4_spans_58 : decode cX4_spans 58 = .ok (.aload_n 0, 1) := by decide +kernel
theorem dX4_spans_59 : decode cX4_spans 59 = .ok (.getfield 117, 3) := by decide +kernel
theorem dX4_spans_62 : decode cX4_spans 62 = .ok (.if_icmp .le 8, 3) := by decide +kernel
theorem dX4_spans_65 : decode cX4_spans 65 = .ok (.aload_n 0, 1) := by decide +kernel
theorem dX4_spans_66 : decode cX4_spans 66 = .ok (.iload_n 3, 1) := by decide +kernel
theorem dX4_spans_67 : decode cX4_spans 67 = .ok (.putfield 117, 3) := by decide +kernel
theorem dX4_spans_70 : decode cX4_spans 70 = .ok (.iinc 2 1, 3) := by decide +kernel
theorem dX4_spans_73 : decode cX4_spans 73 = .ok (.goto (-59), 3) := by decide +kernel
theorem dX4_spans_76 : decode cX4_spans 76 = .ok (.aload_n 0, 1) := by decide +kernel
theorem dX4_spans_77 : decode cX4_spans 77 = .ok (.getfield 109, 3) := by decide +kernel
theorem dX4_spans_80 : decode cX4_spans 80 = .ok (.ldc 83, 2) := by decide +kernel
theorem dX4_spans_82 : decode cX4_spans 82 = .ok (.if_icmp .gt 7, 3) := by decide +kernel
theorem dX4_spans_85 : decode cX4_spans 85 = .ok (.iconst 1, 1) := by decide +kernel
theorem dX4_spans_86 : decode cX4_spans 86 = .ok (.goto 4, 3) := by decide +kernel
theorem dX4_spans_89 : decode cX4_spans 89 = .ok (.iconst 0, 1) := by decide +kernel
theorem dX4_spans_90 : decode cX4_spans 90 = .ok (.ireturn, 1) := by decide +kernel
set_option maxRecDepth 20000 in
theorem ggX4_divides_X4_give : GoodIn wsX4_divides wsX4_give := goodIn_r _ [8, 9, 10, 11, 7, 12, 13, 14, 15, 16, 17, 18, 19, 20, 21, 22, 23, 24, 25, 26] (by decide +kernel) (by decide +kernel)
set_option maxRecDepth 20000 in
theorem gX4_divides_X4_give : GoodIn wsX4_divides (wsV RX4 72 RX4 yX4_give wsX4_give) := goodIn_app (goodIn_of _ (by decide +kernel)) ggX4_divides_X4_give
theorem dX4_divides_0 : decode cX4_divides 0 = .ok (.aload_n 0, 1) := by decide +kernel
theorem dX4_divides_1 : decode cX4_divides 1 = .ok (.sipush 1000, 3) := by decide +kernel
theorem dX4_divides_4 : decode cX4_divides 4 = .ok (.putfield 109, 3) := by decide +kernel
theorem dX4_divides_7 : decode cX4_divides 7 = .ok (.iconst 1, 1) := by decide +kernel
theorem dX4_divides_8 : decode cX4_divides 8 = .ok (.istore_n 2, 1) := by decide +kernel
theorem dX4_divides_9 : decode cX4_divides 9 = .ok (.iload_n 2, 1) := by decide +kernel
theorem dX4_divides_10 : decode cX4_divides 10 = .ok (.ifCond .eq 79, 3) := by decide +kernel
theorem dX4_divides_13 : decode cX4_divides 13 = .ok (.iconst 0, 1) := by decide +kernel
theorem dX4_divides_14 : decode cX4_divides 14 = .ok (.istore_n 2, 1) := by decide +kernel
theorem dX4_divides_15 : decode cX4_divides 15 = .ok (.iconst 0, 1) := by decide +kernel
theorem dX4_divides_16 : decode cX4_divides 16 = .ok (.istore_n 3, 1) := by decide +kernel
theorem dX4_divides_17 : decode cX4_divides 17 = .ok (.iload_n 3, 1) := by decide +kernel
theorem dX4_divides_18 : decode cX4_divides 18 = .ok (.sipush 256, 3) := by decide +kernel
theorem dX4_divides_21 : decode cX4_divides 21 = .ok (.if_icmp .ge 51, 3) := by decide +kernel
theorem dX4_divides_24 : decode cX4_divides 24 = .ok (.iload_n 2, 1) := by decide +kernel
theorem dX4_divides_25 : decode cX4_divides 25 = .ok (.ifCond .ne 47, 3) := by decide +kernel
theorem dX4_divides_28 : decode cX4_divides 28 = .ok (.aload_n 0, 1) := by decide +kernel
theorem dX4_divides_29 : decode cX4_divides 29 = .ok (.bipush 31, 2) := by decide +kernel
theorem dX4_divides_31 : decode cX4_divides 31 = .ok (.aload_n 0, 1) := by decide +kernel
theorem dX4_divides_32 : decode cX4_divides 32 = .ok (.getfield 20, 3) := by decide +kernel
theorem dX4_divides_35 : decode cX4_divides 35 = .ok (.iload_n 1, 1) := by decide +kernel
theorem dX4_divides_36 : decode cX4_divides 36 = .ok (.iaload, 1) := by decide +kernel
theorem dX4_divides_37 : decode cX4_divides 37 = .ok (.iload_n 3, 1) := by decide +kernel
theorem dX4_divides_38 : decode cX4_divides 38 = .ok (.invokevirtual 72, 3) := by decide +kernel
theorem dX4_divides_41 : decode cX4_divides 41 = .ok (.istore 4, 2) := by decide +kernel
theorem dX4_divides_43 : decode cX4_divides 43 = .ok (.iload 4, 2) := by decide +kernel
theorem dX4_divides_45 : decode cX4_divides 45 = .ok (.ldc 64, 2) := by decide +kernel
theorem dX4_divides_47 : decode cX4_divides 47 = .ok (.if_icmp .eq 17, 3) := by decide +kernel
theorem dX4_divides_50 : decode cX4_divides 50 = .ok (.iload 4, 2) := by decide +kernel
theorem dX4_divides_52 : decode cX4_divides 52 = .ok (.aload_n 0, 1) := by decide +kernel
theorem dX4_divides_53 : decode cX4_divides 53 = .ok (.getfield 109, 3) := by decide +kernel
theorem dX4_divides_56 : decode cX4_divides 56 = .ok (.irem, 1) := by decide +kernel
theorem dX4_divides_57 : decode cX4_divides 57 = .ok (.ifCond .eq 7, 3) := by decide +kernel
theorem dX4_divides_60 : decode cX4_divides 60 = .ok (.iconst 1, 1) := by decide +kernel
theorem dX4_divides_61 : decode cX4_divides 61 = .ok (.goto 4, 3) := by decide +kernel
theorem dX4_divides_64 : decode cX4_divides 64 = .ok (.iconst 0, 1) := by decide +kernel
theorem dX4_divides_65 : decode cX4_divides 65 = .ok (.istore_n 2, 1) := by decide +kernel
theorem dX4_divides_66 : decode cX4_divides 66 = .ok (.iinc 3 1, 3) := by decide +kernel
theorem dX4_divides_69 : decode cX4_divides 69 = .ok (.goto (-52), 3) := by decide +kernel
theorem dX4_divides_72 : decode cX4_divides 72 = .ok (.iload_n 2, 1) := by decide +kernel
theorem dX4_divides_73 : decode cX4_divides 73 = .ok (.ifCond .eq (-64), 3) := by decide +kernel
theorem dX4_divides_76 : decode cX4_divides 76 = .ok (.aload_n 0, 1) := by decide +kernel
theorem dX4_divides_77 : decode cX4_divides 77 = .ok (.dup, 1) := by decide +kernel
theorem dX4_divides_78 : decode cX4_divides 78 = .ok (.getfield 109, 3) := by decide +kernel
theorem dX4_divides_81 : decode cX4_divides 81 = .ok (.iconst 1, 1) := by decide +kernel
theorem dX4_divides_82 : decode cX4_divides 82 = .ok (.isub, 1) := by decide +kernel
theorem dX4_divides_83 : decode cX4_divides 83 = .ok (.putfield 109, 3) := by decide +kernel
theorem dX4_divides_86 : decode cX4_divides 86 = .ok (.goto (-77), 3) := by decide +kernel
theorem dX4_divides_89 : decode cX4_divides 89 = .ok (.iconst 1, 1) := by decide +kernel
theorem dX4_divides_90 : decode cX4_divides 90 = .ok (.ireturn, 1) := by decide +kernel
set_option maxRecDepth 20000 in
theorem ggX4_refuses_X4_isHeld : GoodIn wsX4_refuses wsX4_isHeld := goodIn_r _ [7, 8, 9, 10, 6, 11, 12, 13, 14, 15, 16, 17, 1, 18, 19, 20, 21, 22, 23, 24, 25, 26, 27, 28, 29, 30, 31, 32, 33, 34, 35, 36, 37, 38, 39, 40, 41] (by decide +kernel) (by decide +kernel)
set_option maxRecDepth 20000 in
theorem gX4_refuses_X4_isHeld : GoodIn wsX4_refuses (wsV RX4 90 RX4 yX4_isHeld wsX4_isHeld) := goodIn_app (goodIn_of _ (by decide +kernel)) ggX4_refuses_X4_isHeld
theorem dX4_refuses_0 : decode cX4_refuses 0 = .ok (.aload_n 0, 1) := by decide +kernel
theorem dX4_refuses_1 : decode cX4_refuses 1 = .ok (.getfield 26, 3) := by decide +kernel
theorem dX4_refuses_4 : decode cX4_refuses 4 = .ok (.iload_n 1, 1) := by decide +kernel
theorem dX4_refuses_5 : decode cX4_refuses 5 = .ok (.iaload, 1) := by decide +kernel
theorem dX4_refuses_6 : decode cX4_refuses 6 = .ok (.istore_n 2, 1) := by decide +kernel
theorem dX4_refuses_7 : decode cX4_refuses 7 = .ok (.iconst 0, 1) := by decide +kernel
theorem dX4_refuses_8 : decode cX4_refuses 8 = .ok (.istore_n 3, 1) := by decide +kernel
theorem dX4_refuses_9 : decode cX4_refuses 9 = .ok (.iconst 0, 1) := by decide +kernel
theorem dX4_refuses_10 : decode cX4_refuses 10 = .ok (.istore 4, 2) := by decide +kernel
theorem dX4_refuses_12 : decode cX4_refuses 12 = .ok (.iload 4, 2) := by decide +kernel
theorem dX4_refuses_14 : decode cX4_refuses 14 = .ok (.bipush 16, 2) := by decide +kernel
theorem dX4_refuses_16 : decode cX4_refuses 16 = .ok (.if_icmp .gt 33, 3) := by decide +kernel
theorem dX4_refuses_19 : decode cX4_refuses 19 = .ok (.iload_n 3, 1) := by decide +kernel
theorem dX4_refuses_20 : decode cX4_refuses 20 = .ok (.ifCond .ne 29, 3) := by decide +kernel
theorem dX4_refuses_23 : decode cX4_refuses 23 = .ok (.aload_n 0, 1) := by decide +kernel
theorem dX4_refuses_24 : decode cX4_refuses 24 = .ok (.getfield 26, 3) := by decide +kernel
theorem dX4_refuses_27 : decode cX4_refuses 27 = .ok (.iload_n 1, 1) := by decide +kernel
theorem dX4_refuses_28 : decode cX4_refuses 28 = .ok (.iload 4, 2) := by decide +kernel
theorem dX4_refuses_30 : decode cX4_refuses 30 = .ok (.iastore, 1) := by decide +kernel
theorem dX4_refuses_31 : decode cX4_refuses 31 = .ok (.aload_n 0, 1) := by decide +kernel
theorem dX4_refuses_32 : decode cX4_refuses 32 = .ok (.iload_n 1, 1) := by decide +kernel
theorem dX4_refuses_33 : decode cX4_refuses 33 = .ok (.invokevirtual 90, 3) := by decide +kernel
theorem dX4_refuses_36 : decode cX4_refuses 36 = .ok (.istore_n 3, 1) := by decide +kernel
theorem dX4_refuses_37 : decode cX4_refuses 37 = .ok (.aload_n 0, 1) := by decide +kernel
theorem dX4_refuses_38 : decode cX4_refuses 38 = .ok (.iload 4, 2) := by decide +kernel
theorem dX4_refuses_40 : decode cX4_refuses 40 = .ok (.putfield 109, 3) := by decide +kernel
theorem dX4_refuses_43 : decode cX4_refuses 43 = .ok (.iinc 4 1, 3) := by decide +kernel
theorem dX4_refuses_46 : decode cX4_refuses 46 = .ok (.goto (-34), 3) := by decide +kernel
theorem dX4_refuses_49 : decode cX4_refuses 49 = .ok (.aload_n 0, 1) := by decide +kernel
theorem dX4_refuses_50 : decode cX4_refuses 50 = .ok (.getfield 26, 3) := by decide +kernel
theorem dX4_refuses_53 : decode cX4_refuses 53 = .ok (.iload_n 1, 1) := by decide +kernel
theorem dX4_refuses_54 : decode cX4_refuses 54 = .ok (.iload_n 2, 1) := by decide +kernel
theorem dX4_refuses_55 : decode cX4_refuses 55 = .ok (.iastore, 1) := by decide +kernel
theorem dX4_refuses_56 : decode cX4_refuses 56 = .ok (.iload_n 3, 1) := by decide +kernel
theorem dX4_refuses_57 : decode cX4_refuses 57 = .ok (.ireturn, 1) := by decide +kernel
set_option maxRecDepth 20000 in
theorem ggX4_mend_X4_mends : GoodIn wsX4_mend wsX4_mends := goodIn_r _ [9, 1, 10, 11, 3, 2, 12, 13, 14, 8, 15, 16, 17, 18, 19, 20, 21, 22, 23, 24, 25, 26, 27, 28, 29, 30, 31, 32, 33, 34, 35, 36, 37, 38, 39, 40, 41, 42, 43, 44, 45, 46, 4, 47, 48, 49, 50, 51, 52, 53, 54, 55, 56, 57, 58, 59, 60, 61, 62, 63, 64, 65, 66, 67, 68, 69] (by decide +kernel) (by decide +kernel)
set_option maxRecDepth 20000 in
theorem gX4_mend_X4_mends : GoodIn wsX4_mend (wsV RX4 120 RX4 yX4_mends wsX4_mends) := goodIn_app (goodIn_of _ (by decide +kernel)) ggX4_mend_X4_mends
set_option maxRecDepth 20000 in
theorem ggX4_mend_X4_in : GoodIn wsX4_mend wsX4_in := goodIn_r _ [19] (by decide +kernel) (by decide +kernel)
set_option maxRecDepth 20000 in
theorem gX4_mend_X4_in : GoodIn wsX4_mend (va_wsS RX4 42 yX4_in wsX4_in) := goodIn_app (goodIn_of _ (by decide +kernel)) ggX4_mend_X4_in
theorem dX4_mend_0 : decode cX4_mend 0 = .ok (.aload_n 0, 1) := by decide +kernel
theorem dX4_mend_1 : decode cX4_mend 1 = .ok (.iload_n 1, 1) := by decide +kernel
theorem dX4_mend_2 : decode cX4_mend 2 = .ok (.invokevirtual 120, 3) := by decide +kernel
theorem dX4_mend_5 : decode cX4_mend 5 = .ok (.ifCond .eq 25, 3) := by decide +kernel
theorem dX4_mend_8 : decode cX4_mend 8 = .ok (.iload_n 2, 1) := by decide +kernel
theorem dX4_mend_9 : decode cX4_mend 9 = .ok (.iconst 0, 1) := by decide +kernel
theorem dX4_mend_10 : decode cX4_mend 10 = .ok (.aload_n 0, 1) := by decide +kernel
theorem dX4_mend_11 : decode cX4_mend 11 = .ok (.getfield 23, 3) := by decide +kernel
theorem dX4_mend_14 : decode cX4_mend 14 = .ok (.iload_n 1, 1) := by decide +kernel
theorem dX4_mend_15 : decode cX4_mend 15 = .ok (.iaload, 1) := by decide +kernel
theorem dX4_mend_16 : decode cX4_mend 16 = .ok (.ifCond .ne 7, 3) := by decide +kernel
theorem dX4_mend_19 : decode cX4_mend 19 = .ok (.iconst 1, 1) := by decide +kernel
theorem dX4_mend_20 : decode cX4_mend 20 = .ok (.goto 4, 3) := by decide +kernel
theorem dX4_mend_23 : decode cX4_mend 23 = .ok (.iconst 0, 1) := by decide +kernel
theorem dX4_mend_24 : decode cX4_mend 24 = .ok (.invokestatic 42, 3) := by decide +kernel
theorem dX4_mend_27 : decode cX4_mend 27 = .ok (.ifCond .ne 6, 3) := by decide +kernel
theorem dX4_mend_30 : decode cX4_mend 30 = .ok (.ldc 64, 2) := by decide +kernel
theorem dX4_mend_32 : decode cX4_mend 32 = .ok (.ireturn, 1) := by decide +kernel
theorem dX4_mend_33 : decode cX4_mend 33 = .ok (.iload_n 2, 1) := by decide +kernel
theorem dX4_mend_34 : decode cX4_mend 34 = .ok (.ifCond .ne 10, 3) := by decide +kernel
theorem dX4_mend_37 : decode cX4_mend 37 = .ok (.aload_n 0, 1) := by decide +kernel
theorem dX4_mend_38 : decode cX4_mend 38 = .ok (.getfield 109, 3) := by decide +kernel
theorem dX4_mend_41 : decode cX4_mend 41 = .ok (.goto 7, 3) := by decide +kernel
theorem dX4_mend_44 : decode cX4_mend 44 = .ok (.aload_n 0, 1) := by decide +kernel
theorem dX4_mend_45 : decode cX4_mend 45 = .ok (.getfield 117, 3) := by decide +kernel
theorem dX4_mend_48 : decode cX4_mend 48 = .ok (.ireturn, 1) := by decide +kernel
set_option maxRecDepth 20000 in
theorem ggX4_mended_X4_mends : GoodIn wsX4_mended wsX4_mends := goodIn_r _ [10, 1, 11, 4, 3, 12, 13, 14, 15, 9, 16, 17, 18, 19, 20, 21, 22, 23, 24, 25, 26, 27, 28, 29, 30, 31, 32, 2, 33, 34, 35, 36, 37, 38, 39, 40, 41, 42, 43, 44, 45, 46, 5, 47, 48, 49, 50, 51, 52, 53, 54, 55, 56, 57, 58, 59, 60, 61, 62, 63, 64, 65, 66, 67, 68, 69] (by decide +kernel) (by decide +kernel)
set_option maxRecDepth 20000 in
theorem gX4_mended_X4_mends : GoodIn wsX4_mended (wsV RX4 120 RX4 yX4_mends wsX4_mends) := goodIn_app (goodIn_of _ (by decide +kernel)) ggX4_mended_X4_mends
theorem dX4_mended_0 : decode cX4_mended 0 = .ok (.aload_n 0, 1) := by decide +kernel
theorem dX4_mended_1 : decode cX4_mended 1 = .ok (.iload_n 1, 1) := by decide +kernel
theorem dX4_mended_2 : decode cX4_mended 2 = .ok (.invokevirtual 120, 3) := by decide +kernel
theorem dX4_mended_5 : decode cX4_mended 5 = .ok (.ifCond .ne 5, 3) := by decide +kernel
theorem dX4_mended_8 : decode cX4_mended 8 = .ok (.iconst 0, 1) := by decide +kernel
theorem dX4_mended_9 : decode cX4_mended 9 = .ok (.ireturn, 1) := by decide +kernel
theorem dX4_mended_10 : decode cX4_mended 10 = .ok (.aload_n 0, 1) := by decide +kernel
theorem dX4_mended_11 : decode cX4_mended 11 = .ok (.getfield 23, 3) := by decide +kernel
theorem dX4_mended_14 : decode cX4_mended 14 = .ok (.iload_n 1, 1) := by decide +kernel
theorem dX4_mended_15 : decode cX4_mended 15 = .ok (.iaload, 1) := by decide +kernel
theorem dX4_mended_16 : decode cX4_mended 16 = .ok (.iconst 5, 1) := by decide +kernel
theorem dX4_mended_17 : decode cX4_mended 17 = .ok (.if_icmp .ne 15, 3) := by decide +kernel
theorem dX4_mended_20 : decode cX4_mended 20 = .ok (.aload_n 0, 1) := by decide +kernel
theorem dX4_mended_21 : decode cX4_mended 21 = .ok (.getfield 29, 3) := by decide +kernel
theorem dX4_mended_24 : decode cX4_mended 24 = .ok (.iload_n 1, 1) := by decide +kernel
theorem dX4_mended_25 : decode cX4_mended 25 = .ok (.aload_n 0, 1) := by decide +kernel
theorem dX4_mended_26 : decode cX4_mended 26 = .ok (.getfield 109, 3) := by decide +kernel
theorem dX4_mended_29 : decode cX4_mended 29 = .ok (.iastore, 1) := by decide +kernel
theorem dX4_mended_30 : decode cX4_mended 30 = .ok (.iconst 1, 1) := by decide +kernel
theorem dX4_mended_31 : decode cX4_mended 31 = .ok (.ireturn, 1) := by decide +kernel
theorem dX4_mended_32 : decode cX4_mended 32 = .ok (.aload_n 0, 1) := by decide +kernel
theorem dX4_mended_33 : decode cX4_mended 33 = .ok (.getfield 26, 3) := by decide +kernel
theorem dX4_mended_36 : decode cX4_mended 36 = .ok (.iload_n 1, 1) := by decide +kernel
theorem dX4_mended_37 : decode cX4_mended 37 = .ok (.aload_n 0, 1) := by decide +kernel
theorem dX4_mended_38 : decode cX4_mended 38 = .ok (.getfield 109, 3) := by decide +kernel
theorem dX4_mended_41 : decode cX4_mended 41 = .ok (.iastore, 1) := by decide +kernel
theorem dX4_mended_42 : decode cX4_mended 42 = .ok (.aload_n 0, 1) := by decide +kernel
theorem dX4_mended_43 : decode cX4_mended 43 = .ok (.getfield 23, 3) := by decide +kernel
theorem dX4_mended_46 : decode cX4_mended 46 = .ok (.iload_n 1, 1) := by decide +kernel
theorem dX4_mended_47 : decode cX4_mended 47 = .ok (.iaload, 1) := by decide +kernel
theorem dX4_mended_48 : decode cX4_mended 48 = .ok (.ifCond .ne 13, 3) := by decide +kernel
theorem dX4_mended_51 : decode cX4_mended 51 = .ok (.aload_n 0, 1) := by decide +kernel
theorem dX4_mended_52 : decode cX4_mended 52 = .ok (.getfield 29, 3) := by decide +kernel
theorem dX4_mended_55 : decode cX4_mended 55 = .ok (.iload_n 1, 1) := by decide +kernel
theorem dX4_mended_56 : decode cX4_mended 56 = .ok (.aload_n 0, 1) := by decide +kernel
theorem dX4_mended_57 : decode cX4_mended 57 = .ok (.getfield 117, 3) := by decide +kernel
theorem dX4_mended_60 : decode cX4_mended 60 = .ok (.iastore, 1) := by decide +kernel
theorem dX4_mended_61 : decode cX4_mended 61 = .ok (.iconst 1, 1) := by decide +kernel
theorem dX4_mended_62 : decode cX4_mended 62 = .ok (.ireturn, 1) := by decide +kernel
set_option maxRecDepth 20000 in
theorem ggX4_mark_X4_isClaim : GoodIn wsX4_mark wsX4_isClaim := goodIn_r _ [6, 7, 8, 9, 5, 10, 11, 12, 13, 14, 15, 16, 17, 18, 19, 20, 21, 22, 23, 24] (by decide +kernel) (by decide +kernel)
set_option maxRecDepth 20000 in
theorem gX4_mark_X4_isClaim : GoodIn wsX4_mark (wsV RX4 97 RX4 yX4_isClaim wsX4_isClaim) := goodIn_app (goodIn_of _ (by decide +kernel)) ggX4_mark_X4_isClaim
theorem dX4_mark_0 : decode cX4_mark 0 = .ok (.aload_n 0, 1) := by decide +kernel
theorem dX4_mark_1 : decode cX4_mark 1 = .ok (.iload_n 1, 1) := by decide +kernel
theorem dX4_mark_2 : decode cX4_mark 2 = .ok (.invokevirtual 97, 3) := by decide +kernel
theorem dX4_mark_5 : decode cX4_mark 5 = .ok (.ifCond .eq 12, 3) := by decide +kernel
theorem dX4_mark_8 : decode cX4_mark 8 = .ok (.aload_n 0, 1) := by decide +kernel
theorem dX4_mark_9 : decode cX4_mark 9 = .ok (.getfield 35, 3) := by decide +kernel
theorem dX4_mark_12 : decode cX4_mark 12 = .ok (.iload_n 1, 1) := by decide +kernel
theorem dX4_mark_13 : decode cX4_mark 13 = .ok (.baload, 1) := by decide +kernel
theorem dX4_mark_14 : decode cX4_mark 14 = .ok (.ifCond .eq 5, 3) := by decide +kernel
theorem dX4_mark_17 : decode cX4_mark 17 = .ok (.iconst 0, 1) := by decide +kernel
theorem dX4_mark_18 : decode cX4_mark 18 = .ok (.ireturn, 1) := by decide +kernel
theorem dX4_mark_19 : decode cX4_mark 19 = .ok (.aload_n 0, 1) := by decide +kernel
theorem dX4_mark_20 : decode cX4_mark 20 = .ok (.getfield 35, 3) := by decide +kernel
theorem dX4_mark_23 : decode cX4_mark 23 = .ok (.iload_n 1, 1) := by decide +kernel
theorem dX4_mark_24 : decode cX4_mark 24 = .ok (.iconst 1, 1) := by decide +kernel
theorem dX4_mark_25 : decode cX4_mark 25 = .ok (.bastore, 1) := by decide +kernel
theorem dX4_mark_26 : decode cX4_mark 26 = .ok (.iconst 1, 1) := by decide +kernel
theorem dX4_mark_27 : decode cX4_mark 27 = .ok (.ireturn, 1) := by decide +kernel
set_option maxRecDepth 20000 in
theorem ggX4_listed_X4_harm : GoodIn wsX4_listed wsX4_harm := goodIn_r _ [8, 9, 10, 11, 7, 12, 13, 14, 15, 16, 17, 18, 19, 20, 21, 22, 23, 24, 25, 26, 27, 28, 29, 30, 31, 32, 33, 34, 35, 36, 37, 38, 39] (by decide +kernel) (by decide +kernel)
set_option maxRecDepth 20000 in
theorem gX4_listed_X4_harm : GoodIn wsX4_listed (wsV RX4 87 RX4 yX4_harm wsX4_harm) := goodIn_app (goodIn_of _ (by decide +kernel)) ggX4_listed_X4_harm
theorem dX4_listed_0 : decode cX4_listed 0 = .ok (.iconst 0, 1) := by decide +kernel
theorem dX4_listed_1 : decode cX4_listed 1 = .ok (.istore_n 2, 1) := by decide +kernel
theorem dX4_listed_2 : decode cX4_listed 2 = .ok (.iload_n 2, 1) := by decide +kernel
theorem dX4_listed_3 : decode cX4_listed 3 = .ok (.aload_n 0, 1) := by decide +kernel
theorem dX4_listed_4 : decode cX4_listed 4 = .ok (.getfield 79, 3) := by decide +kernel
theorem dX4_listed_7 : decode cX4_listed 7 = .ok (.if_icmp .ge 35, 3) := by decide +kernel
theorem dX4_listed_10 : decode cX4_listed 10 = .ok (.aload_n 0, 1) := by decide +kernel
theorem dX4_listed_11 : decode cX4_listed 11 = .ok (.getfield 39, 3) := by decide +kernel
theorem dX4_listed_14 : decode cX4_listed 14 = .ok (.iload_n 2, 1) := by decide +kernel
theorem dX4_listed_15 : decode cX4_listed 15 = .ok (.aload_n 0, 1) := by decide +kernel
theorem dX4_listed_16 : decode cX4_listed 16 = .ok (.getfield 35, 3) := by decide +kernel
theorem dX4_listed_19 : decode cX4_listed 19 = .ok (.iload_n 2, 1) := by decide +kernel
theorem dX4_listed_20 : decode cX4_listed 20 = .ok (.baload, 1) := by decide +kernel
theorem dX4_listed_21 : decode cX4_listed 21 = .ok (.ifCond .eq 7, 3) := by decide +kernel
theorem dX4_listed_24 : decode cX4_listed 24 = .ok (.iconst 0, 1) := by decide +kernel
theorem dX4_listed_25 : decode cX4_listed 25 = .ok (.goto 10, 3) := by decide +kernel
theorem dX4_listed_28 : decode cX4_listed 28 = .ok (.aload_n 0, 1) := by decide +kernel
theorem dX4_listed_29 : decode cX4_listed 29 = .ok (.iload_n 2, 1) := by decide +kernel
theorem dX4_listed_30 : decode cX4_listed 30 = .ok (.bipush 31, 2) := by decide +kernel
theorem dX4_listed_32 : decode cX4_listed 32 = .ok (.invokevirtual 87, 3) := by decide +kernel
theorem dX4_listed_35 : decode cX4_listed 35 = .ok (.iastore, 1) := by decide +kernel
theorem dX4_listed_36 : decode cX4_listed 36 = .ok (.iinc 2 1, 3) := by decide +kernel
theorem dX4_listed_39 : decode cX4_listed 39 = .ok (.goto (-37), 3) := by decide +kernel
theorem dX4_listed_42 : decode cX4_listed 42 = .ok (.iload_n 1, 1) := by decide +kernel
theorem dX4_listed_43 : decode cX4_listed 43 = .ok (.istore_n 2, 1) := by decide +kernel
theorem dX4_listed_44 : decode cX4_listed 44 = .ok (.sipush 256, 3) := by decide +kernel
theorem dX4_listed_47 : decode cX4_listed 47 = .ok (.istore_n 3, 1) := by decide +kernel
theorem dX4_listed_48 : decode cX4_listed 48 = .ok (.iload_n 3, 1) := by decide +kernel
theorem dX4_listed_49 : decode cX4_listed 49 = .ok (.ifCond .le 55, 3) := by decide +kernel
theorem dX4_listed_52 : decode cX4_listed 52 = .ok (.iload_n 1, 1) := by decide +kernel
theorem dX4_listed_53 : decode cX4_listed 53 = .ok (.ifCond .lt 51, 3) := by decide +kernel
theorem dX4_listed_56 : decode cX4_listed 56 = .ok (.iconst 0, 1) := by decide +kernel
theorem dX4_listed_57 : decode cX4_listed 57 = .ok (.istore 4, 2) := by decide +kernel
theorem dX4_listed_59 : decode cX4_listed 59 = .ok (.iload 4, 2) := by decide +kernel
theorem dX4_listed_61 : decode cX4_listed 61 = .ok (.aload_n 0, 1) := by decide +kernel
theorem dX4_listed_62 : decode cX4_listed 62 = .ok (.getfield 79, 3) := by decide +kernel
theorem dX4_listed_65 : decode cX4_listed 65 = .ok (.if_icmp .ge 33, 3) := by decide +kernel
theorem dX4_listed_68 : decode cX4_listed 68 = .ok (.aload_n 0, 1) := by decide +kernel
theorem dX4_listed_69 : decode cX4_listed 69 = .ok (.getfield 39, 3) := by decide +kernel
theorem dX4_listed_72 : decode cX4_listed 72 = .ok (.iload 4, 2) := by decide +kernel
theorem dX4_listed_74 : decode cX4_listed 74 = .ok (.iaload, 1) := by decide +kernel
theorem dX4_listed_75 : decode cX4_listed 75 = .ok (.iload_n 3, 1) := by decide +kernel
theorem dX4_listed_76 : decode cX4_listed 76 = .ok (.if_icmp .eq 6, 3) := by decide +kernel
theorem dX4_listed_79 : decode cX4_listed 79 = .ok (.goto 13, 3) := by decide +kernel
theorem dX4_listed_82 : decode cX4_listed 82 = .ok (.iload_n 2, 1) := by decide +kernel
theorem dX4_listed_83 : decode cX4_listed 83 = .ok (.ifCond .ne 6, 3) := by decide +kernel
theorem dX4_listed_86 : decode cX4_listed 86 = .ok (.iload 4, 2) := by decide +kernel
theorem dX4_listed_88 : decode cX4_listed 88 = .ok (.ireturn, 1) := by decide +kernel
theorem dX4_listed_89 : decode cX4_listed 89 = .ok (.iinc 2 (-1), 3) := by decide +kernel
theorem dX4_listed_92 : decode cX4_listed 92 = .ok (.iinc 4 1, 3) := by decide +kernel
theorem dX4_listed_95 : decode cX4_listed 95 = .ok (.goto (-36), 3) := by decide +kernel
theorem dX4_listed_98 : decode cX4_listed 98 = .ok (.iinc 3 (-1), 3) := by decide +kernel
theorem dX4_listed_101 : decode cX4_listed 101 = .ok (.goto (-53), 3) := by decide +kernel
theorem dX4_listed_104 : decode cX4_listed 104 = .ok (.iconst (-1), 1) := by decide +kernel
theorem dX4_listed_105 : decode cX4_listed 105 = .ok (.ireturn, 1) := by decide +kernel
theorem dX4_hasClaim_0 : decode cX4_hasClaim 0 = .ok (.iconst 0, 1) := by decide +kernel
theorem dX4_hasClaim_1 : decode cX4_hasClaim 1 = .ok (.istore 4, 2) := by decide +kernel
theorem dX4_hasClaim_3 : decode cX4_hasClaim 3 = .ok (.iload 4, 2) := by decide +kernel
theorem dX4_hasClaim_5 : decode cX4_hasClaim 5 = .ok (.aload_n 0, 1) := by decide +kernel
theorem dX4_hasClaim_6 : decode cX4_hasClaim 6 = .ok (.getfield 79, 3) := by decide +kernel
theorem dX4_hasClaim_9 : decode cX4_hasClaim 9 = .ok (.if_icmp .ge 49, 3) := by decide +kernel
theorem dX4_hasClaim_12 : decode cX4_hasClaim 12 = .ok (.aload_n 0, 1) := by decide +kernel
theorem dX4_hasClaim_13 : decode cX4_hasClaim 13 = .ok (.getfield 20, 3) := by decide +kernel
theorem dX4_hasClaim_16 : decode cX4_hasClaim 16 = .ok (.iload 4, 2) := by decide +kernel
theorem dX4_hasClaim_18 : decode cX4_hasClaim 18 = .ok (.iaload, 1) := by decide +kernel
theorem dX4_hasClaim_19 : decode cX4_hasClaim 19 = .ok (.iload_n 1, 1) := by decide +kernel
theorem dX4_hasClaim_20 : decode cX4_hasClaim 20 = .ok (.if_icmp .ne 32, 3) := by decide +kernel
theorem dX4_hasClaim_23 : decode cX4_hasClaim 23 = .ok (.iload_n 2, 1) := by decide +kernel
theorem dX4_hasClaim_24 : decode cX4_hasClaim 24 = .ok (.iconst (-1), 1) := by decide +kernel
theorem dX4_hasClaim_25 : decode cX4_hasClaim 25 = .ok (.if_icmp .eq 25, 3) := by decide +kernel
theorem dX4_hasClaim_28 : decode cX4_hasClaim 28 = .ok (.aload_n 0, 1) := by decide +kernel
theorem dX4_hasClaim_29 : decode cX4_hasClaim 29 = .ok (.getfield 23, 3) := by decide +kernel
theorem dX4_hasClaim_32 : decode cX4_hasClaim 32 = .ok (.iload 4, 2) := by decide +kernel
theorem dX4_hasClaim_34 : decode cX4_hasClaim 34 = .ok (.iaload, 1) := by decide +kernel
theorem dX4_hasClaim_35 : decode cX4_hasClaim 35 = .ok (.iload_n 2, 1) := by decide +kernel
theorem dX4_hasClaim_36 : decode cX4_hasClaim 36 = .ok (.if_icmp .eq 14, 3) := by decide +kernel
theorem dX4_hasClaim_39 : decode cX4_hasClaim 39 = .ok (.aload_n 0, 1) := by decide +kernel
theorem dX4_hasClaim_40 : decode cX4_hasClaim 40 = .ok (.getfield 23, 3) := by decide +kernel
theorem dX4_hasClaim_43 : decode cX4_hasClaim 43 = .ok (.iload 4, 2) := by decide +kernel
theorem dX4_hasClaim_45 : decode cX4_hasClaim 45 = .ok (.iaload, 1) := by decide +kernel
theorem dX4_hasClaim_46 : decode cX4_hasClaim 46 = .ok (.iload_n 3, 1) := by decide +kernel
theorem dX4_hasClaim_47 : decode cX4_hasClaim 47 = .ok (.if_icmp .ne 5, 3) := by decide +kernel
theorem dX4_hasClaim_50 : decode cX4_hasClaim 50 = .ok (.iconst 1, 1) := by decide +kernel
theorem dX4_hasClaim_51 : decode cX4_hasClaim 51 = .ok (.ireturn, 1) := by decide +kernel
theorem dX4_hasClaim_52 : decode cX4_hasClaim 52 = .ok (.iinc 4 1, 3) := by decide +kernel
theorem dX4_hasClaim_55 : decode cX4_hasClaim 55 = .ok (.goto (-52), 3) := by decide +kernel
theorem dX4_hasClaim_58 : decode cX4_hasClaim 58 = .ok (.iconst 0, 1) := by decide +kernel
theorem dX4_hasClaim_59 : decode cX4_hasClaim 59 = .ok (.ireturn, 1) := by decide +kernel
set_option maxRecDepth 20000 in
theorem ggX4_refused_X4_give : GoodIn wsX4_refused wsX4_give := goodIn_r _ [6, 7, 8, 9, 5, 10, 11, 12, 13, 14, 15, 16, 17, 18, 19, 20, 21, 22, 23, 24] (by decide +kernel) (by decide +kernel)
set_option maxRecDepth 20000 in
theorem gX4_refused_X4_give : GoodIn wsX4_refused (wsV RX4 72 RX4 yX4_give wsX4_give) := goodIn_app (goodIn_of _ (by decide +kernel)) ggX4_refused_X4_give
theorem dX4_refused_0 : decode cX4_refused 0 = .ok (.iconst 0, 1) := by decide +kernel
theorem dX4_refused_1 : decode cX4_refused 1 = .ok (.istore_n 2, 1) := by decide +kernel
theorem dX4_refused_2 : decode cX4_refused 2 = .ok (.iconst 0, 1) := by decide +kernel
theorem dX4_refused_3 : decode cX4_refused 3 = .ok (.istore_n 3, 1) := by decide +kernel
theorem dX4_refused_4 : decode cX4_refused 4 = .ok (.iload_n 3, 1) := by decide +kernel
theorem dX4_refused_5 : decode cX4_refused 5 = .ok (.sipush 256, 3) := by decide +kernel
theorem dX4_refused_8 : decode cX4_refused 8 = .ok (.if_icmp .ge 30, 3) := by decide +kernel
theorem dX4_refused_11 : decode cX4_refused 11 = .ok (.iload_n 2, 1) := by decide +kernel
theorem dX4_refused_12 : decode cX4_refused 12 = .ok (.aload_n 0, 1) := by decide +kernel
theorem dX4_refused_13 : decode cX4_refused 13 = .ok (.bipush 31, 2) := by decide +kernel
theorem dX4_refused_15 : decode cX4_refused 15 = .ok (.iload_n 1, 1) := by decide +kernel
theorem dX4_refused_16 : decode cX4_refused 16 = .ok (.iload_n 3, 1) := by decide +kernel
theorem dX4_refused_17 : decode cX4_refused 17 = .ok (.invokevirtual 72, 3) := by decide +kernel
theorem dX4_refused_20 : decode cX4_refused 20 = .ok (.ldc 64, 2) := by decide +kernel
theorem dX4_refused_22 : decode cX4_refused 22 = .ok (.if_icmp .ne 7, 3) := by decide +kernel
theorem dX4_refused_25 : decode cX4_refused 25 = .ok (.iconst 1, 1) := by decide +kernel
theorem dX4_refused_26 : decode cX4_refused 26 = .ok (.goto 4, 3) := by decide +kernel
theorem dX4_refused_29 : decode cX4_refused 29 = .ok (.iconst 0, 1) := by decide +kernel
theorem dX4_refused_30 : decode cX4_refused 30 = .ok (.iadd, 1) := by decide +kernel
theorem dX4_refused_31 : decode cX4_refused 31 = .ok (.istore_n 2, 1) := by decide +kernel
theorem dX4_refused_32 : decode cX4_refused 32 = .ok (.iinc 3 1, 3) := by decide +kernel
theorem dX4_refused_35 : decode cX4_refused 35 = .ok (.goto (-31), 3) := by decide +kernel
theorem dX4_refused_38 : decode cX4_refused 38 = .ok (.iload_n 2, 1) := by decide +kernel
theorem dX4_refused_39 : decode cX4_refused 39 = .ok (.ireturn, 1) := by decide +kernel
set_option maxRecDepth 20000 in
theorem ggX4_missing_X4_isFunction : GoodIn wsX4_missing wsX4_isFunction := goodIn_r _ [6, 7, 8, 5, 9] (by decide +kernel) (by decide +kernel)
set_option maxRecDepth 20000 in
theorem gX4_missing_X4_isFunction : GoodIn wsX4_missing (va_wsS RX4 46 yX4_isFunction wsX4_isFunction) := goodIn_app (goodIn_of _ (by decide +kernel)) ggX4_missing_X4_isFunction
set_option maxRecDepth 20000 in
theorem ggX4_missing_X4_give : GoodIn wsX4_missing wsX4_give := goodIn_r _ [13, 14, 15, 16, 5, 17, 29, 30, 31, 32, 33, 34, 35, 36, 37, 38, 39, 40, 41, 42] (by decide +kernel) (by decide +kernel)
set_option maxRecDepth 20000 in
theorem gX4_missing_X4_give : GoodIn wsX4_missing (wsV RX4 72 RX4 yX4_give wsX4_give) := goodIn_app (goodIn_of _ (by decide +kernel)) ggX4_missing_X4_give
set_option maxRecDepth 20000 in
theorem ggX4_missing_X4_refused : GoodIn wsX4_missing wsX4_refused := goodIn_r _ [21, 1, 10, 11, 12, 5, 13, 14, 15, 16, 17, 29, 30, 31, 32, 33, 34, 35, 36, 37, 38, 39, 40, 41, 42] (by decide +kernel) (by decide +kernel)
set_option maxRecDepth 20000 in
theorem gX4_missing_X4_refused : GoodIn wsX4_missing (wsV RX4 123 RX4 yX4_refused wsX4_refused) := goodIn_app (goodIn_of _ (by decide +kernel)) ggX4_missing_X4_refused
set_option maxRecDepth 20000 in
theorem ggX4_missing_X4_hasClaim : GoodIn wsX4_missing wsX4_hasClaim := goodIn_r _ [25, 26, 27, 28, 29, 30, 31, 32, 33, 34, 35, 36, 37, 38, 39, 40, 41, 42] (by decide +kernel) (by decide +kernel)
set_option maxRecDepth 20000 in
theorem gX4_missing_X4_hasClaim : GoodIn wsX4_missing (wsV RX4 126 RX4 yX4_hasClaim wsX4_hasClaim) := goodIn_app (goodIn_of _ (by decide +kernel)) ggX4_missing_X4_hasClaim
theorem dX4_missing_0 : decode cX4_missing 0 = .ok (.iload_n 1, 1) := by decide +kernel
theorem dX4_missing_1 : decode cX4_missing 1 = .ok (.invokestatic 46, 3) := by decide +kernel
theorem dX4_missing_4 : decode cX4_missing 4 = .ok (.ifCond .ne 5, 3) := by decide +kernel
theorem dX4_missing_7 : decode cX4_missing 7 = .ok (.iconst (-1), 1) := by decide +kernel
theorem dX4_missing_8 : decode cX4_missing 8 = .ok (.ireturn, 1) := by decide +kernel
theorem dX4_missing_9 : decode cX4_missing 9 = .ok (.iconst 0, 1) := by decide +kernel
theorem dX4_missing_10 : decode cX4_missing 10 = .ok (.istore_n 2, 1) := by decide +kernel
theorem dX4_missing_11 : decode cX4_missing 11 = .ok (.iconst 0, 1) := by decide +kernel
theorem dX4_missing_12 : decode cX4_missing 12 = .ok (.istore_n 3, 1) := by decide +kernel
theorem dX4_missing_13 : decode cX4_missing 13 = .ok (.iload_n 3, 1) := by decide +kernel
theorem dX4_missing_14 : decode cX4_missing 14 = .ok (.sipush 256, 3) := by decide +kernel
theorem dX4_missing_17 : decode cX4_missing 17 = .ok (.if_icmp .ge 41, 3) := by decide +kernel
theorem dX4_missing_20 : decode cX4_missing 20 = .ok (.aload_n 0, 1) := by decide +kernel
theorem dX4_missing_21 : decode cX4_missing 21 = .ok (.bipush 31, 2) := by decide +kernel
theorem dX4_missing_23 : decode cX4_missing 23 = .ok (.iload_n 1, 1) := by decide +kernel
theorem dX4_missing_24 : decode cX4_missing 24 = .ok (.iload_n 3, 1) := by decide +kernel
theorem dX4_missing_25 : decode cX4_missing 25 = .ok (.invokevirtual 72, 3) := by decide +kernel
theorem dX4_missing_28 : decode cX4_missing 28 = .ok (.istore 4, 2) := by decide +kernel
theorem dX4_missing_30 : decode cX4_missing 30 = .ok (.iload_n 2, 1) := by decide +kernel
theorem dX4_missing_31 : decode cX4_missing 31 = .ok (.ifCond .ne 15, 3) := by decide +kernel
theorem dX4_missing_34 : decode cX4_missing 34 = .ok (.iload 4, 2) := by decide +kernel
theorem dX4_missing_36 : decode cX4_missing 36 = .ok (.ldc 64, 2) := by decide +kernel
theorem dX4_missing_38 : decode cX4_missing 38 = .ok (.if_icmp .eq 12, 3) := by decide +kernel
theorem dX4_missing_41 : decode cX4_missing 41 = .ok (.iload 4, 2) := by decide +kernel
theorem dX4_missing_43 : decode cX4_missing 43 = .ok (.ifCond .ge 7, 3) := by decide +kernel
theorem dX4_missing_46 : decode cX4_missing 46 = .ok (.iconst 1, 1) := by decide +kernel
theorem dX4_missing_47 : decode cX4_missing 47 = .ok (.goto 4, 3) := by decide +kernel
theorem dX4_missing_50 : decode cX4_missing 50 = .ok (.iconst 0, 1) := by decide +kernel
theorem dX4_missing_51 : decode cX4_missing 51 = .ok (.istore_n 2, 1) := by decide +kernel
theorem dX4_missing_52 : decode cX4_missing 52 = .ok (.iinc 3 1, 3) := by decide +kernel
theorem dX4_missing_55 : decode cX4_missing 55 = .ok (.goto (-42), 3) := by decide +kernel
theorem dX4_missing_58 : decode cX4_missing 58 = .ok (.aload_n 0, 1) := by decide +kernel
theorem dX4_missing_59 : decode cX4_missing 59 = .ok (.iload_n 1, 1) := by decide +kernel
theorem dX4_missing_60 : decode cX4_missing 60 = .ok (.invokevirtual 123, 3) := by decide +kernel
theorem dX4_missing_63 : decode cX4_missing 63 = .ok (.ifCond .le 18, 3) := by decide +kernel
theorem dX4_missing_66 : decode cX4_missing 66 = .ok (.aload_n 0, 1) := by decide +kernel
theorem dX4_missing_67 : decode cX4_missing 67 = .ok (.iload_n 1, 1) := by decide +kernel
theorem dX4_missing_68 : decode cX4_missing 68 = .ok (.iconst 1, 1) := by decide +kernel
theorem dX4_missing_69 : decode cX4_missing 69 = .ok (.bipush 6, 2) := by decide +kernel
theorem dX4_missing_71 : decode cX4_missing 71 = .ok (.invokevirtual 126, 3) := by decide +kernel
theorem dX4_missing_74 : decode cX4_missing 74 = .ok (.ifCond .ne 7, 3) := by decide +kernel
theorem dX4_missing_77 : decode cX4_missing 77 = .ok (.iconst 1, 1) := by decide +kernel
theorem dX4_missing_78 : decode cX4_missing 78 = .ok (.goto 4, 3) := by decide +kernel
theorem dX4_missing_81 : decode cX4_missing 81 = .ok (.iconst 0, 1) := by decide +kernel
theorem dX4_missing_82 : decode cX4_missing 82 = .ok (.istore_n 3, 1) := by decide +kernel
theorem dX4_missing_83 : decode cX4_missing 83 = .ok (.iload_n 3, 1) := by decide +kernel
theorem dX4_missing_84 : decode cX4_missing 84 = .ok (.iload_n 2, 1) := by decide +kernel
theorem dX4_missing_85 : decode cX4_missing 85 = .ok (.ifCond .eq 17, 3) := by decide +kernel
theorem dX4_missing_88 : decode cX4_missing 88 = .ok (.aload_n 0, 1) := by decide +kernel
theorem dX4_missing_89 : decode cX4_missing 89 = .ok (.iload_n 1, 1) := by decide +kernel
theorem dX4_missing_90 : decode cX4_missing 90 = .ok (.iconst 0, 1) := by decide +kernel
theorem dX4_missing_91 : decode cX4_missing 91 = .ok (.iconst 0, 1) := by decide +kernel
theorem dX4_missing_92 : decode cX4_missing 92 = .ok (.invokevirtual 126, 3) := by decide +kernel
theorem dX4_missing_95 : decode cX4_missing 95 = .ok (.ifCond .ne 7, 3) := by decide +kernel
theorem dX4_missing_98 : decode cX4_missing 98 = .ok (.iconst 2, 1) := by decide +kernel
theorem dX4_missing_99 : decode cX4_missing 99 = .ok (.goto 4, 3) := by decide +kernel
theorem dX4_missing_102 : decode cX4_missing 102 = .ok (.iconst 0, 1) := by decide +kernel
theorem dX4_missing_103 : decode cX4_missing 103 = .ok (.ior, 1) := by decide +kernel
theorem dX4_missing_104 : decode cX4_missing 104 = .ok (.istore_n 3, 1) := by decide +kernel
theorem dX4_missing_105 : decode cX4_missing 105 = .ok (.iload_n 3, 1) := by decide +kernel
theorem dX4_missing_106 : decode cX4_missing 106 = .ok (.aload_n 0, 1) := by decide +kernel
theorem dX4_missing_107 : decode cX4_missing 107 = .ok (.getfield 9, 3) := by decide +kernel
theorem dX4_missing_110 : decode cX4_missing 110 = .ok (.iload_n 1, 1) := by decide +kernel
theorem dX4_missing_111 : decode cX4_missing 111 = .ok (.iaload, 1) := by decide +kernel
theorem dX4_missing_112 : decode cX4_missing 112 = .ok (.ifCond .le 17, 3) := by decide +kernel
theorem dX4_missing_115 : decode cX4_missing 115 = .ok (.aload_n 0, 1) := by decide +kernel
theorem dX4_missing_116 : decode cX4_missing 116 = .ok (.iload_n 1, 1) := by decide +kernel
theorem dX4_missing_117 : decode cX4_missing 117 = .ok (.iconst (-1), 1) := by decide +kernel
theorem dX4_missing_118 : decode cX4_missing 118 = .ok (.iconst (-1), 1) := by decide +kernel
theorem dX4_missing_119 : decode cX4_missing 119 = .ok (.invokevirtual 126, 3) := by decide +kernel
theorem dX4_missing_122 : decode cX4_missing 122 = .ok (.ifCond .ne 7, 3) := by decide +kernel
theorem dX4_missing_125 : decode cX4_missing 125 = .ok (.iconst 4, 1) := by decide +kernel
theorem dX4_missing_126 : decode cX4_missing 126 = .ok (.goto 4, 3) := by decide +kernel
theorem dX4_missing_129 : decode cX4_missing 129 = .ok (.iconst 0, 1) := by decide +kernel
theorem dX4_missing_130 : decode cX4_missing 130 = .ok (.ior, 1) := by decide +kernel
theorem dX4_missing_131 : decode cX4_missing 131 = .ok (.ireturn, 1) := by decide +kernel
set_option maxRecDepth 20000 in
theorem ggX4_count_X4_in : GoodIn wsX4_count wsX4_in := goodIn_r _ [8] (by decide +kernel) (by decide +kernel)
set_option maxRecDepth 20000 in
theorem gX4_count_X4_in : GoodIn wsX4_count (va_wsS RX4 42 yX4_in wsX4_in) := goodIn_app (goodIn_of _ (by decide +kernel)) ggX4_count_X4_in
set_option maxRecDepth 20000 in
theorem ggX4_count_X4_refused : GoodIn wsX4_count wsX4_refused := goodIn_r _ [12, 13, 14, 15, 16, 7, 17, 18, 19, 20, 21, 47, 48, 49, 50, 51, 52, 53, 54, 55, 56, 57, 58, 59, 60] (by decide +kernel) (by decide +kernel)
set_option maxRecDepth 20000 in
theorem gX4_count_X4_refused : GoodIn wsX4_count (wsV RX4 123 RX4 yX4_refused wsX4_refused) := goodIn_app (goodIn_of _ (by decide +kernel)) ggX4_count_X4_refused
set_option maxRecDepth 20000 in
theorem ggX4_count_X4_stateOf : GoodIn wsX4_count wsX4_stateOf := goodIn_r _ [25, 26, 27, 28, 7, 29, 30, 31, 32, 33, 34, 35, 36, 37, 38, 13, 39, 40, 41, 14, 15, 16, 17, 18, 19, 20, 21, 42, 43, 44, 45, 3, 46, 47, 48, 49, 50, 51, 52, 53, 54, 55, 56, 57, 58, 59, 60] (by decide +kernel) (by decide +kernel)
set_option maxRecDepth 20000 in
theorem gX4_count_X4_stateOf : GoodIn wsX4_count (wsV RX4 100 RX4 yX4_stateOf wsX4_stateOf) := goodIn_app (goodIn_of _ (by decide +kernel)) ggX4_count_X4_stateOf
theorem dX4_count_0 : decode cX4_count 0 = .ok (.iconst 0, 1) := by decide +kernel
theorem dX4_count_1 : decode cX4_count 1 = .ok (.istore_n 2, 1) := by decide +kernel
theorem dX4_count_2 : decode cX4_count 2 = .ok (.iload_n 1, 1) := by decide +kernel
theorem dX4_count_3 : decode cX4_count 3 = .ok (.bipush 10, 2) := by decide +kernel
theorem dX4_count_5 : decode cX4_count 5 = .ok (.bipush 15, 2) := by decide +kernel
theorem dX4_count_7 : decode cX4_count 7 = .ok (.invokestatic 42, 3) := by decide +kernel
theorem dX4_count_10 : decode cX4_count 10 = .ok (.ifCond .eq 13, 3) := by decide +kernel
theorem dX4_count_13 : decode cX4_count 13 = .ok (.aload_n 0, 1) := by decide +kernel
theorem dX4_count_14 : decode cX4_count 14 = .ok (.getfield 9, 3) := by decide +kernel
theorem dX4_count_17 : decode cX4_count 17 = .ok (.iload_n 1, 1) := by decide +kernel
theorem dX4_count_18 : decode cX4_count 18 = .ok (.bipush 10, 2) := by decide +kernel
theorem dX4_count_20 : decode cX4_count 20 = .ok (.isub, 1) := by decide +kernel
theorem dX4_count_21 : decode cX4_count 21 = .ok (.iaload, 1) := by decide +kernel
theorem dX4_count_22 : decode cX4_count 22 = .ok (.ireturn, 1) := by decide +kernel
theorem dX4_count_23 : decode cX4_count 23 = .ok (.iload_n 1, 1) := by decide +kernel
theorem dX4_count_24 : decode cX4_count 24 = .ok (.bipush 20, 2) := by decide +kernel
theorem dX4_count_26 : decode cX4_count 26 = .ok (.bipush 25, 2) := by decide +kernel
theorem dX4_count_28 : decode cX4_count 28 = .ok (.invokestatic 42, 3) := by decide +kernel
theorem dX4_count_31 : decode cX4_count 31 = .ok (.ifCond .eq 12, 3) := by decide +kernel
theorem dX4_count_34 : decode cX4_count 34 = .ok (.aload_n 0, 1) := by decide +kernel
theorem dX4_count_35 : decode cX4_count 35 = .ok (.iload_n 1, 1) := by decide +kernel
theorem dX4_count_36 : decode cX4_count 36 = .ok (.bipush 20, 2) := by decide +kernel
theorem dX4_count_38 : decode cX4_count 38 = .ok (.isub, 1) := by decide +kernel
theorem dX4_count_39 : decode cX4_count 39 = .ok (.invokevirtual 123, 3) := by decide +kernel
theorem dX4_count_42 : decode cX4_count 42 = .ok (.ireturn, 1) := by decide +kernel
theorem dX4_count_43 : decode cX4_count 43 = .ok (.iload_n 1, 1) := by decide +kernel
theorem dX4_count_44 : decode cX4_count 44 = .ok (.iconst 0, 1) := by decide +kernel
theorem dX4_count_45 : decode cX4_count 45 = .ok (.iconst 5, 1) := by decide +kernel
theorem dX4_count_46 : decode cX4_count 46 = .ok (.invokestatic 42, 3) := by decide +kernel
theorem dX4_count_49 : decode cX4_count 49 = .ok (.ifCond .ne 5, 3) := by decide +kernel
theorem dX4_count_52 : decode cX4_count 52 = .ok (.iconst (-1), 1) := by decide +kernel
theorem dX4_count_53 : decode cX4_count 53 = .ok (.ireturn, 1) := by decide +kernel
theorem dX4_count_54 : decode cX4_count 54 = .ok (.iload_n 1, 1) := by decide +kernel
theorem dX4_count_55 : decode cX4_count 55 = .ok (.ifCond .ne 8, 3) := by decide +kernel
theorem dX4_count_58 : decode cX4_count 58 = .ok (.aload_n 0, 1) := by decide +kernel
theorem dX4_count_59 : decode cX4_count 59 = .ok (.getfield 79, 3) := by decide +kernel
theorem dX4_count_62 : decode cX4_count 62 = .ok (.ireturn, 1) := by decide +kernel
theorem dX4_count_63 : decode cX4_count 63 = .ok (.iload_n 1, 1) := by decide +kernel
theorem dX4_count_64 : decode cX4_count 64 = .ok (.iconst 1, 1) := by decide +kernel
theorem dX4_count_65 : decode cX4_count 65 = .ok (.if_icmp .ne 8, 3) := by decide +kernel
theorem dX4_count_68 : decode cX4_count 68 = .ok (.aload_n 0, 1) := by decide +kernel
theorem dX4_count_69 : decode cX4_count 69 = .ok (.getfield 75, 3) := by decide +kernel
theorem dX4_count_72 : decode cX4_count 72 = .ok (.ireturn, 1) := by decide +kernel
theorem dX4_count_73 : decode cX4_count 73 = .ok (.iconst 0, 1) := by decide +kernel
theorem dX4_count_74 : decode cX4_count 74 = .ok (.istore_n 3, 1) := by decide +kernel
theorem dX4_count_75 : decode cX4_count 75 = .ok (.iload_n 3, 1) := by decide +kernel
theorem dX4_count_76 : decode cX4_count 76 = .ok (.aload_n 0, 1) := by decide +kernel
theorem dX4_count_77 : decode cX4_count 77 = .ok (.getfield 79, 3) := by decide +kernel
theorem dX4_count_80 : decode cX4_count 80 = .ok (.if_icmp .ge 50, 3) := by decide +kernel
theorem dX4_count_83 : decode cX4_count 83 = .ok (.iload_n 2, 1) := by decide +kernel
theorem dX4_count_84 : decode cX4_count 84 = .ok (.iload_n 1, 1) := by decide +kernel
theorem dX4_count_85 : decode cX4_count 85 = .ok (.iconst 5, 1) := by decide +kernel
theorem dX4_count_86 : decode cX4_count 86 = .ok (.if_icmp .ne 20, 3) := by decide +kernel
theorem dX4_count_89 : decode cX4_count 89 = .ok (.aload_n 0, 1) := by decide +kernel
theorem dX4_count_90 : decode cX4_count 90 = .ok (.getfield 35, 3) := by decide +kernel
theorem dX4_count_93 : decode cX4_count 93 = .ok (.iload_n 3, 1) := by decide +kernel
theorem dX4_count_94 : decode cX4_count 94 = .ok (.baload, 1) := by decide +kernel
theorem dX4_count_95 : decode cX4_count 95 = .ok (.ifCond .eq 7, 3) := by decide +kernel
theorem dX4_count_98 : decode cX4_count 98 = .ok (.iconst 1, 1) := by decide +kernel
theorem dX4_count_99 : decode cX4_count 99 = .ok (.goto 23, 3) := by decide +kernel
theorem dX4_count_102 : decode cX4_count 102 = .ok (.iconst 0, 1) := by decide +kernel
theorem dX4_count_103 : decode cX4_count 103 = .ok (.goto 19, 3) := by decide +kernel
theorem dX4_count_106 : decode cX4_count 106 = .ok (.aload_n 0, 1) := by decide +kernel
theorem dX4_count_107 : decode cX4_count 107 = .ok (.iload_n 3, 1) := by decide +kernel
theorem dX4_count_108 : decode cX4_count 108 = .ok (.invokevirtual 100, 3) := by decide +kernel
theorem dX4_count_111 : decode cX4_count 111 = .ok (.iload_n 1, 1) := by decide +kernel
theorem dX4_count_112 : decode cX4_count 112 = .ok (.iconst 2, 1) := by decide +kernel
theorem dX4_count_113 : decode cX4_count 113 = .ok (.isub, 1) := by decide +kernel
theorem dX4_count_114 : decode cX4_count 114 = .ok (.if_icmp .ne 7, 3) := by decide +kernel
theorem dX4_count_117 : decode cX4_count 117 = .ok (.iconst 1, 1) := by decide +kernel
theorem dX4_count_118 : decode cX4_count 118 = .ok (.goto 4, 3) := by decide +kernel
theorem dX4_count_121 : decode cX4_count 121 = .ok (.iconst 0, 1) := by decide +kernel
theorem dX4_count_122 : decode cX4_count 122 = .ok (.iadd, 1) := by decide +kernel
theorem dX4_count_123 : decode cX4_count 123 = .ok (.istore_n 2, 1) := by decide +kernel
theorem dX4_count_124 : decode cX4_count 124 = .ok (.iinc 3 1, 3) := by decide +kernel
theorem dX4_count_127 : decode cX4_count 127 = .ok (.goto (-52), 3) := by decide +kernel
theorem dX4_count_130 : decode cX4_count 130 = .ok (.iload_n 2, 1) := by decide +kernel
theorem dX4_count_131 : decode cX4_count 131 = .ok (.ireturn, 1) := by decide +kernel
end
section
/-! plain facts on numbers and arrays, to paste: each family by itself; over the kit's rows on nI and upd -/
/-! ===== order of ints, in all its forms, and through longs ===== -/
theorem fa_lt (a b : Int32) : a < b ↔ a.toInt < b.toInt := Int32.lt_iff_toInt_lt
theorem fa_le (a b : Int32) : a ≤ b ↔ a.toInt ≤ b.toInt := Int32.le_iff_toInt_le
theorem fa_eq (a b : Int32) : a = b ↔ a.toInt = b.toInt := Int32.toInt_inj.symm
theorem fa_lt64 (a b : Int64) : a < b ↔ a.toInt < b.toInt := Int64.lt_iff_toInt_lt
theorem fa_le64 (a b : Int64) : a ≤ b ↔ a.toInt ≤ b.toInt := Int64.le_iff_toInt_le
theorem fa_eq64 (a b : Int64) : a = b ↔ a.toInt = b.toInt := Int64.toInt_inj.symm
/-- a comparison of two ints taken as longs -/
theorem fa_wide_lt (a b : Int32) : a.toInt64 < b.toInt64 ↔ a < b := by rw [fa_lt64, fa_lt, Int32.toInt_toInt64, Int32.toInt_toInt64]
theorem fa_wide_le (a b : Int32) : a.toInt64 ≤ b.toInt64 ↔ a ≤ b := by rw [fa_le64, fa_le, Int32.toInt_toInt64, Int32.toInt_toInt64]
theorem fa_wide_eq (a b : Int32) : a.toInt64 = b.toInt64 ↔ a = b := by rw [fa_eq64, fa_eq, Int32.toInt_toInt64, Int32.toInt_toInt64]
/-- one strict comparison gives all the others -/
theorem fa_of_lt {a b : Int32} (h : a < b) : a ≤ b ∧ ¬ b ≤ a ∧ ¬ b < a ∧ a ≠ b ∧ b ≠ a := by
  rw [fa_lt] at h
  refine ⟨?_, ?_, ?_, ?_, ?_⟩
  · rw [fa_le]; omega
  · rw [fa_le]; omega
  · rw [fa_lt]; omega
  · intro e; rw [fa_eq] at e; omega
  · intro e; rw [fa_eq] at e; omega
theorem fa_of_nlt {a b : Int32} (h : ¬ a < b) : b ≤ a := by
  rw [fa_lt] at h
  rw [fa_le]
  omega
theorem fa_of_nle {a b : Int32} (h : ¬ a ≤ b) : b < a := by
  rw [fa_le] at h
  rw [fa_lt]
  omega
theorem fa_le_ne {a b : Int32} (h : a ≤ b) (h2 : a ≠ b) : a < b := by
  rw [fa_le] at h
  rw [fa_lt]
  have h3 : a.toInt ≠ b.toInt := fun e => h2 ((fa_eq a b).mpr e)
  omega
theorem fa_three (a b : Int32) : a < b ∨ a = b ∨ b < a := by
  rw [fa_lt, fa_lt, fa_eq]
  omega
theorem fa_trans {a b c : Int32} (h : a < b) (h2 : b ≤ c) : a < c := by
  rw [fa_lt] at *
  rw [fa_le] at h2
  omega
/-! ===== small literals as numbers ===== -/
theorem fa_lit (n : Nat) : (OfNat.ofNat n : Int32) = nI n := rfl
theorem fa_litL (n : Nat) : (OfNat.ofNat n : Int64) = lN n := rfl
/-! ===== bits of a number: 'or', masks, one bit ===== -/
theorem fa_and (a b : Nat) : nI a &&& nI b = nI (a &&& b) := by
  apply Int32.toBitVec_inj.1
  show BitVec.ofNat 32 a &&& BitVec.ofNat 32 b = BitVec.ofNat 32 (a &&& b)
  apply BitVec.eq_of_getLsbD_eq
  intro i hi
  simp [hi]
theorem fa_or (a b : Nat) : nI a ||| nI b = nI (a ||| b) := by
  apply Int32.toBitVec_inj.1
  show BitVec.ofNat 32 a ||| BitVec.ofNat 32 b = BitVec.ofNat 32 (a ||| b)
  apply BitVec.eq_of_getLsbD_eq
  intro i hi
  simp [hi]
/-- a remainder by a power of two, as a mask -/
theorem fa_mask (n k : Nat) : nI n &&& nI (2 ^ k - 1) = nI (n % 2 ^ k) := by rw [fa_and, Nat.and_two_pow_sub_one_eq_mod]
/-- 'or' of a high part and a low one that don't meet is their sum -/
theorem fa_or_sum {a k : Nat} (b : Nat) (h : a < 2 ^ k) : nI (2 ^ k * b) ||| nI a = nI (2 ^ k * b + a) := by rw [fa_or, Nat.two_pow_add_eq_or_of_lt h]
/-- one bit, by 'and' with a power of two -/
theorem fa_bit {n j : Nat} (hj : j < 31) : nI n &&& nI (2 ^ j) = 0 ↔ n.testBit j = false := by
  have h2 : (2 : Nat) ^ j < 2 ^ 31 := Nat.pow_lt_pow_right (by decide) hj
  have hle : n &&& 2 ^ j ≤ 2 ^ j := Nat.and_le_right
  have e : n &&& 2 ^ j = 0 ↔ n.testBit j = false := by
    constructor
    · intro h
      have h1 : (n &&& 2 ^ j).testBit j = false := by rw [h]; simp
      rw [Nat.testBit_and] at h1
      first | simpa using h1 | simpa [Nat.testBit_two_pow_self] using h1 | simpa [Nat.testBit_two_pow] using h1
    · intro h
      apply Nat.eq_of_testBit_eq
      intro i
      rw [Nat.testBit_and]
      by_cases hi : j = i
      · subst hi; simp [h]
      · first | (simp [Nat.testBit_two_pow, hi]; done) | (simp [Nat.testBit_two_pow_of_ne hi]; done)
  rw [fa_and]
  constructor
  · intro h
    apply e.mp
    rcases Nat.eq_zero_or_pos (n &&& 2 ^ j) with z | z
    · exact z
    · exact absurd h (nI_ne0 z (Nat.lt_of_le_of_lt hle h2))
  · intro h
    rw [e.mpr h]; exact nI_0
/-- a remainder by a power of two of a number that isn't negative, as Java divides -/
theorem fa_rem {a k : Nat} (ha : a < 2 ^ 31) (hk : k < 31) : nI a - nI a / nI (2 ^ k) * nI (2 ^ k) = nI (a % 2 ^ k) := pk_rem ha (Nat.two_pow_pos k) (Nat.pow_lt_pow_right (by decide) hk)
/-! ===== cuts to a byte, a short ===== -/
theorem fa_byte_xor (x y : Int32) : (x ^^^ y).toInt8 = x.toInt8 ^^^ y.toInt8 := by
  apply Int8.toBitVec_inj.1
  apply BitVec.eq_of_getLsbD_eq
  intro i hi
  first | (simp [hi]; done) | (simp [hi, BitVec.getLsbD_setWidth, BitVec.getLsbD_signExtend]; done)
theorem fa_short_xor (x y : Int32) : (x ^^^ y).toInt16 = x.toInt16 ^^^ y.toInt16 := by
  apply Int16.toBitVec_inj.1
  apply BitVec.eq_of_getLsbD_eq
  intro i hi
  first | (simp [hi]; done) | (simp [hi, BitVec.getLsbD_setWidth, BitVec.getLsbD_signExtend]; done)
/-- the cut to a byte sees the low byte alone -/
theorem fa_byte_low (x : Int32) : (x &&& 255).toInt8 = x.toInt8 := by
  apply Int8.toBitVec_inj.1
  apply BitVec.eq_of_getLsbD_eq
  intro i hi
  have h2 : (255 : Int32).toBitVec.getLsbD i = true := by
    have : ∀ j : Fin 8, (255 : Int32).toBitVec.getLsbD j.val = true := by decide +kernel
    exact this ⟨i, hi⟩
  have h4 : (x &&& 255).toBitVec.getLsbD i = x.toBitVec.getLsbD i := by
    show (x.toBitVec &&& (255 : Int32).toBitVec).getLsbD i = _
    rw [BitVec.getLsbD_and, h2, Bool.and_true]
  have h3 : i < 32 := by omega
  first
    | (show (((x &&& 255).toBitVec).signExtend 8).getLsbD i = (x.toBitVec.signExtend 8).getLsbD i; rw [BitVec.getLsbD_signExtend, BitVec.getLsbD_signExtend, if_pos h3, if_pos h3, h4])
    | (show (((x &&& 255).toBitVec).setWidth 8).getLsbD i = (x.toBitVec.setWidth 8).getLsbD i; rw [BitVec.getLsbD_setWidth, BitVec.getLsbD_setWidth, h4])
    | (simp [hi, h3, h4]; done)
theorem fa_short_low (x : Int32) : (x &&& 65535).toInt16 = x.toInt16 := by
  apply Int16.toBitVec_inj.1
  apply BitVec.eq_of_getLsbD_eq
  intro i hi
  have h2 : (65535 : Int32).toBitVec.getLsbD i = true := by
    have : ∀ j : Fin 16, (65535 : Int32).toBitVec.getLsbD j.val = true := by decide +kernel
    exact this ⟨i, hi⟩
  have h4 : (x &&& 65535).toBitVec.getLsbD i = x.toBitVec.getLsbD i := by
    show (x.toBitVec &&& (65535 : Int32).toBitVec).getLsbD i = _
    rw [BitVec.getLsbD_and, h2, Bool.and_true]
  have h3 : i < 32 := by omega
  first
    | (show (((x &&& 65535).toBitVec).signExtend 16).getLsbD i = (x.toBitVec.signExtend 16).getLsbD i; rw [BitVec.getLsbD_signExtend, BitVec.getLsbD_signExtend, if_pos h3, if_pos h3, h4])
    | (show (((x &&& 65535).toBitVec).setWidth 16).getLsbD i = (x.toBitVec.setWidth 16).getLsbD i; rw [BitVec.getLsbD_setWidth, BitVec.getLsbD_setWidth, h4])
    | (simp [hi, h3, h4]; done)
/-- a small number is its own byte, its own short -/
theorem fa_byte_small {n : Nat} (h : n < 128) : (nI n).toInt8.toInt32 = nI n := by
  have : ∀ j : Fin 128, (nI j.val).toInt8.toInt32 = nI j.val := by decide +kernel
  exact this ⟨n, h⟩
/-! ===== absolute difference ===== -/
theorem fa_absdiff {a b : Nat} (ha : a < 2 ^ 31) (hb : b < 2 ^ 31) : (if nI a < nI b then nI b - nI a else nI a - nI b) = nI (if a < b then b - a else a - b) := by
  by_cases h : a < b
  · rw [if_pos (nI_lt h hb), if_pos h]
    exact pk_sub (Nat.le_of_lt h)
  · rw [if_neg (nI_nlt (Nat.le_of_not_lt h) ha), if_neg h]
    exact pk_sub (Nat.le_of_not_lt h)
/-! ===== an array behind i stores, a conditional store, a row copied ===== -/
/-- f where k < i, what stood there else -/
def fa_fill {α : Type} (f g : Nat → α) (i : Nat) : Nat → α := fun k => if k < i then f k else g k
theorem fa_fill_0 {α : Type} (f g : Nat → α) : fa_fill f g 0 = g := funext fun k => if_neg (Nat.not_lt_zero k)
theorem fa_fill_in {α : Type} {f g : Nat → α} {i k : Nat} (h : k < i) : fa_fill f g i k = f k := if_pos h
theorem fa_fill_out {α : Type} {f g : Nat → α} {i k : Nat} (h : i ≤ k) : fa_fill f g i k = g k := if_neg (Nat.not_lt.mpr h)
theorem fa_fill_succ (f g : Nat → Int32) (i : Nat) : upd (fa_fill f g i) i (f i) = fa_fill f g (i + 1) := by
  funext k
  by_cases e : k = i
  · subst e
    rw [pk_us]
    exact (if_pos (Nat.lt_succ_self k)).symm
  · rw [pk_un e]
    by_cases h : k < i
    · rw [fa_fill_in h, fa_fill_in (Nat.lt_succ_of_lt h)]
    · rw [fa_fill_out (Nat.le_of_not_lt h), fa_fill_out (by omega)]
/-- a store that changes nothing -/
theorem fa_upd_same {f : Nat → Int32} {i : Nat} {x : Int32} (h : f i = x) : upd f i x = f := by
  funext k
  by_cases e : k = i
  · subst e
    rw [pk_us, h]
  · rw [pk_un e]
/-- a store under a condition, told as one -/
theorem fa_upd_if (c : Prop) [Decidable c] (f : Nat → Int32) (i : Nat) (x : Int32) : (if c then upd f i x else f) = upd f i (if c then x else f i) := by
  by_cases h : c
  · rw [if_pos h, if_pos h]
  · rw [if_neg h, if_neg h, fa_upd_same rfl]
/-- two stores at one place, at two -/
theorem fa_upd_twice (f : Nat → Int32) (i : Nat) (x y : Int32) : upd (upd f i x) i y = upd f i y := by
  funext k
  by_cases e : k = i
  · subst e
    rw [pk_us, pk_us]
  · rw [pk_un e, pk_un e, pk_un e]
theorem fa_upd_swap (f : Nat → Int32) {i j : Nat} (h : i ≠ j) (x y : Int32) : upd (upd f i x) j y = upd (upd f j y) i x := by
  funext k
  by_cases e : k = i
  · subst e
    rw [pk_un h, pk_us, pk_us]
  · by_cases e2 : k = j
    · subst e2
      rw [pk_us, pk_un e, pk_us]
    · rw [pk_un e2, pk_un e, pk_un e, pk_un e2]
/-! ===== the first index with a property; a count ===== -/
/-- the first k < n with p k, n if there is none -/
def fa_first (p : Nat → Bool) : Nat → Nat
  | 0 => 0
  | n + 1 => if fa_first p n < n then fa_first p n else if p n then n else n + 1
theorem fa_first_le (p : Nat → Bool) : ∀ n, fa_first p n ≤ n
  | 0 => Nat.le_refl 0
  | n + 1 => by
    have ih := fa_first_le p n
    unfold fa_first
    split
    · omega
    · split
      · omega
      · omega
theorem fa_first_no (p : Nat → Bool) : ∀ n k, k < fa_first p n → p k = false
  | 0, k, h => absurd h (Nat.not_lt_zero k)
  | n + 1, k, h => by
    have ih := fa_first_no p n
    have hl := fa_first_le p n
    unfold fa_first at h
    split at h
    · exact ih k h
    · rename_i h1
      split at h
      · exact ih k (by omega)
      · rename_i h2
        by_cases e : k = n
        · subst e
          exact Bool.eq_false_iff.mpr h2
        · exact ih k (by omega)
theorem fa_first_yes (p : Nat → Bool) : ∀ n, fa_first p n < n → p (fa_first p n) = true
  | 0, h => absurd h (Nat.not_lt_zero _)
  | n + 1, h => by
    have ih := fa_first_yes p n
    have hl := fa_first_le p n
    unfold fa_first at h ⊢
    split at h
    · rename_i h1
      rw [if_pos h1]
      exact ih h1
    · rename_i h1
      rw [if_neg h1]
      split at h
      · rename_i h2
        rw [if_pos h2]
        exact h2
      · omega
/-- how many k < n have p k -/
def fa_cnt (p : Nat → Bool) : Nat → Nat
  | 0 => 0
  | n + 1 => fa_cnt p n + if p n then 1 else 0
theorem fa_cnt_le (p : Nat → Bool) : ∀ n, fa_cnt p n ≤ n
  | 0 => Nat.le_refl 0
  | n + 1 => by
    have ih := fa_cnt_le p n
    unfold fa_cnt
    split
    · omega
    · omega
theorem fa_cnt_yes {p : Nat → Bool} {n : Nat} (h : p n = true) : fa_cnt p (n + 1) = fa_cnt p n + 1 := by rw [fa_cnt, if_pos h]
theorem fa_cnt_no {p : Nat → Bool} {n : Nat} (h : p n = false) : fa_cnt p (n + 1) = fa_cnt p n := by rw [fa_cnt, if_neg (by rw [h]; decide)]; rfl
theorem fa_cnt_cong {p q : Nat → Bool} : ∀ {n : Nat}, (∀ k, k < n → p k = q k) → fa_cnt p n = fa_cnt q n
  | 0, _ => rfl
  | n + 1, h => by rw [fa_cnt, fa_cnt, fa_cnt_cong (fun k hk => h k (Nat.lt_succ_of_lt hk)), h n (Nat.lt_succ_self n)]
/-! ===== an answer carried into a post; a branch on a boolean answer ===== -/
theorem fa_post {α : Type} {P : α → Prop} {x y : α} (h : x = y) (hp : P y) : P x := h ▸ hp
theorem fa_post2 {α β : Type} {P : α → β → Prop} {x y : α} {u v : β} (h : x = y) (h2 : u = v) (hp : P y v) : P x u := h ▸ h2 ▸ hp
theorem fa_bool {r : Int32} {b : Bool} (h : r = if b then 1 else 0) : (r = 0 ↔ b = false) ∧ (¬ r = 0 ↔ b = true) := by
  subst h
  cases b
  · exact ⟨⟨fun _ => rfl, fun _ => rfl⟩, ⟨fun h => absurd rfl h, fun h => absurd h (by decide)⟩⟩
  · exact ⟨⟨fun h => absurd h (by decide), fun h => absurd h (by decide)⟩, ⟨fun _ => rfl, fun _ => by decide⟩⟩
/-- a boolean's narrowing changes nothing -/
theorem fa_bool_and {r : Int32} (h : r = 0 ∨ r = 1) : r &&& 1 = r := by
  rcases h with rfl | rfl
  · decide
  · decide
theorem fa_bool_prop {c : Prop} [Decidable c] {r : Int32} (h : r = if c then 1 else 0) : (r = 0 ↔ ¬ c) ∧ (¬ r = 0 ↔ c) := by
  subst h
  by_cases hc : c
  · rw [if_pos hc]
    exact ⟨⟨fun h => absurd h (by decide), fun h => absurd hc h⟩, ⟨fun _ => hc, fun _ => by decide⟩⟩
  · rw [if_neg hc]
    exact ⟨⟨fun _ => hc, fun _ => rfl⟩, ⟨fun h => absurd rfl h, fun h => absurd h hc⟩⟩
/-! plain facts to paste, each family by itself; over the kit's nI, lN and upd -/
/-! ===== drawers: more things than places ===== -/
theorem fb_holes : ∀ (m n : Nat) (f : Nat → Nat), (∀ i, i < n → f i < m) → (∀ i j, i < j → j < n → f i ≠ f j) → n ≤ m := by
  intro m
  induction m with
  | zero =>
    intro n f h1 _
    rcases Nat.eq_zero_or_pos n with h | h
    · omega
    · exact absurd (h1 0 h) (Nat.not_lt_zero _)
  | succ m ih =>
    intro n f h1 h2
    by_cases hx : ∃ i, i < n ∧ f i = m
    · obtain ⟨a, ha, hfa⟩ := hx
      have hg := ih (n - 1) (fun i => if i < a then f i else f (i + 1)) (by
        intro i hi
        by_cases q : i < a
        · simp only [if_pos q]
          have b1 := h1 i (by omega)
          have b2 := h2 i a q ha
          omega
        · simp only [if_neg q]
          have b1 := h1 (i + 1) (by omega)
          have b2 := h2 a (i + 1) (by omega) (by omega)
          omega) (by
        intro i j hij hj
        by_cases q : i < a
        · by_cases r : j < a
          · simp only [if_pos q, if_pos r]
            exact h2 i j hij (by omega)
          · simp only [if_pos q, if_neg r]
            exact h2 i (j + 1) (by omega) (by omega)
        · have r : ¬ j < a := by omega
          simp only [if_neg q, if_neg r]
          exact h2 (i + 1) (j + 1) (by omega) (by omega))
      omega
    · have hg := ih n f (fun i hi => by
        have b1 := h1 i hi
        have b2 : f i ≠ m := fun e => hx ⟨i, hi, e⟩
        omega) h2
      omega
/-- two of them in one place -/
theorem fb_twice {m n : Nat} {f : Nat → Nat} (h : ∀ i, i < n → f i < m) (hm : m < n) : ∃ i j, i < j ∧ j < n ∧ f i = f j := by
  refine Classical.byContradiction fun hx => ?_
  have := fb_holes m n f h (fun i j hij hj e => hx ⟨i, j, hij, hj, e⟩)
  omega
/-- as many as places, none twice: each place is taken -/
theorem fb_onto {n : Nat} {f : Nat → Nat} (h : ∀ i, i < n → f i < n) (h2 : ∀ i j, i < j → j < n → f i ≠ f j) {y : Nat} (hy : y < n) : ∃ i, i < n ∧ f i = y := by
  refine Classical.byContradiction fun hx => ?_
  have hne : ∀ i, i < n → f i ≠ y := fun i hi e => hx ⟨i, hi, e⟩
  have := fb_holes (n - 1) n (fun i => if f i < y then f i else f i - 1) (by
    intro i hi
    have b1 := h i hi
    have b2 := hne i hi
    by_cases q : f i < y
    · simp only [if_pos q]; omega
    · simp only [if_neg q]; omega) (by
    intro i j hij hj
    have b1 := hne i (by omega)
    have b2 := hne j hj
    have b3 := h2 i j hij hj
    by_cases q : f i < y
    · by_cases r : f j < y
      · simp only [if_pos q, if_pos r]; exact b3
      · simp only [if_pos q, if_neg r]; omega
    · by_cases r : f j < y
      · simp only [if_neg q, if_pos r]; omega
      · simp only [if_neg q, if_neg r]; omega)
  omega
/-! ===== how many places have a property ===== -/
def fb_ct (p : Nat → Bool) : Nat → Nat
  | 0 => 0
  | n + 1 => fb_ct p n + (if p n then 1 else 0)
theorem fb_ct_succ (p : Nat → Bool) (n : Nat) : fb_ct p (n + 1) = fb_ct p n + (if p n then 1 else 0) := rfl
theorem fb_ct_le (p : Nat → Bool) : ∀ n, fb_ct p n ≤ n
  | 0 => Nat.le_refl _
  | n + 1 => by
    have h := fb_ct_le p n
    rw [fb_ct_succ]
    split <;> omega
theorem fb_ct_step (p : Nat → Bool) (m : Nat) : ∀ n, fb_ct p m ≤ fb_ct p (m + n)
  | 0 => Nat.le_refl _
  | n + 1 => by
    have h := fb_ct_step p m n
    show fb_ct p m ≤ fb_ct p (m + n + 1)
    rw [fb_ct_succ]
    omega
theorem fb_ct_mono (p : Nat → Bool) {m n : Nat} (h : m ≤ n) : fb_ct p m ≤ fb_ct p n := by
  have := fb_ct_step p m (n - m)
  rwa [Nat.add_sub_cancel' h] at this
theorem fb_ct_cong {p q : Nat → Bool} : ∀ {n : Nat}, (∀ k, k < n → p k = q k) → fb_ct p n = fb_ct q n
  | 0, _ => rfl
  | n + 1, h => by
    rw [fb_ct_succ, fb_ct_succ, fb_ct_cong (fun k hk => h k (by omega)), h n (by omega)]
/-- one place changed -/
theorem fb_ct_out (p : Nat → Bool) (b : Bool) {i n : Nat} (h : n ≤ i) : fb_ct (fun k => if k = i then b else p k) n = fb_ct p n :=
  fb_ct_cong fun k hk => if_neg (by omega)
theorem fb_ct_upd (p : Nat → Bool) (b : Bool) {i : Nat} : ∀ {n : Nat}, i < n → fb_ct (fun k => if k = i then b else p k) n + (if p i then 1 else 0) = fb_ct p n + (if b then 1 else 0)
  | 0, h => absurd h (Nat.not_lt_zero i)
  | n + 1, h => by
    rw [fb_ct_succ, fb_ct_succ]
    rcases Nat.lt_or_ge i n with q | q
    · have := fb_ct_upd p b q
      have e : (if n = i then b else p n) = p n := if_neg (by omega)
      rw [e]
      omega
    · have e : i = n := by omega
      subst e
      rw [fb_ct_out p b (Nat.le_refl _)]
      simp only [if_true]
      omega
theorem fb_ct_sub {p q : Nat → Bool} : ∀ {n : Nat}, (∀ k, k < n → p k = true → q k = true) → fb_ct p n ≤ fb_ct q n
  | 0, _ => Nat.le_refl _
  | n + 1, h => by
    have h1 := fb_ct_sub (n := n) (p := p) (q := q) (fun k hk => h k (by omega))
    have h2 := h n (by omega)
    rw [fb_ct_succ, fb_ct_succ]
    cases hp : p n <;> cases hq : q n <;> simp_all <;> omega
theorem fb_ct_or {p q : Nat → Bool} : ∀ {n : Nat}, (∀ k, k < n → ¬ (p k = true ∧ q k = true)) → fb_ct (fun k => p k || q k) n = fb_ct p n + fb_ct q n
  | 0, _ => rfl
  | n + 1, h => by
    have h1 := fb_ct_or (n := n) (p := p) (q := q) (fun k hk => h k (by omega))
    have h2 := h n (by omega)
    rw [fb_ct_succ, fb_ct_succ, fb_ct_succ, h1]
    cases hp : p n <;> cases hq : q n <;> simp_all <;> omega
theorem fb_ct_not (p : Nat → Bool) : ∀ n, fb_ct p n + fb_ct (fun k => !p k) n = n
  | 0 => rfl
  | n + 1 => by
    have h := fb_ct_not p n
    rw [fb_ct_succ, fb_ct_succ]
    cases p n <;> simp <;> omega
theorem fb_ct_split (p : Nat → Bool) (m : Nat) : ∀ n, fb_ct p (m + n) = fb_ct p m + fb_ct (fun k => p (m + k)) n
  | 0 => rfl
  | n + 1 => by
    have h := fb_ct_split p m n
    show fb_ct p (m + n + 1) = _
    rw [fb_ct_succ, fb_ct_succ, h, Nat.add_assoc]
theorem fb_ct_zero {p : Nat → Bool} : ∀ {n : Nat}, fb_ct p n = 0 ↔ ∀ k, k < n → p k = false
  | 0 => ⟨fun _ k hk => absurd hk (Nat.not_lt_zero k), fun _ => rfl⟩
  | n + 1 => by
    have h := fb_ct_zero (p := p) (n := n)
    rw [fb_ct_succ]
    constructor
    · intro e k hk
      have e1 : fb_ct p n = 0 := by omega
      rcases Nat.lt_or_ge k n with q | q
      · exact h.mp e1 k q
      · have ek : k = n := by omega
        subst ek
        cases hp : p k
        · rfl
        · simp [hp] at e
    · intro a
      rw [h.mpr (fun k hk => a k (by omega)), a n (by omega)]
      rfl
theorem fb_ct_pos {p : Nat → Bool} {n : Nat} : 0 < fb_ct p n ↔ ∃ k, k < n ∧ p k = true := by
  constructor
  · intro h
    refine Classical.byContradiction fun hx => ?_
    have := fb_ct_zero.mpr (fun k hk => by
      cases hp : p k
      · rfl
      · exact absurd ⟨k, hk, hp⟩ hx : ∀ k, k < n → p k = false)
    omega
  · rintro ⟨k, hk, hp⟩
    rcases Nat.eq_zero_or_pos (fb_ct p n) with e | e
    · have := fb_ct_zero.mp e k hk
      rw [this] at hp
      cases hp
    · exact e
theorem fb_ct_all {p : Nat → Bool} {n : Nat} : fb_ct p n = n ↔ ∀ k, k < n → p k = true := by
  have h := fb_ct_not p n
  constructor
  · intro e k hk
    have z : fb_ct (fun k => !p k) n = 0 := by omega
    have := fb_ct_zero.mp z k hk
    cases hp : p k
    · simp [hp] at this
    · rfl
  · intro a
    have z : fb_ct (fun k => !p k) n = 0 := fb_ct_zero.mpr (fun k hk => by simp [a k hk])
    omega
/-- the k-th place with the property -/
theorem fb_ct_kth {p : Nat → Bool} {k : Nat} : ∀ {n : Nat}, k < fb_ct p n → ∃ i, i < n ∧ p i = true ∧ fb_ct p i = k
  | 0, h => absurd h (Nat.not_lt_zero k)
  | n + 1, h => by
    rcases Nat.lt_or_ge k (fb_ct p n) with q | q
    · obtain ⟨i, h1, h2⟩ := fb_ct_kth q
      exact ⟨i, by omega, h2⟩
    · rw [fb_ct_succ] at h
      cases hp : p n
      · simp [hp] at h; omega
      · simp [hp] at h
        exact ⟨n, by omega, hp, by omega⟩
theorem fb_ct_kth_one {p : Nat → Bool} {i j : Nat} (hi : p i = true) (hj : p j = true) (e : fb_ct p i = fb_ct p j) : i = j := by
  have key : ∀ a b : Nat, a < b → p a = true → fb_ct p a < fb_ct p b := by
    intro a b hab ha
    have h := fb_ct_mono p (show a + 1 ≤ b from hab)
    rw [fb_ct_succ, ha] at h
    simp at h
    omega
  rcases Nat.lt_trichotomy i j with q | q | q
  · have := key i j q hi; omega
  · exact q
  · have := key j i q hj; omega
/-! ===== sums over a range: one place changed, parts, bounds ===== -/
def fb_sm (f : Nat → Nat) : Nat → Nat
  | 0 => 0
  | n + 1 => fb_sm f n + f n
theorem fb_sm_succ (f : Nat → Nat) (n : Nat) : fb_sm f (n + 1) = fb_sm f n + f n := rfl
theorem fb_sm_cong {f g : Nat → Nat} : ∀ {n : Nat}, (∀ k, k < n → f k = g k) → fb_sm f n = fb_sm g n
  | 0, _ => rfl
  | n + 1, h => by rw [fb_sm_succ, fb_sm_succ, fb_sm_cong (fun k hk => h k (by omega)), h n (by omega)]
theorem fb_sm_out (f : Nat → Nat) (v : Nat) {i n : Nat} (h : n ≤ i) : fb_sm (fun k => if k = i then v else f k) n = fb_sm f n :=
  fb_sm_cong fun k hk => if_neg (by omega)
theorem fb_sm_upd (f : Nat → Nat) (v : Nat) {i : Nat} : ∀ {n : Nat}, i < n → fb_sm (fun k => if k = i then v else f k) n + f i = fb_sm f n + v
  | 0, h => absurd h (Nat.not_lt_zero i)
  | n + 1, h => by
    rw [fb_sm_succ, fb_sm_succ]
    rcases Nat.lt_or_ge i n with q | q
    · have := fb_sm_upd f v q
      have e : (if n = i then v else f n) = f n := if_neg (by omega)
      rw [e]
      omega
    · have e : i = n := by omega
      subst e
      rw [fb_sm_out f v (Nat.le_refl _)]
      simp only [if_true]
      omega
theorem fb_sm_add (f g : Nat → Nat) : ∀ n, fb_sm (fun k => f k + g k) n = fb_sm f n + fb_sm g n
  | 0 => rfl
  | n + 1 => by
    have h := fb_sm_add f g n
    rw [fb_sm_succ, fb_sm_succ, fb_sm_succ, h]
    omega
theorem fb_sm_le {f g : Nat → Nat} : ∀ {n : Nat}, (∀ k, k < n → f k ≤ g k) → fb_sm f n ≤ fb_sm g n
  | 0, _ => Nat.le_refl _
  | n + 1, h => by
    have h1 := fb_sm_le (n := n) (f := f) (g := g) (fun k hk => h k (by omega))
    have h2 := h n (by omega)
    rw [fb_sm_succ, fb_sm_succ]
    omega
theorem fb_sm_const (c : Nat) : ∀ n, fb_sm (fun _ => c) n = n * c
  | 0 => by rw [Nat.zero_mul]; rfl
  | n + 1 => by rw [fb_sm_succ, fb_sm_const c n, Nat.succ_mul]
theorem fb_sm_bound {f : Nat → Nat} {c n : Nat} (h : ∀ k, k < n → f k ≤ c) : fb_sm f n ≤ n * c := by
  rw [← fb_sm_const c n]
  exact fb_sm_le h
theorem fb_sm_mono (f : Nat → Nat) (m : Nat) : ∀ n, fb_sm f m ≤ fb_sm f (m + n)
  | 0 => Nat.le_refl _
  | n + 1 => by
    have h := fb_sm_mono f m n
    show fb_sm f m ≤ fb_sm f (m + n + 1)
    rw [fb_sm_succ]
    omega
theorem fb_sm_part (f : Nat → Nat) {i n : Nat} (h : i < n) : fb_sm f i + f i ≤ fb_sm f n := by
  have := fb_sm_mono f (i + 1) (n - (i + 1))
  rw [fb_sm_succ, show i + 1 + (n - (i + 1)) = n by omega] at this
  exact this
theorem fb_sm_split (f : Nat → Nat) (m : Nat) : ∀ n, fb_sm f (m + n) = fb_sm f m + fb_sm (fun k => f (m + k)) n
  | 0 => rfl
  | n + 1 => by
    have h := fb_sm_split f m n
    show fb_sm f (m + n + 1) = _
    rw [fb_sm_succ, fb_sm_succ, h, Nat.add_assoc]
theorem fb_sm_zero {f : Nat → Nat} {n : Nat} (h : fb_sm f n = 0) : ∀ k, k < n → f k = 0 := fun k hk => by
  have := fb_sm_part f hk
  omega
/-- the same over whole numbers -/
def fb_si (f : Nat → Int) : Nat → Int
  | 0 => 0
  | n + 1 => fb_si f n + f n
theorem fb_si_succ (f : Nat → Int) (n : Nat) : fb_si f (n + 1) = fb_si f n + f n := rfl
theorem fb_si_cong {f g : Nat → Int} : ∀ {n : Nat}, (∀ k, k < n → f k = g k) → fb_si f n = fb_si g n
  | 0, _ => rfl
  | n + 1, h => by rw [fb_si_succ, fb_si_succ, fb_si_cong (fun k hk => h k (by omega)), h n (by omega)]
theorem fb_si_out (f : Nat → Int) (v : Int) {i n : Nat} (h : n ≤ i) : fb_si (fun k => if k = i then v else f k) n = fb_si f n :=
  fb_si_cong fun k hk => if_neg (by omega)
theorem fb_si_upd (f : Nat → Int) (v : Int) {i : Nat} : ∀ {n : Nat}, i < n → fb_si (fun k => if k = i then v else f k) n = fb_si f n - f i + v
  | 0, h => absurd h (Nat.not_lt_zero i)
  | n + 1, h => by
    rw [fb_si_succ, fb_si_succ]
    rcases Nat.lt_or_ge i n with q | q
    · have := fb_si_upd f v q
      have e : (if n = i then v else f n) = f n := if_neg (by omega)
      rw [e]
      omega
    · have e : i = n := by omega
      subst e
      rw [fb_si_out f v (Nat.le_refl _)]
      simp only [if_true]
      omega
theorem fb_si_add (f g : Nat → Int) : ∀ n, fb_si (fun k => f k + g k) n = fb_si f n + fb_si g n
  | 0 => rfl
  | n + 1 => by
    have h := fb_si_add f g n
    rw [fb_si_succ, fb_si_succ, fb_si_succ, h]
    omega
theorem fb_si_sub (f g : Nat → Int) : ∀ n, fb_si (fun k => f k - g k) n = fb_si f n - fb_si g n
  | 0 => rfl
  | n + 1 => by
    have h := fb_si_sub f g n
    rw [fb_si_succ, fb_si_succ, fb_si_succ, h]
    omega
theorem fb_si_mul (c : Int) (f : Nat → Int) : ∀ n, fb_si (fun k => c * f k) n = c * fb_si f n
  | 0 => (Int.mul_zero c).symm
  | n + 1 => by
    have h := fb_si_mul c f n
    rw [fb_si_succ, fb_si_succ, h, Int.mul_add]
theorem fb_si_split (f : Nat → Int) (m : Nat) : ∀ n, fb_si f (m + n) = fb_si f m + fb_si (fun k => f (m + k)) n
  | 0 => (Int.add_zero _).symm
  | n + 1 => by
    have h := fb_si_split f m n
    show fb_si f (m + n + 1) = _
    rw [fb_si_succ, fb_si_succ, h, Int.add_assoc]
theorem fb_si_nat (f : Nat → Nat) : ∀ n, fb_si (fun k => (f k : Int)) n = (fb_sm f n : Int)
  | 0 => rfl
  | n + 1 => by
    have h := fb_si_nat f n
    rw [fb_si_succ, fb_sm_succ, h]
    omega
theorem fb_si_bound {f : Nat → Int} {c : Int} (hc : 0 ≤ c) : ∀ {n : Nat}, (∀ k, k < n → -c ≤ f k ∧ f k ≤ c) → -(n * c) ≤ fb_si f n ∧ fb_si f n ≤ n * c
  | 0, _ => by simp [fb_si]
  | n + 1, h => by
    have h1 := fb_si_bound (n := n) (f := f) hc (fun k hk => h k (by omega))
    have h2 := h n (by omega)
    have e : ((n + 1 : Nat) : Int) * c = n * c + c := by rw [Int.natCast_add, Int.add_mul]; simp
    rw [fb_si_succ, e]
    omega
/-! ===== bits of a long that isn't negative ===== -/
theorem fb_andL (a b : Nat) : lN a &&& lN b = lN (a &&& b) := by
  apply Int64.toBitVec_inj.1
  show BitVec.ofNat 64 a &&& BitVec.ofNat 64 b = BitVec.ofNat 64 (a &&& b)
  apply BitVec.eq_of_getLsbD_eq
  intro i hi
  simp [hi]
theorem fb_orL (a b : Nat) : lN a ||| lN b = lN (a ||| b) := by
  apply Int64.toBitVec_inj.1
  show BitVec.ofNat 64 a ||| BitVec.ofNat 64 b = BitVec.ofNat 64 (a ||| b)
  apply BitVec.eq_of_getLsbD_eq
  intro i hi
  simp [hi]
theorem fb_xorL (a b : Nat) : lN a ^^^ lN b = lN (a ^^^ b) := by
  apply Int64.toBitVec_inj.1
  show BitVec.ofNat 64 a ^^^ BitVec.ofNat 64 b = BitVec.ofNat 64 (a ^^^ b)
  apply BitVec.eq_of_getLsbD_eq
  intro i hi
  simp [hi]
theorem fb_xorI (a b : Nat) : nI a ^^^ nI b = nI (a ^^^ b) := by
  apply Int32.toBitVec_inj.1
  show BitVec.ofNat 32 a ^^^ BitVec.ofNat 32 b = BitVec.ofNat 32 (a ^^^ b)
  apply BitVec.eq_of_getLsbD_eq
  intro i hi
  simp [hi]
theorem fb_maskL (n k : Nat) : lN n &&& lN (2 ^ k - 1) = lN (n % 2 ^ k) := by rw [fb_andL, Nat.and_two_pow_sub_one_eq_mod]
theorem fb_or_sumL {a k : Nat} (b : Nat) (h : a < 2 ^ k) : lN (2 ^ k * b) ||| lN a = lN (2 ^ k * b + a) := by rw [fb_orL, Nat.two_pow_add_eq_or_of_lt h]
theorem fb_lN_inj {a b : Nat} (ha : a < 2 ^ 63) (hb : b < 2 ^ 63) : lN a = lN b ↔ a = b := by
  constructor
  · intro h
    have h1 : (BitVec.ofNat 64 a).toNat = (BitVec.ofNat 64 b).toNat := congrArg (fun x : Int64 => x.toBitVec.toNat) h
    rw [BitVec.toNat_ofNat, BitVec.toNat_ofNat, Nat.mod_eq_of_lt (by omega), Nat.mod_eq_of_lt (by omega)] at h1
    exact h1
  · rintro rfl; rfl
theorem fb_bit_nat (n j : Nat) : n &&& 2 ^ j = 0 ↔ n.testBit j = false := by
  constructor
  · intro h
    have h1 : (n &&& 2 ^ j).testBit j = false := by rw [h]; simp
    rw [Nat.testBit_and] at h1
    simpa using h1
  · intro h
    apply Nat.eq_of_testBit_eq
    intro i
    rw [Nat.testBit_and]
    by_cases hi : j = i
    · subst hi; simp [h]
    · first | (simp [Nat.testBit_two_pow, hi]; done) | (simp [Nat.testBit_two_pow_of_ne hi]; done)
/-- one bit of a long -/
theorem fb_bitL {n j : Nat} (hj : j < 63) : lN n &&& lN (2 ^ j) = 0 ↔ n.testBit j = false := by
  have h2 : (2 : Nat) ^ j < 2 ^ 63 := Nat.pow_lt_pow_right (by decide) hj
  have hle : n &&& 2 ^ j ≤ 2 ^ j := Nat.and_le_right
  rw [fb_andL, ← fb_bit_nat, show (0 : Int64) = lN 0 from rfl]
  exact fb_lN_inj (by omega) (by decide)
/-- a bit set, a bit taken off -/
theorem fb_bit_set (n j i : Nat) : (n ||| 2 ^ j).testBit i = (n.testBit i || decide (i = j)) := by
  rw [Nat.testBit_or]
  by_cases h : j = i
  · subst h; simp
  · have h2 : ¬ i = j := fun e => h e.symm
    first | (simp [Nat.testBit_two_pow, h, h2]; done) | (simp [Nat.testBit_two_pow_of_ne h, h2]; done)
theorem fb_bit_flip (n j i : Nat) : (n ^^^ 2 ^ j).testBit i = (n.testBit i ^^ decide (i = j)) := by
  rw [Nat.testBit_xor]
  by_cases h : j = i
  · subst h; simp
  · have h2 : ¬ i = j := fun e => h e.symm
    first | (simp [Nat.testBit_two_pow, h, h2]; done) | (simp [Nat.testBit_two_pow_of_ne h, h2]; done)
/-! ===== a stretch of an array written over by a function ===== -/
def fb_put {α : Type} (f g : Nat → α) (a n : Nat) : Nat → α := fun k => if a ≤ k ∧ k < a + n then g (k - a) else f k
theorem fb_put_0 {α : Type} (f g : Nat → α) (a : Nat) : fb_put f g a 0 = f := funext fun k => if_neg (by omega)
theorem fb_put_in {α : Type} {f g : Nat → α} {a n k : Nat} (h1 : a ≤ k) (h2 : k < a + n) : fb_put f g a n k = g (k - a) := if_pos ⟨h1, h2⟩
theorem fb_put_out {α : Type} {f g : Nat → α} {a n k : Nat} (h : k < a ∨ a + n ≤ k) : fb_put f g a n k = f k := if_neg (by omega)
theorem fb_put_succ (f g : Nat → Int32) (a n : Nat) : upd (fb_put f g a n) (a + n) (g n) = fb_put f g a (n + 1) := by
  funext k
  by_cases h : k = a + n
  · subst h
    simp [upd, fb_put]
  · by_cases h1 : a ≤ k ∧ k < a + n
    · have h2 : a ≤ k ∧ k < a + (n + 1) := by omega
      simp only [upd, fb_put, if_neg h, if_pos h1, if_pos h2]
    · have h2 : ¬ (a ≤ k ∧ k < a + (n + 1)) := by omega
      simp only [upd, fb_put, if_neg h, if_neg h1, if_neg h2]
/-- .. from the far end down -/
theorem fb_put_down (f g : Nat → Int32) {a n m : Nat} (h : m < n) : upd (fb_put f (fun k => g (k + (m + 1))) (a + (m + 1)) (n - (m + 1))) (a + m) (g m) = fb_put f (fun k => g (k + m)) (a + m) (n - m) := by
  funext k
  by_cases h0 : k = a + m
  · subst h0
    simp only [upd, if_true]
    rw [fb_put_in (by omega) (by omega)]
    exact congrArg g (by omega)
  · simp only [upd, if_neg h0]
    by_cases h1 : a + (m + 1) ≤ k ∧ k < a + (m + 1) + (n - (m + 1))
    · rw [fb_put_in h1.1 h1.2, fb_put_in (by omega) (by omega)]
      exact congrArg g (by omega)
    · rw [fb_put_out (by omega), fb_put_out (by omega)]
theorem fb_put_cong {α : Type} {f f2 g g2 : Nat → α} {a n : Nat} (hf : ∀ k, (k < a ∨ a + n ≤ k) → f k = f2 k) (hg : ∀ k, k < n → g k = g2 k) : fb_put f g a n = fb_put f2 g2 a n := by
  funext k
  by_cases h : a ≤ k ∧ k < a + n
  · rw [fb_put_in h.1 h.2, fb_put_in h.1 h.2, hg _ (by omega)]
  · rw [fb_put_out (by omega), fb_put_out (by omega), hf _ (by omega)]
/-! ===== the least, the first, the best so far; that there is one alone ===== -/
theorem fb_first {p : Nat → Prop} [DecidablePred p] : ∀ {n : Nat}, (∃ i, i < n ∧ p i) → ∃ i, i < n ∧ p i ∧ ∀ j, j < i → ¬ p j
  | 0, h => by obtain ⟨i, hi, -⟩ := h; exact absurd hi (Nat.not_lt_zero i)
  | n + 1, h => by
    by_cases q : ∃ i, i < n ∧ p i
    · obtain ⟨i, h1, h2⟩ := fb_first q
      exact ⟨i, by omega, h2⟩
    · obtain ⟨i, h1, h2⟩ := h
      have e : i = n := by
        rcases Nat.lt_or_ge i n with r | r
        · exact absurd ⟨i, r, h2⟩ q
        · omega
      subst e
      exact ⟨i, by omega, h2, fun j hj hp => q ⟨j, hj, hp⟩⟩
theorem fb_first_one {p : Nat → Prop} {i j : Nat} (hi : p i) (hi2 : ∀ k, k < i → ¬ p k) (hj : p j) (hj2 : ∀ k, k < j → ¬ p k) : i = j := by
  rcases Nat.lt_trichotomy i j with q | q | q
  · exact absurd hi (hj2 i q)
  · exact q
  · exact absurd hj (hi2 j q)
theorem fb_last {p : Nat → Prop} [DecidablePred p] : ∀ {n : Nat}, (∃ i, i < n ∧ p i) → ∃ i, i < n ∧ p i ∧ ∀ j, i < j → j < n → ¬ p j
  | 0, h => by obtain ⟨i, hi, -⟩ := h; exact absurd hi (Nat.not_lt_zero i)
  | n + 1, h => by
    by_cases q : p n
    · exact ⟨n, by omega, q, fun j h1 h2 => by omega⟩
    · obtain ⟨i, h1, h2⟩ := h
      have hi : i < n := by
        rcases Nat.lt_or_ge i n with r | r
        · exact r
        · have e : i = n := by omega
          subst e
          exact absurd h2 q
      obtain ⟨i2, a1, a2, a3⟩ := fb_last (n := n) ⟨i, hi, h2⟩
      refine ⟨i2, by omega, a2, fun j b1 b2 => ?_⟩
      rcases Nat.lt_or_ge j n with r | r
      · exact a3 j b1 r
      · have e : j = n := by omega
        subst e
        exact q
/-- the first greatest -/
theorem fb_best (f : Nat → Int) : ∀ {n : Nat}, 0 < n → ∃ i, i < n ∧ (∀ j, j < n → f j ≤ f i) ∧ ∀ j, j < i → f j < f i
  | 0, h => absurd h (Nat.lt_irrefl 0)
  | 1, _ => ⟨0, by omega, fun j hj => by have e : j = 0 := by omega
                                         subst e; exact Int.le_refl _, fun j hj => absurd hj (Nat.not_lt_zero j)⟩
  | n + 2, _ => by
    obtain ⟨i, h1, h2, h3⟩ := fb_best f (n := n + 1) (by omega)
    by_cases q : f i < f (n + 1)
    · refine ⟨n + 1, by omega, fun j hj => ?_, fun j hj => ?_⟩
      · rcases Nat.lt_or_ge j (n + 1) with r | r
        · have := h2 j r; omega
        · have e : j = n + 1 := by omega
          subst e; exact Int.le_refl _
      · have := h2 j hj; omega
    · refine ⟨i, by omega, fun j hj => ?_, h3⟩
      rcases Nat.lt_or_ge j (n + 1) with r | r
      · exact h2 j r
      · have e : j = n + 1 := by omega
        subst e; omega
theorem fb_best_one {f : Nat → Int} {n i j : Nat} (hi : i < n) (hi2 : ∀ k, k < n → f k ≤ f i) (hi3 : ∀ k, k < i → f k < f i) (hj : j < n) (hj2 : ∀ k, k < n → f k ≤ f j) (hj3 : ∀ k, k < j → f k < f j) : i = j := by
  rcases Nat.lt_trichotomy i j with q | q | q
  · have a := hj3 i q
    have b := hi2 j hj
    omega
  · exact q
  · have a := hi3 j q
    have b := hj2 i hi
    omega
/-- the first least -/
theorem fb_low (f : Nat → Int) {n : Nat} (h : 0 < n) : ∃ i, i < n ∧ (∀ j, j < n → f i ≤ f j) ∧ ∀ j, j < i → f i < f j := by
  obtain ⟨i, h1, h2, h3⟩ := fb_best (fun k => -f k) h
  exact ⟨i, h1, fun j hj => by have := h2 j hj; omega, fun j hj => by have := h3 j hj; omega⟩
/-! ===== signed ints as whole numbers, within bounds ===== -/
theorem fb_rng (x : Int32) : -2147483648 ≤ x.toInt ∧ x.toInt < 2147483648 := by
  have h1 := Int32.le_toInt x
  have h2 := Int32.toInt_lt x
  omega
theorem fb_bmod {z : Int} (h1 : -2147483648 ≤ z) (h2 : z < 2147483648) : z.bmod (2 ^ 32) = z := by
  rw [Int.bmod_eq_of_le (by omega) (by omega)]
theorem fb_addI {x y : Int32} (h1 : -2147483648 ≤ x.toInt + y.toInt) (h2 : x.toInt + y.toInt < 2147483648) : (x + y).toInt = x.toInt + y.toInt := by
  rw [Int32.toInt_add, fb_bmod h1 h2]
theorem fb_subI {x y : Int32} (h1 : -2147483648 ≤ x.toInt - y.toInt) (h2 : x.toInt - y.toInt < 2147483648) : (x - y).toInt = x.toInt - y.toInt := by
  rw [Int32.toInt_sub, fb_bmod h1 h2]
theorem fb_mulI {x y : Int32} (h1 : -2147483648 ≤ x.toInt * y.toInt) (h2 : x.toInt * y.toInt < 2147483648) : (x * y).toInt = x.toInt * y.toInt := by
  rw [Int32.toInt_mul, fb_bmod h1 h2]
theorem fb_negI {x : Int32} (h : x.toInt ≠ -2147483648) : (-x).toInt = -x.toInt := by
  have := fb_rng x
  rw [Int32.toInt_neg, fb_bmod (by omega) (by omega)]
theorem fb_ofI {z : Int} (h1 : -2147483648 ≤ z) (h2 : z < 2147483648) : (Int32.ofInt z).toInt = z := by
  rw [Int32.toInt_ofInt, fb_bmod h1 h2]
theorem fb_asI (x : Int32) : Int32.ofInt x.toInt = x := Int32.ofInt_toInt x
theorem fb_rngL (x : Int64) : -9223372036854775808 ≤ x.toInt ∧ x.toInt < 9223372036854775808 := by
  have h1 := Int64.le_toInt x
  have h2 := Int64.toInt_lt x
  omega
theorem fb_bmodL {z : Int} (h1 : -9223372036854775808 ≤ z) (h2 : z < 9223372036854775808) : z.bmod (2 ^ 64) = z := by
  rw [Int.bmod_eq_of_le (by omega) (by omega)]
theorem fb_addL {x y : Int64} (h1 : -9223372036854775808 ≤ x.toInt + y.toInt) (h2 : x.toInt + y.toInt < 9223372036854775808) : (x + y).toInt = x.toInt + y.toInt := by
  rw [Int64.toInt_add, fb_bmodL h1 h2]
theorem fb_subL {x y : Int64} (h1 : -9223372036854775808 ≤ x.toInt - y.toInt) (h2 : x.toInt - y.toInt < 9223372036854775808) : (x - y).toInt = x.toInt - y.toInt := by
  rw [Int64.toInt_sub, fb_bmodL h1 h2]
theorem fb_mulL {x y : Int64} (h1 : -9223372036854775808 ≤ x.toInt * y.toInt) (h2 : x.toInt * y.toInt < 9223372036854775808) : (x * y).toInt = x.toInt * y.toInt := by
  rw [Int64.toInt_mul, fb_bmodL h1 h2]
/-! ===== cuts of what is narrow already ===== -/
theorem fb_byte {x : Int32} (h1 : -128 ≤ x.toInt) (h2 : x.toInt < 128) : x.toInt8.toInt32 = x := by
  apply Int32.toInt_inj.1
  rw [Int8.toInt_toInt32, Int32.toInt_toInt8, Int.bmod_eq_of_le (by omega) (by omega)]
theorem fb_short {x : Int32} (h1 : -32768 ≤ x.toInt) (h2 : x.toInt < 32768) : x.toInt16.toInt32 = x := by
  apply Int32.toInt_inj.1
  rw [Int16.toInt_toInt32, Int32.toInt_toInt16, Int.bmod_eq_of_le (by omega) (by omega)]
theorem fb_byte_rng (x : Int32) : -128 ≤ x.toInt8.toInt32.toInt ∧ x.toInt8.toInt32.toInt < 128 := by
  rw [Int8.toInt_toInt32]
  have h1 := Int8.le_toInt x.toInt8
  have h2 := Int8.toInt_lt x.toInt8
  omega
theorem fb_short_rng (x : Int32) : -32768 ≤ x.toInt16.toInt32.toInt ∧ x.toInt16.toInt32.toInt < 32768 := by
  rw [Int16.toInt_toInt32]
  have h1 := Int16.le_toInt x.toInt16
  have h2 := Int16.toInt_lt x.toInt16
  omega
theorem fb_byte_twice (x : Int32) : x.toInt8.toInt32.toInt8.toInt32 = x.toInt8.toInt32 := fb_byte (fb_byte_rng x).1 (fb_byte_rng x).2
theorem fb_short_twice (x : Int32) : x.toInt16.toInt32.toInt16.toInt32 = x.toInt16.toInt32 := fb_short (fb_short_rng x).1 (fb_short_rng x).2
theorem fb_char {n : Nat} (h : n < 65536) : (nI n).toUInt32.toUInt16.toUInt32.toInt32 = nI n := by
  apply Int32.toBitVec_inj.1
  apply BitVec.eq_of_toNat_eq
  have e1 : (nI n).toBitVec.toNat = n := by
    show (BitVec.ofNat 32 n).toNat = n
    rw [BitVec.toNat_ofNat, Nat.mod_eq_of_lt (by omega)]
  have e2 : ((nI n).toUInt32.toUInt16.toUInt32).toNat = n := by
    rw [UInt16.toNat_toUInt32, UInt32.toNat_toUInt16]
    show (nI n).toBitVec.toNat % 2 ^ 16 = n
    rw [e1, Nat.mod_eq_of_lt (by omega)]
  rw [e1]
  exact e2
end
section
/-! base: two forms of contract (a method that only reads; a method that writes), their starts and their calls -/
def zq_N (U : State) : Prop := va_Nw (.methodLinkNest RX1 18 yX3_isFunction RX3) U ∧ va_Nw (.methodLinkNest RX1 48 yX3_isWithinLimit RX3) U ∧ va_Nw (.methodLinkNest RX2 22 yX3_isFunction RX3) U ∧ va_Nw (.methodLinkNest RX2 26 yX3_isRun RX3) U ∧ va_AO RX2 U ∧ va_AO RX0 U
def zq_K (D : va_G) (cI cZ cW cC : ClassId) (U : State) : Prop := va_K D vwCl [(cI, .int), (cZ, .boolean), (cW, .object RX2), (cC, .object RX0)] U ∧ zq_N U
theorem zq_K_warm {D : va_G} {cI cZ cW cC : ClassId} {s U : State} (hW : s.WarmedH U.vm) (h : zq_K D cI cZ cW cC s) : zq_K D cI cZ cW cC U :=
  ⟨va_K.moved hW.alike h.1, va_Nw.warmM hW h.2.1, va_Nw.warmM hW h.2.2.1, va_Nw.warmM hW h.2.2.2.1, va_Nw.warmM hW h.2.2.2.2.1, h.2.2.2.2.2.1.moved hW.alike, h.2.2.2.2.2.2.moved hW.alike⟩
theorem zq_K_call {D : va_G} {cI cZ cW cC : ClassId} {U : State} {g : JFrame} {mk : MethodId} {a : Array Value} (h : zq_K D cI cZ cW cC U) : zq_K D cI cZ cW cC (U.calling g mk a) :=
  ⟨va_K.moved (u := U) (U := U.calling g mk a) (Vm.Alike.refl U.vm) h.1, va_Nw.same rfl rfl h.2.1, va_Nw.same rfl rfl h.2.2.1, va_Nw.same rfl rfl h.2.2.2.1, va_Nw.same rfl rfl h.2.2.2.2.1, va_AO.moved (u := U) (U := U.calling g mk a) (Vm.Alike.refl U.vm) h.2.2.2.2.2.1, va_AO.moved (u := U) (U := U.calling g mk a) (Vm.Alike.refl U.vm) h.2.2.2.2.2.2⟩
def zq_rP (D : va_G) (cI cZ cW cC : ClassId) (av : List Value) (ws : va_W) : Array Value → State → Prop := va_Pc av (fun U => va_P D vwCl ws U.heap ∧ zq_K D cI cZ cW cC U)
def zq_rQ (post : Option Value → Prop) : Array Value → State → Outcome → State → Prop := fun _ st oc t => ∃ v : Option Value, oc = .returned v ∧ post v ∧ t.heap = st.heap
def zq_ro (l : Launch) (D : va_G) (cI cZ cW cC : ClassId) (y : MethodName) (wsw : List Cond) (rm : Room) (av : List Value) (ws : va_W) (post : Option Value → Prop) : Prop := Met l y wsw rm (zq_rP D cI cZ cW cC av ws) (zq_rQ post) 0 0 (fun _ => False)
def zq_mP (D : va_G) (cI cZ cW cC : ClassId) (av : List Value) (ws : va_W) (sz : Nat) : Array Value → State → Prop := va_Pc av (fun U => U.heap.size = sz ∧ va_P D vwCl ws U.heap ∧ zq_K D cI cZ cW cC U ∧ va_D (fun _ => True) ws)
def zq_mQ (D : va_G) (ws : va_W) (sz : Nat) (post : Option Value → va_W → Prop) : Array Value → State → Outcome → State → Prop := fun _ st oc t => (∃ (v : Option Value) (w1 : va_W), oc = .returned v ∧ post v w1 ∧ va_P D vwCl w1 t.heap ∧ va_D (va_A ws sz) w1) ∧ va_F (va_A ws sz) st t
def zq_mu (l : Launch) (D : va_G) (cI cZ cW cC : ClassId) (y : MethodName) (wsw : List Cond) (rm : Room) (av : List Value) (ws : va_W) (sz : Nat) (post : Option Value → va_W → Prop) (mc ms : Nat) : Prop := Met l y wsw rm (zq_mP D cI cZ cW cC av ws sz) (zq_mQ D ws sz post) mc ms (va_A ws sz)
theorem zq_rP_blind {D : va_G} {cI cZ cW cC : ClassId} {av : List Value} {ws : va_W} : FrameBlind (zq_rP D cI cZ cW cC av ws) := fun _ _ _ _ q => ⟨q.1, q.2.1, zq_K_call q.2.2⟩
theorem zq_mP_blind {D : va_G} {cI cZ cW cC : ClassId} {av : List Value} {ws : va_W} {sz : Nat} : FrameBlind (zq_mP D cI cZ cW cC av ws sz) := fun _ _ _ _ q => ⟨q.1, q.2.1, q.2.2.1, zq_K_call q.2.2.2.1, q.2.2.2.2⟩
/-- what the body of a reading method gets -/
def zq_rB (l : Launch) (D : va_G) (cI cZ cW cC : ClassId) (wsw : List Cond) (rm : Room) (av : List Value) (ws : va_W) (cc : ByteArray) (maxL : Nat) (own : String) (ret : Program → Env → State → MethodId → List Frame → Method → Code → (State → Prop) → Prop) : Prop :=
  ∀ (p : Program) (e : Env) (s : State) (m : MethodId) (below : List Frame) (meth : Method) (c : Code) (Q : State → Prop) (ls : Array Slot), CallFix p m c cc maxL s av.toArray wsw own → va_P D vwCl ws s.heap → zq_K D cI cZ cW cC s → lv_has ls maxL (lv_args 0 av) → ret p e s m below meth c Q → W p l e rm s m av.toArray below meth c s.heap [] 0 0 Q (F0 m 0 ls [])
theorem zq_roI {l : Launch} {D : va_G} {cI cZ cW cC : ClassId} {y : MethodName} {wsw w' : List Cond} {rm : Room} {av : List Value} {ws : va_W} {post : Option Value → Prop} {cc : ByteArray} {maxL : Nat} {own : String} (hy : plainName y.cls = true) (hw : wsw = Cond.code y cc maxL (some .int) :: w') (ho : y.cls = own) (hlen : (lg_sl av).length ≤ maxL)
    (body : zq_rB l D cI cZ cW cC wsw rm av ws cc maxL own (fun p e s m below meth c Q => ∀ (v : Int32) (pc : Nat) (ls' : Array Slot), post (some (.int v)) → decode cc pc = .ok (.ireturn, 1) → W p l e rm s m av.toArray below meth c s.heap [] 0 0 Q (F0 m pc ls' [.int v]))) : zq_ro l D cI cZ cW cC y wsw rm av ws post := by
  refine Met.ofW (cc := cc) (maxL := maxL) (ret := some .int) hy hw ?_
  intro p e s m args below meth c s₁ B hml hv
  obtain ⟨rfl, hP, hK⟩ := hv
  rw [lg_entry_eq]
  exact body p e s m below meth c _ _ ⟨B.exec, B.bytes, hml, ho ▸ findClass_of_methodNamed B.named, atoms_spec (ws := wsw) B.pre⟩ hP hK (lv_entry av (n := maxL) hlen) (fun v pc ls' hp hd => W.iret B.exec B.bytes B.returns (fun t ht hW => ⟨_, rfl, hp, ht⟩) (fun q h => by cases h) hd B.notSynchronized)
theorem zq_roZ {l : Launch} {D : va_G} {cI cZ cW cC : ClassId} {y : MethodName} {wsw w' : List Cond} {rm : Room} {av : List Value} {ws : va_W} {post : Option Value → Prop} {cc : ByteArray} {maxL : Nat} {own : String} (hy : plainName y.cls = true) (hw : wsw = Cond.code y cc maxL (some .boolean) :: w') (ho : y.cls = own) (hlen : (lg_sl av).length ≤ maxL)
    (body : zq_rB l D cI cZ cW cC wsw rm av ws cc maxL own (fun p e s m below meth c Q => ∀ (v : Int32) (pc : Nat) (ls' : Array Slot), (v = 0 ∨ v = 1) → post (some (.int v)) → decode cc pc = .ok (.ireturn, 1) → W p l e rm s m av.toArray below meth c s.heap [] 0 0 Q (F0 m pc ls' [.int v]))) : zq_ro l D cI cZ cW cC y wsw rm av ws post := by
  refine Met.ofW (cc := cc) (maxL := maxL) (ret := some .boolean) hy hw ?_
  intro p e s m args below meth c s₁ B hml hv
  obtain ⟨rfl, hP, hK⟩ := hv
  rw [lg_entry_eq]
  exact body p e s m below meth c _ _ ⟨B.exec, B.bytes, hml, ho ▸ findClass_of_methodNamed B.named, atoms_spec (ws := wsw) B.pre⟩ hP hK (lv_entry av (n := maxL) hlen) (fun v pc ls' h01 hp hd => W.zret B.exec B.bytes B.returns (by rcases h01 with rfl | rfl <;> rfl) (fun t ht hW => ⟨_, rfl, hp, ht⟩) (fun q h => by cases h) hd B.notSynchronized)
theorem zq_roA {l : Launch} {D : va_G} {cI cZ cW cC : ClassId} {y : MethodName} {wsw w' : List Cond} {rm : Room} {av : List Value} {ws : va_W} {post : Option Value → Prop} {cc : ByteArray} {maxL : Nat} {own C : String} (hy : plainName y.cls = true) (hw : wsw = Cond.code y cc maxL (some (.object C)) :: w') (ho : y.cls = own) (hlen : (lg_sl av).length ≤ maxL)
    (body : zq_rB l D cI cZ cW cC wsw rm av ws cc maxL own (fun p e s m below meth c Q => ∀ (v : Option Nat) (pc : Nat) (ls' : Array Slot), post (some (va_rf v)) → decode cc pc = .ok (.areturn, 1) → W p l e rm s m av.toArray below meth c s.heap [] 0 0 Q (F0 m pc ls' [va_rf v]))) : zq_ro l D cI cZ cW cC y wsw rm av ws post := by
  refine Met.ofW (cc := cc) (maxL := maxL) (ret := some (.object C)) hy hw ?_
  intro p e s m args below meth c s₁ B hml hv
  obtain ⟨rfl, hP, hK⟩ := hv
  rw [lg_entry_eq]
  exact body p e s m below meth c _ _ ⟨B.exec, B.bytes, hml, ho ▸ findClass_of_methodNamed B.named, atoms_spec (ws := wsw) B.pre⟩ hP hK (lv_entry av (n := maxL) hlen) (fun v pc ls' hp hd => W.aret B.exec B.bytes B.returns (Or.inl ⟨_, rfl⟩) (va_rf_or v) (fun t ht hW => ⟨_, rfl, hp, ht⟩) (fun q h => by cases h) hd B.notSynchronized)
/-- what the body of a writing method gets -/
def zq_mB (l : Launch) (D : va_G) (cI cZ cW cC : ClassId) (wsw : List Cond) (rm : Room) (av : List Value) (ws : va_W) (sz : Nat) (cc : ByteArray) (maxL : Nat) (own nm : String) (ret : Program → Env → State → MethodId → List Frame → Method → Code → (State → Prop) → (Nat → Prop) → Prop) : Prop :=
  ∀ (p : Program) (e : Env) (s : State) (m : MethodId) (below : List Frame) (meth : Method) (c : Code) (Q : State → Prop) (A : Nat → Prop) (ls : Array Slot), s.heap.size = sz → CallFix p m c cc maxL s av.toArray wsw own → meth.name = nm → (∀ q : Nat, s.heap.size ≤ q → A q) → va_P D vwCl ws s.heap → zq_K D cI cZ cW cC s → va_D A ws → va_S A s.heap s.heap [] → lv_has ls maxL (lv_args 0 av) → ret p e s m below meth c Q A → W p l e rm s m av.toArray below meth c s.heap [] 0 0 Q (F0 m 0 ls [])
theorem zq_muI {l : Launch} {D : va_G} {cI cZ cW cC : ClassId} {y : MethodName} {wsw w' : List Cond} {rm : Room} {av : List Value} {ws : va_W} {sz : Nat} {post : Option Value → va_W → Prop} {mc ms : Nat} {cc : ByteArray} {maxL : Nat} {own : String} (hy : plainName y.cls = true) (hw : wsw = Cond.code y cc maxL (some .int) :: w') (ho : y.cls = own) (hlen : (lg_sl av).length ≤ maxL)
    (body : zq_mB l D cI cZ cW cC wsw rm av ws sz cc maxL own y.name (fun p e s m below meth c Q A => ∀ (v : Int32) (pc : Nat) (ls' : Array Slot) (w1 : va_W) (H1 : Heap) (locs1 : List Loc), post (some (.int v)) w1 → va_P D vwCl w1 H1 → va_D A w1 → va_S A s.heap H1 locs1 → decode cc pc = .ok (.ireturn, 1) → W p l e rm s m av.toArray below meth c H1 locs1 mc ms Q (F0 m pc ls' [.int v]))) : zq_mu l D cI cZ cW cC y wsw rm av ws sz post mc ms := by
  refine Met.ofW (cc := cc) (maxL := maxL) (ret := some .int) hy hw ?_
  intro p e s m args below meth c s₁ B hml hv
  obtain ⟨rfl, hsz, hP, hK, hD⟩ := hv
  rw [lg_entry_eq]
  exact body p e s m below meth c _ (va_A ws sz) _ hsz ⟨B.exec, B.bytes, hml, ho ▸ findClass_of_methodNamed B.named, atoms_spec (ws := wsw) B.pre⟩ (name_of_methodNamed B.named B.method).1 (fun q h => Or.inr (hsz ▸ h)) hP hK hD.self va_S.rf (lv_entry av (n := maxL) hlen) (fun v pc ls' w1 H1 locs1 hp hP1 hD1 hS1 hd => W.iret B.exec B.bytes B.returns (fun t ht hW => ⟨⟨_, w1, rfl, hp, by rw [ht]; exact hP1, hD1⟩, hS1.F ht⟩) hS1.2.2 hd B.notSynchronized)
theorem zq_muZ {l : Launch} {D : va_G} {cI cZ cW cC : ClassId} {y : MethodName} {wsw w' : List Cond} {rm : Room} {av : List Value} {ws : va_W} {sz : Nat} {post : Option Value → va_W → Prop} {mc ms : Nat} {cc : ByteArray} {maxL : Nat} {own : String} (hy : plainName y.cls = true) (hw : wsw = Cond.code y cc maxL (some .boolean) :: w') (ho : y.cls = own) (hlen : (lg_sl av).length ≤ maxL)
    (body : zq_mB l D cI cZ cW cC wsw rm av ws sz cc maxL own y.name (fun p e s m below meth c Q A => ∀ (v : Int32) (pc : Nat) (ls' : Array Slot) (w1 : va_W) (H1 : Heap) (locs1 : List Loc), (v = 0 ∨ v = 1) → post (some (.int v)) w1 → va_P D vwCl w1 H1 → va_D A w1 → va_S A s.heap H1 locs1 → decode cc pc = .ok (.ireturn, 1) → W p l e rm s m av.toArray below meth c H1 locs1 mc ms Q (F0 m pc ls' [.int v]))) : zq_mu l D cI cZ cW cC y wsw rm av ws sz post mc ms := by
  refine Met.ofW (cc := cc) (maxL := maxL) (ret := some .boolean) hy hw ?_
  intro p e s m args below meth c s₁ B hml hv
  obtain ⟨rfl, hsz, hP, hK, hD⟩ := hv
  rw [lg_entry_eq]
  exact body p e s m below meth c _ (va_A ws sz) _ hsz ⟨B.exec, B.bytes, hml, ho ▸ findClass_of_methodNamed B.named, atoms_spec (ws := wsw) B.pre⟩ (name_of_methodNamed B.named B.method).1 (fun q h => Or.inr (hsz ▸ h)) hP hK hD.self va_S.rf (lv_entry av (n := maxL) hlen) (fun v pc ls' w1 H1 locs1 h01 hp hP1 hD1 hS1 hd => W.zret B.exec B.bytes B.returns (by rcases h01 with rfl | rfl <;> rfl) (fun t ht hW => ⟨⟨_, w1, rfl, hp, by rw [ht]; exact hP1, hD1⟩, hS1.F ht⟩) hS1.2.2 hd B.notSynchronized)
theorem zq_muV {l : Launch} {D : va_G} {cI cZ cW cC : ClassId} {y : MethodName} {wsw w' : List Cond} {rm : Room} {av : List Value} {ws : va_W} {sz : Nat} {post : Option Value → va_W → Prop} {mc ms : Nat} {cc : ByteArray} {maxL : Nat} {own : String} (hy : plainName y.cls = true) (hw : wsw = Cond.code y cc maxL none :: w') (ho : y.cls = own) (hlen : (lg_sl av).length ≤ maxL)
    (body : zq_mB l D cI cZ cW cC wsw rm av ws sz cc maxL own y.name (fun p e s m below meth c Q A => ∀ (pc : Nat) (ls' : Array Slot) (w1 : va_W) (H1 : Heap) (locs1 : List Loc), post none w1 → va_P D vwCl w1 H1 → va_D A w1 → va_S A s.heap H1 locs1 → decode cc pc = .ok (.return_, 1) → W p l e rm s m av.toArray below meth c H1 locs1 mc ms Q (F0 m pc ls' []))) : zq_mu l D cI cZ cW cC y wsw rm av ws sz post mc ms := by
  refine Met.ofW (cc := cc) (maxL := maxL) (ret := none) hy hw ?_
  intro p e s m args below meth c s₁ B hml hv
  obtain ⟨rfl, hsz, hP, hK, hD⟩ := hv
  rw [lg_entry_eq]
  exact body p e s m below meth c _ (va_A ws sz) _ hsz ⟨B.exec, B.bytes, hml, ho ▸ findClass_of_methodNamed B.named, atoms_spec (ws := wsw) B.pre⟩ (name_of_methodNamed B.named B.method).1 (fun q h => Or.inr (hsz ▸ h)) hP hK hD.self va_S.rf (lv_entry av (n := maxL) hlen) (fun pc ls' w1 H1 locs1 hp hP1 hD1 hS1 hd => W.vret B.exec B.bytes B.returns (fun t ht hW => ⟨⟨_, w1, rfl, hp, by rw [ht]; exact hP1, hD1⟩, hS1.F ht⟩) hS1.2.2 hd B.notSynchronized)
theorem zq_muA {l : Launch} {D : va_G} {cI cZ cW cC : ClassId} {y : MethodName} {wsw w' : List Cond} {rm : Room} {av : List Value} {ws : va_W} {sz : Nat} {post : Option Value → va_W → Prop} {mc ms : Nat} {cc : ByteArray} {maxL : Nat} {own C : String} (hy : plainName y.cls = true) (hw : wsw = Cond.code y cc maxL (some (.object C)) :: w') (ho : y.cls = own) (hlen : (lg_sl av).length ≤ maxL)
    (body : zq_mB l D cI cZ cW cC wsw rm av ws sz cc maxL own y.name (fun p e s m below meth c Q A => ∀ (v : Nat) (pc : Nat) (ls' : Array Slot) (w1 : va_W) (H1 : Heap) (locs1 : List Loc), post (some (.ref v)) w1 → va_P D vwCl w1 H1 → va_D A w1 → va_S A s.heap H1 locs1 → decode cc pc = .ok (.areturn, 1) → W p l e rm s m av.toArray below meth c H1 locs1 mc ms Q (F0 m pc ls' [.ref v]))) : zq_mu l D cI cZ cW cC y wsw rm av ws sz post mc ms := by
  refine Met.ofW (cc := cc) (maxL := maxL) (ret := some (.object C)) hy hw ?_
  intro p e s m args below meth c s₁ B hml hv
  obtain ⟨rfl, hsz, hP, hK, hD⟩ := hv
  rw [lg_entry_eq]
  exact body p e s m below meth c _ (va_A ws sz) _ hsz ⟨B.exec, B.bytes, hml, ho ▸ findClass_of_methodNamed B.named, atoms_spec (ws := wsw) B.pre⟩ (name_of_methodNamed B.named B.method).1 (fun q h => Or.inr (hsz ▸ h)) hP hK hD.self va_S.rf (lv_entry av (n := maxL) hlen) (fun v pc ls' w1 H1 locs1 hp hP1 hD1 hS1 hd => W.aret B.exec B.bytes B.returns (Or.inl ⟨_, rfl⟩) (Or.inr ⟨_, rfl⟩) (fun t ht hW => ⟨⟨_, w1, rfl, hp, by rw [ht]; exact hP1, hD1⟩, hS1.F ht⟩) hS1.2.2 hd B.notSynchronized)
section
variable {p : Program} {l : Launch} {e : Env} {R : Room} {s : State} {m : MethodId} {args : Array Value} {below : List Frame} {meth : Method} {c : Code} {H H0 : Heap} {locs : List Loc} {cells slots : Nat} {Q : State → Prop} {D : va_G} {cI cZ cW cC : ClassId} {A : Nat → Prop}
variable {y : MethodName} {bytes cc : ByteArray} {maxL nL mc ms n index sz : Nat} {ret : Option FieldType} {wsw Ts : List Cond} {rm : Room} {own C host : String} {b : Addr} {As rest st0 : List Value} {pc : Nat} {ls : Array Slot} {ws wc X pl cx wr : va_W} {post : Option Value → Prop} {postM : Option Value → va_W → Prop} {q : vw_C} {fs : List Value} {ci q0 : Nat}
theorem zq_ro_go (hr : va_Run p l e R s m args below meth c H locs cells slots 0 0 (F0 m pc ls st0) rest (zq_rQ post As.toArray) (fun _ => False))
    (kk : ∀ v : Option Value, post v → W p l e R s m args below meth c H locs cells slots Q (F0 m (pc + 3) ls (v.toList ++ rest))) : W p l e R s m args below meth c H locs cells slots Q (F0 m pc ls st0) := by
  intro T hT X
  obtain ⟨v, st₀, t, T', L, h0, X', hL, e1, -, ⟨v', hv, hp, hh⟩, st⟩ := hr T hT X
  cases hv
  obtain ⟨t2, a1, b1⟩ := kk v hp T' (by rw [e1, hh, h0]) (Stand.forget X' (fun q h => (hL q h).elim))
  exact ⟨t2, st t2 a1, b1⟩
theorem zq_mu_go (hr : va_Run p l e R s m args below meth c H locs cells slots mc ms (F0 m pc ls st0) rest (zq_mQ D wc H.size postM As.toArray) (va_A wc H.size)) (hS : va_S A H0 H locs) (hF : ∀ q, va_A wc H.size q → A q)
    (kk : ∀ (v : Option Value) (w1 : va_W) (H1 : Heap) (locs1 : List Loc), postM v w1 → va_P D vwCl w1 H1 → va_D (va_A wc H.size) w1 → (∀ q : Nat, q < H.size → ¬ va_A wc H.size q → H1[q]? = H[q]?) → va_S A H0 H1 locs1 → W p l e R s m args below meth c H1 locs1 (cells + mc) (slots + ms) Q (F0 m (pc + 3) ls (v.toList ++ rest))) : W p l e R s m args below meth c H locs cells slots Q (F0 m pc ls st0) := by
  intro T hT X
  obtain ⟨v, st₀, t, T', L, h0, X', hL, e1, -, ⟨⟨v', w1, hv, hp, hP1, hD1⟩, hz, hk⟩, st⟩ := hr T hT X
  cases hv
  rw [h0] at hz hk
  obtain ⟨t2, a1, b1⟩ := kk v w1 T'.heap (locs ++ L) hp (by rw [e1]; exact hP1) hD1 (fun q h1 h2 => by rw [e1]; exact hk q h1 h2)
    ⟨Nat.le_trans hS.1 (by rw [e1]; exact hz), fun q h1 h2 => by rw [e1, hk q (Nat.lt_of_lt_of_le h1 hS.1) (fun z => h2 (hF q z))]; exact hS.2.1 q h1 h2, fun q hq => by
      rcases List.mem_append.mp hq with h | h
      · exact hS.2.2 q h
      · exact hF _ (hL q h)⟩ T' rfl X'
  exact ⟨t2, st t2 a1, b1⟩
/-- a reading call: of an object, of a static method, of a nest mate's static method -/
theorem zq_cV (S : CallFix p m c cc nL s args Ts own) (hM : zq_ro l D cI cZ cW cC y wsw rm (.ref b :: As) wc post) (cw : CallW R s args own C index y bytes maxL ret wsw rm 0 0 n) (hK : zq_K D cI cZ cW cC s) (hP : va_P D vwCl wc H) (ci q0 : Nat) {T : u_T} {N : Nat} (hc : vwCl[ci]? = some (C, T, N)) {fs : List Value} (he : wc[q0]? = some (b, .inr (ci, fs)))
    (hn : As.length = n) (hsz : ls.size = nL) (hst : st0 = As.reverse ++ .ref b :: rest) (h8 : (rest.map fun v => v.category).sum ≤ 8) (hdg : decode cc pc = .ok (.invokevirtual index, 3)) (hf : cells ≤ R.cells ∧ slots ≤ R.slots)
    (kk : ∀ v : Option Value, post v → W p l e R s m args below meth c H locs cells slots Q (F0 m (pc + 3) ls (v.toList ++ rest))) : W p l e R s m args below meth c H locs cells slots Q (F0 m pc ls st0) :=
  zq_ro_go (As := .ref b :: As) (va_runV (As := As) S hM cw ⟨zq_rP_blind, va_recv hK.1 hP hc he, fun U hU hW => ⟨rfl, by rw [hU]; exact hP, zq_K_warm hW hK⟩⟩ rfl hn hsz hst (lv_room h8) hdg hf) kk
theorem zq_cS (S : CallFix p m c cc nL s args Ts own) (hM : zq_ro l D cI cZ cW cC y wsw rm As wc post) (cw : CallB R s args own index y bytes maxL ret wsw rm 0 0 n ∧ (Cond.static y).before args s = true) (hK : zq_K D cI cZ cW cC s) (hP : va_P D vwCl wc H)
    (hn : As.length = n) (hsz : ls.size = nL) (hst : st0 = As.reverse ++ rest) (h8 : (rest.map fun v => v.category).sum ≤ 8) (hdg : decode cc pc = .ok (.invokestatic index, 3)) (hf : cells ≤ R.cells ∧ slots ≤ R.slots)
    (kk : ∀ v : Option Value, post v → W p l e R s m args below meth c H locs cells slots Q (F0 m (pc + 3) ls (v.toList ++ rest))) : W p l e R s m args below meth c H locs cells slots Q (F0 m pc ls st0) :=
  zq_ro_go (As := As) (va_runS (As := As) S hM cw ⟨zq_rP_blind, fun U hU hW => ⟨rfl, by rw [hU]; exact hP, zq_K_warm hW hK⟩⟩ rfl hn hsz hst (lv_room h8) hdg hf) kk
theorem zq_cN (S : CallFix p m c cc nL s args Ts own) (hM : zq_ro l D cI cZ cW cC y wsw rm As wc post) (cw : va_CN R s args own index y host bytes maxL ret wsw rm 0 0 n ∧ (Cond.static y).before args s = true ∧ True) (hK : zq_K D cI cZ cW cC s) (hP : va_P D vwCl wc H)
    (hn : As.length = n) (hsz : ls.size = nL) (hst : st0 = As.reverse ++ rest) (h8 : (rest.map fun v => v.category).sum ≤ 8) (hdg : decode cc pc = .ok (.invokestatic index, 3)) (hf : cells ≤ R.cells ∧ slots ≤ R.slots)
    (kk : ∀ v : Option Value, post v → W p l e R s m args below meth c H locs cells slots Q (F0 m (pc + 3) ls (v.toList ++ rest))) : W p l e R s m args below meth c H locs cells slots Q (F0 m pc ls st0) :=
  zq_ro_go (As := As) (va_runSN (As := As) S hM cw ⟨zq_rP_blind, fun U hU hW => ⟨rfl, by rw [hU]; exact hP, zq_K_warm hW hK⟩⟩ rfl hn hsz hst (lv_room h8) hdg hf) kk
/-- a writing call that has the caller's whole world -/
theorem zq_cM (S : CallFix p m c cc nL s args Ts own) (hM : zq_mu l D cI cZ cW cC y wsw rm (.ref b :: As) ws H.size postM mc ms) (cw : CallW R s args own C index y bytes maxL ret wsw rm mc ms n) (hK : zq_K D cI cZ cW cC s) (hP : va_P D vwCl ws H) (hD : va_D A ws) (hS : va_S A H0 H locs) (hA : ∀ q : Nat, H0.size ≤ q → A q) (ci q0 : Nat) {T : u_T} {N : Nat} (hc : vwCl[ci]? = some (C, T, N)) {fs : List Value} (he : ws[q0]? = some (b, .inr (ci, fs)))
    (hn : As.length = n) (hsz : ls.size = nL) (hst : st0 = As.reverse ++ .ref b :: rest) (h8 : (rest.map fun v => v.category).sum ≤ 8) (hdg : decode cc pc = .ok (.invokevirtual index, 3)) (hf : cells + mc ≤ R.cells ∧ slots + ms ≤ R.slots)
    (kk : ∀ (v : Option Value) (w1 : va_W) (H1 : Heap) (locs1 : List Loc), postM v w1 → va_P D vwCl w1 H1 → va_D A w1 → va_S A H0 H1 locs1 → W p l e R s m args below meth c H1 locs1 (cells + mc) (slots + ms) Q (F0 m (pc + 3) ls (v.toList ++ rest))) : W p l e R s m args below meth c H locs cells slots Q (F0 m pc ls st0) := by
  have hF : ∀ q, va_A ws H.size q → A q := fun q h => by
    rcases h with ⟨k, e, h⟩ | h
    · exact hD.2 k (q, e) h
    · exact hA q (Nat.le_trans hS.1 h)
  exact zq_mu_go (As := .ref b :: As) (va_runV (As := As) S hM cw ⟨zq_mP_blind, va_recv hK.1 hP hc he, fun U hU hW => ⟨rfl, by rw [hU], by rw [hU]; exact hP, zq_K_warm hW hK, hD.weaken (fun _ _ _ _ => trivial)⟩⟩ rfl hn hsz hst (lv_room h8) hdg hf) hS hF (fun v w1 H1 locs1 hp hP1 hD1 _ hS1 => kk v w1 H1 locs1 hp hP1 (hD1.weaken (fun _ q _ h => hF q.1 h)) hS1)
/-- a writing call that has some cells of the caller's world -/
theorem zq_cQ (S : CallFix p m c cc nL s args Ts own) (hM : zq_mu l D cI cZ cW cC y wsw rm (.ref b :: As) cx H.size postM mc ms) (cw : CallW R s args own C index y bytes maxL ret wsw rm mc ms n) (hK : zq_K D cI cZ cW cC s) (hP : va_P D vwCl (X ++ pl) H) (hD : va_D A (X ++ pl)) (hS : va_S A H0 H locs) (hA : ∀ q : Nat, H0.size ≤ q → A q) (isC isR : List Nat) (hC : isC.map (fun i => X[i]?) = cx.map some) (hCn : va_nd isC = true) (hR : isR.map (fun i => X[i]?) = wr.map some) (hnd : va_nd isR = true) (hdis : ∀ i ∈ isR, i ∉ isC) (ci q0 : Nat) {T : u_T} {N : Nat} (hc : vwCl[ci]? = some (C, T, N)) {fs : List Value} (he : cx[q0]? = some (b, .inr (ci, fs)))
    (hn : As.length = n) (hsz : ls.size = nL) (hst : st0 = As.reverse ++ .ref b :: rest) (h8 : (rest.map fun v => v.category).sum ≤ 8) (hdg : decode cc pc = .ok (.invokevirtual index, 3)) (hf : cells + mc ≤ R.cells ∧ slots + ms ≤ R.slots)
    (kk : ∀ (v : Option Value) (w1 : va_W) (H1 : Heap) (locs1 : List Loc), postM v w1 → va_P D vwCl ((wr ++ w1) ++ pl) H1 → va_D A ((wr ++ w1) ++ pl) → va_S A H0 H1 locs1 → W p l e R s m args below meth c H1 locs1 (cells + mc) (slots + ms) Q (F0 m (pc + 3) ls (v.toList ++ rest))) : W p l e R s m args below meth c H locs cells slots Q (F0 m pc ls st0) := by
  have hin : ∀ (k : Nat) (q : Nat × va_E), cx[k]? = some q → ∃ i, isC[k]? = some i ∧ (X ++ pl)[i]? = some q := fun k q hq => by
    obtain ⟨i, h1, h2⟩ := va_in_of isC hC hq
    exact ⟨i, h1, by rw [List.getElem?_append_left (List.getElem?_eq_some_iff.mp h2).1]; exact h2⟩
  have hPc : va_P D vwCl cx H := fun k q hq => by
    obtain ⟨i, -, h⟩ := hin k q hq
    exact hP i q h
  have hDc : va_D A cx := ⟨fun i j a b ha hb hab => by
      obtain ⟨i1, g1, h1⟩ := hin i a ha
      obtain ⟨j1, g2, h2⟩ := hin j b hb
      have e1 := hD.1 i1 j1 a b h1 h2 hab
      subst e1
      exact va_nd_inj isC hCn i j i1 g1 g2, fun k q hq => by
      obtain ⟨i, -, h⟩ := hin k q hq
      exact hD.2 i q h⟩
  have hF : ∀ q, va_A cx H.size q → A q := fun q h => by
    rcases h with ⟨k, e, h⟩ | h
    · exact hDc.2 k (q, e) h
    · exact hA q (Nat.le_trans hS.1 h)
  exact zq_mu_go (As := .ref b :: As) (va_runV (As := As) S hM cw ⟨zq_mP_blind, va_recv hK.1 hPc hc he, fun U hU hW => ⟨rfl, by rw [hU], by rw [hU]; exact hPc, zq_K_warm hW hK, hDc.weaken (fun _ _ _ _ => trivial)⟩⟩ rfl hn hsz hst (lv_room h8) hdg hf) hS hF (fun v w1 H1 locs1 hp hP1 hD1 hk1 hS1 => by
    obtain ⟨hP2, hD2⟩ := va_joinQ (w1 := w1) hP hD isC isR hC hR hnd hdis hk1 hF hP1 hD1
    exact kk v w1 H1 locs1 hp hP2 hD2 hS1)
/-- a constructor's call -/
theorem zq_cI (S : CallFix p m c cc nL s args Ts own) (hM : zq_mu l D cI cZ cW cC y wsw rm (.ref b :: As) cx H.size postM mc ms) (cw : CallB R s args own index y bytes maxL none wsw rm mc ms n ∧ y.name = "<init>" ∧ (Cond.instanceMethod y).before args s = true) (hK : zq_K D cI cZ cW cC s) (hP : va_P D vwCl (X ++ pl) H) (hD : va_D A (X ++ pl)) (hS : va_S A H0 H locs) (hA : ∀ q : Nat, H0.size ≤ q → A q) (isC isR : List Nat) (hC : isC.map (fun i => X[i]?) = cx.map some) (hCn : va_nd isC = true) (hR : isR.map (fun i => X[i]?) = wr.map some) (hnd : va_nd isR = true) (hdis : ∀ i ∈ isR, i ∉ isC)
    (hn : As.length = n) (hsz : ls.size = nL) (hst : st0 = As.reverse ++ .ref b :: rest) (h8 : (rest.map fun v => v.category).sum ≤ 8) (hdg : decode cc pc = .ok (.invokespecial index, 3)) (hf : cells + mc ≤ R.cells ∧ slots + ms ≤ R.slots)
    (kk : ∀ (v : Option Value) (w1 : va_W) (H1 : Heap) (locs1 : List Loc), postM v w1 → va_P D vwCl ((wr ++ w1) ++ pl) H1 → va_D A ((wr ++ w1) ++ pl) → va_S A H0 H1 locs1 → W p l e R s m args below meth c H1 locs1 (cells + mc) (slots + ms) Q (F0 m (pc + 3) ls (v.toList ++ rest))) : W p l e R s m args below meth c H locs cells slots Q (F0 m pc ls st0) := by
  have hin : ∀ (k : Nat) (q : Nat × va_E), cx[k]? = some q → ∃ i, isC[k]? = some i ∧ (X ++ pl)[i]? = some q := fun k q hq => by
    obtain ⟨i, h1, h2⟩ := va_in_of isC hC hq
    exact ⟨i, h1, by rw [List.getElem?_append_left (List.getElem?_eq_some_iff.mp h2).1]; exact h2⟩
  have hPc : va_P D vwCl cx H := fun k q hq => by
    obtain ⟨i, -, h⟩ := hin k q hq
    exact hP i q h
  have hDc : va_D A cx := ⟨fun i j a b ha hb hab => by
      obtain ⟨i1, g1, h1⟩ := hin i a ha
      obtain ⟨j1, g2, h2⟩ := hin j b hb
      have e1 := hD.1 i1 j1 a b h1 h2 hab
      subst e1
      exact va_nd_inj isC hCn i j i1 g1 g2, fun k q hq => by
      obtain ⟨i, -, h⟩ := hin k q hq
      exact hD.2 i q h⟩
  have hF : ∀ q, va_A cx H.size q → A q := fun q h => by
    rcases h with ⟨k, e, h⟩ | h
    · exact hDc.2 k (q, e) h
    · exact hA q (Nat.le_trans hS.1 h)
  exact zq_mu_go (As := .ref b :: As) (va_runI (As := As) S hM cw ⟨zq_mP_blind, fun U hU hW => ⟨rfl, by rw [hU], by rw [hU]; exact hPc, zq_K_warm hW hK, hDc.weaken (fun _ _ _ _ => trivial)⟩⟩ rfl hn hsz hst (lv_room h8) hdg hf) hS hF (fun v w1 H1 locs1 hp hP1 hD1 hk1 hS1 => by
    obtain ⟨hP2, hD2⟩ := va_joinQ (w1 := w1) hP hD isC isR hC hR hnd hdis hk1 hF hP1 hD1
    exact kk v w1 H1 locs1 hp hP2 hD2 hS1)
end
end
section
/-! rows over zq_K: fields, arrays -/
section
variable {p : Program} {l : Launch} {e : Env} {R : Room} {s : State} {m : MethodId} {args : Array Value} {below : List Frame} {meth : Method} {c : Code} {H H0 : Heap} {locs : List Loc} {cells slots : Nat} {Q : State → Prop} {D : va_G} {cI cZ cW cC : ClassId} {A : Nat → Prop}
variable {cc : ByteArray} {pc : Nat} {ls : Array Slot} {rest : List Value} {ws : va_W} {a : Nat}
theorem zq_get (hexec : p.tables.exec = Jvm.exec) (hb : c.code = cc) {own C : String} {T : u_T} {N ci index : Nat} {Ts : List Cond} (hts : ∀ w ∈ Ts, w.before args s = true) (hin : ∀ w ∈ u_ws C T N, w ∈ Ts) (hown : s.vm.findClass own = some m.cls) (hK : zq_K D cI cZ cW cC s) (hP : va_P D vwCl ws H) (q0 : Nat) {fs : List Value} (he : ws[q0]? = some (a, .inr (ci, fs))) (hc : vwCl[ci]? = some (C, T, N)) (k : Nat) (hk : k < N) (hlink : (Cond.fieldLink own index (T k).1 (T k).2.1 (T k).2.2.1).before args s = true) {v : Value} (hv : fs[k]? = some v) (hdg : decode cc pc = .ok (.getfield index, 3))
    (kk : W p l e R s m args below meth c H locs cells slots Q (F0 m (pc + 3) ls (v :: rest))) : W p l e R s m args below meth c H locs cells slots Q (F0 m pc ls (.ref a :: rest)) := va_get hexec hb hts hin hown hK.1 hP q0 he hc k hk hlink (fun _ h => h) hv hdg kk
theorem zq_put (hexec : p.tables.exec = Jvm.exec) (hb : c.code = cc) {own C : String} {T : u_T} {N ci index : Nat} {Ts : List Cond} (hts : ∀ w ∈ Ts, w.before args s = true) (hin : ∀ w ∈ u_ws C T N, w ∈ Ts) (ty0 : Nat → FieldType) (hty : ∀ k, k < N → parseFieldDescriptor (T k).2.2.1 = some (ty0 k)) (hnm : ∀ a, a < N → ∀ b, b < N → a ≠ b → (T a).2.1 ≠ (T b).2.1) (hown : s.vm.findClass own = some m.cls) (hK : zq_K D cI cZ cW cC s) (hP : va_P D vwCl ws H) (hD : va_D A ws) (hS0 : va_S A H0 H locs) (q0 : Nat) {fs : List Value} (he : ws[q0]? = some (a, .inr (ci, fs))) (hc : vwCl[ci]? = some (C, T, N)) (k : Nat) (hk : k < N) (hlink : (Cond.fieldLink own index (T k).1 (T k).2.1 (T k).2.2.1).before args s = true) (hfin : (T k).2.2.2 = false) {v : Value} (hn : narrow (ty0 k) v = v) (hfit : fits (ty0 k) v = true) (hl : k < fs.length)
    (hdg : decode cc pc = .ok (.putfield index, 3)) (kk : ∀ (H1 : Heap) (locs1 : List Loc), va_P D vwCl (ws.set q0 (a, .inr (ci, fs.set k v))) H1 → va_D A (ws.set q0 (a, .inr (ci, fs.set k v))) → va_S A H0 H1 locs1 → W p l e R s m args below meth c H1 locs1 cells slots Q (F0 m (pc + 3) ls rest)) : W p l e R s m args below meth c H locs cells slots Q (F0 m pc ls (v :: .ref a :: rest)) :=
  va_put hexec hb hts hin ty0 hty hnm hown hK.1 hP hD hS0 q0 he hc k hk hlink (fun _ h => h) hfin (hty k hk) hn hfit hl hdg kk
theorem zq_putF (hexec : p.tables.exec = Jvm.exec) (hb : c.code = cc) {own C : String} {T : u_T} {N ci index : Nat} {Ts : List Cond} (hts : ∀ w ∈ Ts, w.before args s = true) (hin : ∀ w ∈ u_ws C T N, w ∈ Ts) (ty0 : Nat → FieldType) (hty : ∀ k, k < N → parseFieldDescriptor (T k).2.2.1 = some (ty0 k)) (hnm : ∀ a, a < N → ∀ b, b < N → a ≠ b → (T a).2.1 ≠ (T b).2.1) (hown : s.vm.findClass own = some m.cls) (hK : zq_K D cI cZ cW cC s) (hP : va_P D vwCl ws H) (hD : va_D A ws) (hS0 : va_S A H0 H locs) (q0 : Nat) {fs : List Value} (he : ws[q0]? = some (a, .inr (ci, fs))) (hc : vwCl[ci]? = some (C, T, N)) (k : Nat) (hk : k < N) (hlink : (Cond.fieldLink own index (T k).1 (T k).2.1 (T k).2.2.1).before args s = true) (hfin : (T k).2.2.2 = true) (hin2 : meth.name = "<init>") (hdecl : (T k).1 = own) {v : Value} (hn : narrow (ty0 k) v = v) (hfit : fits (ty0 k) v = true) (hl : k < fs.length)
    (hdg : decode cc pc = .ok (.putfield index, 3)) (kk : ∀ (H1 : Heap) (locs1 : List Loc), va_P D vwCl (ws.set q0 (a, .inr (ci, fs.set k v))) H1 → va_D A (ws.set q0 (a, .inr (ci, fs.set k v))) → va_S A H0 H1 locs1 → W p l e R s m args below meth c H1 locs1 cells slots Q (F0 m (pc + 3) ls rest)) : W p l e R s m args below meth c H locs cells slots Q (F0 m pc ls (v :: .ref a :: rest)) :=
  va_putF hexec hb hts hin ty0 hty hnm hown hK.1 hP hD hS0 q0 he hc k hk hlink (fun _ h => h) hfin hin2 hdecl (hty k hk) hn hfit hl hdg kk
theorem zq_ild (hexec : p.tables.exec = Jvm.exec) (hb : c.code = cc) (hK : zq_K D cI cZ cW cC s) (hP : va_P D vwCl ws H) (q0 : Nat) {n : Nat} {f : Nat → Int32} (ha : ws[q0]? = some (a, .inl (cI, n, .inl f))) {i : Int32} (j : Nat) (hi : i = nI j) (hj : j < n) (hn : n < 2 ^ 31) (hdg : decode cc pc = .ok (.iaload, 1))
    (kk : W p l e R s m args below meth c H locs cells slots Q (F0 m (pc + 1) ls (.int (f j) :: rest))) : W p l e R s m args below meth c H locs cells slots Q (F0 m pc ls (.int i :: .ref a :: rest)) := by
  subst hi
  refine va_iald hexec hb hK.1 hP q0 0 ha rfl (vp_in_nI hj hn) hdg ?_
  rw [nI_clamp (Nat.lt_trans hj hn)]
  exact kk
theorem zq_zld (hexec : p.tables.exec = Jvm.exec) (hb : c.code = cc) (hK : zq_K D cI cZ cW cC s) (hP : va_P D vwCl ws H) (q0 : Nat) {n : Nat} {f : Nat → Int32} (ha : ws[q0]? = some (a, .inl (cZ, n, .inl f))) {i : Int32} (j : Nat) (hi : i = nI j) (hj : j < n) (hn : n < 2 ^ 31) (hdg : decode cc pc = .ok (.baload, 1))
    (kk : W p l e R s m args below meth c H locs cells slots Q (F0 m (pc + 1) ls (.int (f j) :: rest))) : W p l e R s m args below meth c H locs cells slots Q (F0 m pc ls (.int i :: .ref a :: rest)) := by
  subst hi
  refine va_zald hexec hb hK.1 hP q0 1 ha rfl (vp_in_nI hj hn) hdg ?_
  rw [nI_clamp (Nat.lt_trans hj hn)]
  exact kk
theorem zq_aldW (hexec : p.tables.exec = Jvm.exec) (hb : c.code = cc) (hK : zq_K D cI cZ cW cC s) (hP : va_P D vwCl ws H) (q0 : Nat) {n : Nat} {f : Nat → Option Nat} (ha : ws[q0]? = some (a, .inl (cW, n, .inr (.inr (.inr (.inr f)))))) {i : Int32} (j : Nat) (hi : i = nI j) (hj : j < n) (hn : n < 2 ^ 31) (hdg : decode cc pc = .ok (.aaload, 1))
    (kk : W p l e R s m args below meth c H locs cells slots Q (F0 m (pc + 1) ls (va_rf (f j) :: rest))) : W p l e R s m args below meth c H locs cells slots Q (F0 m pc ls (.int i :: .ref a :: rest)) := by
  subst hi
  refine va_aldq (C := RX2) hexec hb hK.1 hP q0 2 ha rfl (vp_in_nI hj hn) hdg ?_
  rw [nI_clamp (Nat.lt_trans hj hn)]
  exact kk
theorem zq_aldC (hexec : p.tables.exec = Jvm.exec) (hb : c.code = cc) (hK : zq_K D cI cZ cW cC s) (hP : va_P D vwCl ws H) (q0 : Nat) {n : Nat} {f : Nat → Option Nat} (ha : ws[q0]? = some (a, .inl (cC, n, .inr (.inr (.inr (.inr f)))))) {i : Int32} (j : Nat) (hi : i = nI j) (hj : j < n) (hn : n < 2 ^ 31) (hdg : decode cc pc = .ok (.aaload, 1))
    (kk : W p l e R s m args below meth c H locs cells slots Q (F0 m (pc + 1) ls (va_rf (f j) :: rest))) : W p l e R s m args below meth c H locs cells slots Q (F0 m pc ls (.int i :: .ref a :: rest)) := by
  subst hi
  refine va_aldq (C := RX0) hexec hb hK.1 hP q0 3 ha rfl (vp_in_nI hj hn) hdg ?_
  rw [nI_clamp (Nat.lt_trans hj hn)]
  exact kk
theorem zq_ist (hexec : p.tables.exec = Jvm.exec) (hb : c.code = cc) (hK : zq_K D cI cZ cW cC s) (hP : va_P D vwCl ws H) (hD : va_D A ws) (hS : va_S A H0 H locs) (q0 : Nat) {n : Nat} {f : Nat → Int32} (ha : ws[q0]? = some (a, .inl (cI, n, .inl f))) {i x : Int32} (j : Nat) (hi : i = nI j) (hj : j < n) (hn : n < 2 ^ 31) (hdg : decode cc pc = .ok (.iastore, 1))
    (kk : ∀ (H1 : Heap) (locs1 : List Loc), va_P D vwCl (ws.set q0 (a, .inl (cI, n, .inl (upd f j x)))) H1 → va_D A (ws.set q0 (a, .inl (cI, n, .inl (upd f j x)))) → va_S A H0 H1 locs1 → W p l e R s m args below meth c H1 locs1 cells slots Q (F0 m (pc + 1) ls rest)) : W p l e R s m args below meth c H locs cells slots Q (F0 m pc ls (.int x :: .int i :: .ref a :: rest)) := by
  subst hi
  refine va_iast hexec hb hK.1 hP hD hS q0 0 ha rfl (vp_in_nI hj hn) hdg ?_
  rw [nI_clamp (Nat.lt_trans hj hn)]
  exact kk
theorem zq_zst (hexec : p.tables.exec = Jvm.exec) (hb : c.code = cc) (hK : zq_K D cI cZ cW cC s) (hP : va_P D vwCl ws H) (hD : va_D A ws) (hS : va_S A H0 H locs) (q0 : Nat) {n : Nat} {f : Nat → Int32} (ha : ws[q0]? = some (a, .inl (cZ, n, .inl f))) {i : Int32} (j : Nat) (hi : i = nI j) (hj : j < n) (hn : n < 2 ^ 31) (hdg : decode cc pc = .ok (.bastore, 1))
    (kk : ∀ (H1 : Heap) (locs1 : List Loc), va_P D vwCl (ws.set q0 (a, .inl (cZ, n, .inl (upd f j 1)))) H1 → va_D A (ws.set q0 (a, .inl (cZ, n, .inl (upd f j 1)))) → va_S A H0 H1 locs1 → W p l e R s m args below meth c H1 locs1 cells slots Q (F0 m (pc + 1) ls rest)) : W p l e R s m args below meth c H locs cells slots Q (F0 m pc ls (.int 1 :: .int i :: .ref a :: rest)) := by
  subst hi
  refine va_zast hexec hb hK.1 hP hD hS q0 1 ha rfl (vp_in_nI hj hn) hdg ?_
  rw [nI_clamp (Nat.lt_trans hj hn), show vp_nar .boolean 1 = 1 from rfl]
  exact kk
theorem zq_astW (hexec : p.tables.exec = Jvm.exec) (hb : c.code = cc) (hK : zq_K D cI cZ cW cC s) (hP : va_P D vwCl ws H) (hD : va_D A ws) (hS : va_S A H0 H locs) (q0 qk : Nat) {n v : Nat} {vs : List Value} {f : Nat → Option Nat} (ha : ws[q0]? = some (a, .inl (cW, n, .inr (.inr (.inr (.inr f)))))) (hv : ws[qk]? = some (v, .inr (2, vs))) {i : Int32} (j : Nat) (hi : i = nI j) (hj : j < n) (hn : n < 2 ^ 31) (hdg : decode cc pc = .ok (.aastore, 1))
    (kk : ∀ (H1 : Heap) (locs1 : List Loc), va_P D vwCl (ws.set q0 (a, .inl (cW, n, .inr (.inr (.inr (.inr (va_up f j (some v)))))))) H1 → va_D A (ws.set q0 (a, .inl (cW, n, .inr (.inr (.inr (.inr (va_up f j (some v)))))))) → va_S A H0 H1 locs1 → W p l e R s m args below meth c H1 locs1 cells slots Q (F0 m (pc + 1) ls rest)) : W p l e R s m args below meth c H locs cells slots Q (F0 m pc ls (.ref v :: .int i :: .ref a :: rest)) := by
  subst hi
  refine va_astq (r := (RX2, TX2, 1)) hexec hb hK.1 hP hD hS q0 2 qk 2 ha rfl hv rfl (vp_in_nI hj hn) hdg ?_
  rw [nI_clamp (Nat.lt_trans hj hn)]
  exact kk
theorem zq_astC (hexec : p.tables.exec = Jvm.exec) (hb : c.code = cc) (hK : zq_K D cI cZ cW cC s) (hP : va_P D vwCl ws H) (hD : va_D A ws) (hS : va_S A H0 H locs) (q0 qk : Nat) {n v : Nat} {vs : List Value} {f : Nat → Option Nat} (ha : ws[q0]? = some (a, .inl (cC, n, .inr (.inr (.inr (.inr f)))))) (hv : ws[qk]? = some (v, .inr (0, vs))) {i : Int32} (j : Nat) (hi : i = nI j) (hj : j < n) (hn : n < 2 ^ 31) (hdg : decode cc pc = .ok (.aastore, 1))
    (kk : ∀ (H1 : Heap) (locs1 : List Loc), va_P D vwCl (ws.set q0 (a, .inl (cC, n, .inr (.inr (.inr (.inr (va_up f j (some v)))))))) H1 → va_D A (ws.set q0 (a, .inl (cC, n, .inr (.inr (.inr (.inr (va_up f j (some v)))))))) → va_S A H0 H1 locs1 → W p l e R s m args below meth c H1 locs1 cells slots Q (F0 m (pc + 1) ls rest)) : W p l e R s m args below meth c H locs cells slots Q (F0 m pc ls (.ref v :: .int i :: .ref a :: rest)) := by
  subst hi
  refine va_astq (r := (RX0, TX0, 7)) hexec hb hK.1 hP hD hS q0 3 qk 0 ha rfl hv rfl (vp_in_nI hj hn) hdg ?_
  rw [nI_clamp (Nat.lt_trans hj hn)]
  exact kk
theorem zq_newi (hexec : p.tables.exec = Jvm.exec) (hb : c.code = cc) (harr : (Cond.arrayClass .int).before args s = true) (hK : zq_K D cI cZ cW cC s) (hP : va_P D vwCl ws H) (hD : va_D A ws) (hS : va_S A H0 H locs) (hA : ∀ q, H0.size ≤ q → A q) {n : Int32} (j : Nat) (hn : n = nI j) (hj : j ≤ 134217728) (hcells : cells + 1 ≤ R.cells) (hslots : slots + j ≤ R.slots) (hdg : decode cc pc = .ok (.newarray .int, 2))
    (kk : ∀ (q : Nat) (H1 : Heap), va_P D vwCl (ws ++ [(q, .inl (cI, j, .inl (fun _ => 0)))]) H1 → va_D A (ws ++ [(q, .inl (cI, j, .inl (fun _ => 0)))]) → va_S A H0 H1 locs → W p l e R s m args below meth c H1 locs (cells + 1) (slots + j) Q (F0 m (pc + 2) ls (.ref q :: rest))) : W p l e R s m args below meth c H locs cells slots Q (F0 m pc ls (.int n :: rest)) := by
  subst hn
  refine va_newa (atype := .int) (ty := .int) (a0 := (j, .inl (fun _ => 0))) hexec hb harr rfl hK.1 hP hD hS hA (fun cA => rfl) (nI_pos (by omega)) (nI_clamp (by omega)) (by show j * 4 ≤ _; omega) hcells hslots hdg (fun q cA H1 hK1 hP1 hD1 hS1 => ?_)
  have h1 := (hK1.2 4 (cA, .int) rfl).2
  have h0 := (hK.1.2 0 (cI, .int) rfl).2
  have h2 : cA = cI := Option.some.inj (h1.symm.trans h0)
  subst h2
  exact kk q H1 hP1 hD1 hS1
theorem zq_newz (hexec : p.tables.exec = Jvm.exec) (hb : c.code = cc) (harr : (Cond.arrayClass .boolean).before args s = true) (hK : zq_K D cI cZ cW cC s) (hP : va_P D vwCl ws H) (hD : va_D A ws) (hS : va_S A H0 H locs) (hA : ∀ q, H0.size ≤ q → A q) {n : Int32} (j : Nat) (hn : n = nI j) (hj : j ≤ 134217728) (hcells : cells + 1 ≤ R.cells) (hslots : slots + j ≤ R.slots) (hdg : decode cc pc = .ok (.newarray .boolean, 2))
    (kk : ∀ (q : Nat) (H1 : Heap), va_P D vwCl (ws ++ [(q, .inl (cZ, j, .inl (fun _ => 0)))]) H1 → va_D A (ws ++ [(q, .inl (cZ, j, .inl (fun _ => 0)))]) → va_S A H0 H1 locs → W p l e R s m args below meth c H1 locs (cells + 1) (slots + j) Q (F0 m (pc + 2) ls (.ref q :: rest))) : W p l e R s m args below meth c H locs cells slots Q (F0 m pc ls (.int n :: rest)) := by
  subst hn
  refine va_newa (atype := .boolean) (ty := .boolean) (a0 := (j, .inl (fun _ => 0))) hexec hb harr rfl hK.1 hP hD hS hA (fun cA => rfl) (nI_pos (by omega)) (nI_clamp (by omega)) (by show j * 1 ≤ _; omega) hcells hslots hdg (fun q cA H1 hK1 hP1 hD1 hS1 => ?_)
  have h1 := (hK1.2 4 (cA, .boolean) rfl).2
  have h0 := (hK.1.2 1 (cZ, .boolean) rfl).2
  have h2 : cA = cZ := Option.some.inj (h1.symm.trans h0)
  subst h2
  exact kk q H1 hP1 hD1 hS1
theorem zq_newW (hexec : p.tables.exec = Jvm.exec) (hb : c.code = cc) {own : String} {index : Nat} (hown : s.vm.findClass own = some m.cls) (hclink : (Cond.classLink own index RX2).before args s = true) (hK : zq_K D cI cZ cW cC s) (hP : va_P D vwCl ws H) (hD : va_D A ws) (hS : va_S A H0 H locs) (hA : ∀ q, H0.size ≤ q → A q) {n : Int32} (j : Nat) (hn : n = nI j) (hj : j ≤ 134217728) (hcells : cells + 1 ≤ R.cells) (hslots : slots + j ≤ R.slots) (hdg : decode cc pc = .ok (.anewarray index, 3))
    (kk : ∀ (q : Nat) (H1 : Heap), va_P D vwCl (ws ++ [(q, .inl (cW, j, .inr (.inr (.inr (.inr (fun _ => none))))))]) H1 → va_D A (ws ++ [(q, .inl (cW, j, .inr (.inr (.inr (.inr (fun _ => none))))))]) → va_S A H0 H1 locs → W p l e R s m args below meth c H1 locs (cells + 1) (slots + j) Q (F0 m (pc + 3) ls (.ref q :: rest))) : W p l e R s m args below meth c H locs cells slots Q (F0 m pc ls (.int n :: rest)) := by
  subst hn
  refine va_newq hexec hb hown hclink hK.2.2.2.2.2.1 hK.1 hP hD hS hA (nI_pos (by omega)) (nI_clamp (by omega)) (by omega) hcells hslots hdg (fun q cA H1 hK1 hP1 hD1 hS1 => ?_)
  obtain ⟨_, _, _, _, _, h1⟩ := (hK1.2 4 (cA, .object RX2) rfl).2
  obtain ⟨_, _, _, _, _, h0⟩ := (hK.1.2 2 (cW, .object RX2) rfl).2
  have h2 : cA = cW := Option.some.inj (h1.symm.trans h0)
  subst h2
  exact kk q H1 hP1 hD1 hS1
theorem zq_newC (hexec : p.tables.exec = Jvm.exec) (hb : c.code = cc) {own : String} {index : Nat} (hown : s.vm.findClass own = some m.cls) (hclink : (Cond.classLink own index RX0).before args s = true) (hK : zq_K D cI cZ cW cC s) (hP : va_P D vwCl ws H) (hD : va_D A ws) (hS : va_S A H0 H locs) (hA : ∀ q, H0.size ≤ q → A q) {n : Int32} (j : Nat) (hn : n = nI j) (hj : j ≤ 134217728) (hcells : cells + 1 ≤ R.cells) (hslots : slots + j ≤ R.slots) (hdg : decode cc pc = .ok (.anewarray index, 3))
    (kk : ∀ (q : Nat) (H1 : Heap), va_P D vwCl (ws ++ [(q, .inl (cC, j, .inr (.inr (.inr (.inr (fun _ => none))))))]) H1 → va_D A (ws ++ [(q, .inl (cC, j, .inr (.inr (.inr (.inr (fun _ => none))))))]) → va_S A H0 H1 locs → W p l e R s m args below meth c H1 locs (cells + 1) (slots + j) Q (F0 m (pc + 3) ls (.ref q :: rest))) : W p l e R s m args below meth c H locs cells slots Q (F0 m pc ls (.int n :: rest)) := by
  subst hn
  refine va_newq hexec hb hown hclink hK.2.2.2.2.2.2 hK.1 hP hD hS hA (nI_pos (by omega)) (nI_clamp (by omega)) (by omega) hcells hslots hdg (fun q cA H1 hK1 hP1 hD1 hS1 => ?_)
  obtain ⟨_, _, _, _, _, h1⟩ := (hK1.2 4 (cA, .object RX0) rfl).2
  obtain ⟨_, _, _, _, _, h0⟩ := (hK.1.2 3 (cC, .object RX0) rfl).2
  have h2 : cA = cC := Option.some.inj (h1.symm.trans h0)
  subst h2
  exact kk q H1 hP1 hD1 hS1
/-- zq_if: a comparison whose answer is known -/
theorem zq_zif {b : Bool} : ((if b then (1 : Int32) else 0) = 0 ∨ (if b then (1 : Int32) else 0) = 1) := by cases b <;> simp
end
end
section
/-! pure words: what both sides speak of -/
theorem zle {a b : Nat} (h : nI a ≤ nI b) (ha : a < 2 ^ 31 := by omega) (hb : b < 2 ^ 31 := by omega) : a ≤ b := (nI_leI ha hb).mp h
theorem znle {a b : Nat} (h : ¬ nI a ≤ nI b) (ha : a < 2 ^ 31 := by omega) (hb : b < 2 ^ 31 := by omega) : b < a := Nat.not_le.mp fun q => h ((nI_leI ha hb).mpr q)
theorem zlt {a b : Nat} (h : nI a < nI b) (ha : a < 2 ^ 31 := by omega) (hb : b < 2 ^ 31 := by omega) : a < b := (nI_ltI ha hb).mp h
theorem znlt {a b : Nat} (h : ¬ nI a < nI b) (ha : a < 2 ^ 31 := by omega) (hb : b < 2 ^ 31 := by omega) : b ≤ a := Nat.not_lt.mp fun q => h ((nI_ltI ha hb).mpr q)
theorem zeq {a b : Nat} (h : nI a = nI b) (ha : a < 2 ^ 31 := by omega) (hb : b < 2 ^ 31 := by omega) : a = b := (nI_eq ha hb).mp h
theorem zne {a b : Nat} (h : ¬ nI a = nI b) (ha : a < 2 ^ 31 := by omega) (hb : b < 2 ^ 31 := by omega) : a ≠ b := fun q => h ((nI_eq ha hb).mpr q)
abbrev zNO : Int32 := -2147483648
/-- x is one of 0 .. n - 1 -/
def zr (n : Nat) (x : Int32) : Prop := ∃ j : Nat, j < n ∧ x = nI j
theorem zr_of {n : Nat} {x : Int32} (h0 : ¬ x < 0) (h1 : ¬ nI n ≤ x) (hn : n < 2 ^ 31 := by decide) : zr n x := by
  obtain ⟨j, hj, rfl⟩ := nI_of h0
  exact ⟨j, Nat.not_le.mp fun q => h1 (nI_le q hj), rfl⟩
theorem zr_lo {n : Nat} {x : Int32} (h : x < 0) (hn : n ≤ 2 ^ 31 := by decide) : ¬ zr n x := by
  rintro ⟨j, hj, rfl⟩
  exact nI_pos (by omega) h
theorem zr_hi {n : Nat} {x : Int32} (h : nI n ≤ x) (hn : n < 2 ^ 31 := by decide) : ¬ zr n x := by
  rintro ⟨j, hj, rfl⟩
  exact absurd (zle h hn (by omega)) (by omega)
theorem zr_nI {n j : Nat} (hj : j < n) : zr n (nI j) := ⟨j, hj, rfl⟩
theorem zr_lt {n j : Nat} (h : zr n (nI j)) (hj : j < 2 ^ 31) (hn : n ≤ 2 ^ 31) : j < n := by
  obtain ⟨i, hi, e⟩ := h
  have := zeq e hj (by omega)
  omega
theorem zr_iff {n : Nat} {x : Int32} (hn : n < 2 ^ 31 := by decide) : zr n x ↔ 0 ≤ x.toInt ∧ x.toInt < n := by
  constructor
  · rintro ⟨j, hj, rfl⟩
    rw [nI_toInt (by omega)]
    omega
  · rintro ⟨h0, h1⟩
    have : ¬ x < 0 := fun q => by
      have := Int32.lt_iff_toInt_lt.mp q
      rw [show (0 : Int32).toInt = 0 from rfl] at this
      omega
    obtain ⟨j, hj, rfl⟩ := nI_of this
    rw [nI_toInt hj] at h1
    exact ⟨j, by omega, rfl⟩
theorem zr_cl {n : Nat} {x : Int32} (h : zr n x) (hn : n ≤ 2 ^ 31 := by decide) : x.toNatClampNeg < n ∧ x = nI x.toNatClampNeg := by
  obtain ⟨j, hj, rfl⟩ := h
  rw [nI_clamp (by omega)]
  exact ⟨hj, rfl⟩
/-- what a run of a function gives in a world, by numbers that need not be in range -/
noncomputable def zg (G : Nat → Int32) (f r : Int32) : Int32 := by
  classical
  exact if zr 6 f ∧ zr 256 r then G (256 * f.toNatClampNeg + r.toNatClampNeg) else zNO
theorem zg_in {G : Nat → Int32} {f r : Nat} (hf : f < 6) (hr : r < 256) : zg G (nI f) (nI r) = G (256 * f + r) := by
  unfold zg
  rw [if_pos ⟨zr_nI hf, zr_nI hr⟩, nI_clamp (by omega), nI_clamp (by omega)]
theorem zg_nf {G : Nat → Int32} {f r : Int32} (h : ¬ zr 6 f) : zg G f r = zNO := by
  unfold zg
  rw [if_neg (fun q => h q.1)]
theorem zg_nr {G : Nat → Int32} {f r : Int32} (h : ¬ zr 256 r) : zg G f r = zNO := by
  unfold zg
  rw [if_neg (fun q => h q.2)]
theorem zq_ro_mono {l : Launch} {D : va_G} {cI cZ cW cC : ClassId} {y : MethodName} {wsw : List Cond} {rm : Room} {av : List Value} {ws : va_W} {post post' : Option Value → Prop} (h : zq_ro l D cI cZ cW cC y wsw rm av ws post) (hp : ∀ v, post v → post' v) : zq_ro l D cI cZ cW cC y wsw rm av ws post' := by
  unfold zq_ro Met at h ⊢
  exact MetFree.mono h (fun _ _ q => q) (fun _ _ _ _ _ q => q) (fun _ _ _ _ _ q => ⟨by obtain ⟨v, h1, h2, h3⟩ := q.1; exact ⟨v, h1, hp v h2, h3⟩, q.2⟩)
/-- how many runs are refused, the least, the most, the first refused: over the 256 runs of one function -/
def zref (G : Nat → Int32) (f : Nat) : Nat → Bool := fun r => decide (G (256 * f + r) = zNO)
def zlst (G : Nat → Int32) (f : Nat) : Nat → Int32
  | 0 => zNO
  | n + 1 => if ¬ G (256 * f + n) = zNO ∧ (zlst G f n = zNO ∨ G (256 * f + n) < zlst G f n) then G (256 * f + n) else zlst G f n
def zmst (G : Nat → Int32) (f : Nat) : Nat → Int32
  | 0 => zNO
  | n + 1 => if zmst G f n < G (256 * f + n) then G (256 * f + n) else zmst G f n
theorem zq_te {p : Program} {l : Launch} {e : Env} {R : Room} {s : State} {m : MethodId} {args : Array Value} {below : List Frame} {meth : Method} {c : Code} {H : Heap} {locs : List Loc} {cells slots : Nat} {Q : State → Prop} {pc : Nat} {ls : Array Slot} {rest : List Value} {x y : Int32} (h : x = y) (k : W p l e R s m args below meth c H locs cells slots Q (F0 m pc ls (.int y :: rest))) : W p l e R s m args below meth c H locs cells slots Q (F0 m pc ls (.int x :: rest)) := h ▸ k
theorem zfirst_eq {p : Nat → Bool} {n k : Nat} (hk : k < n) (hp : p k = true) (hno : ∀ j, j < k → p j = false) : fa_first p n = k := by
  rcases Nat.lt_or_ge k (fa_first p n) with h | h
  · have := fa_first_no p n k h
    rw [hp] at this
    cases this
  · rcases Nat.lt_or_ge (fa_first p n) k with h2 | h2
    · have h3 := fa_first_yes p n (by omega)
      rw [hno _ h2] at h3
      cases h3
    · omega
theorem zfirst_none {p : Nat → Bool} {n : Nat} (hno : ∀ j, j < n → p j = false) : fa_first p n = n := by
  rcases Nat.lt_or_ge (fa_first p n) n with h2 | h2
  · have h3 := fa_first_yes p n h2
    rw [hno _ h2] at h3
    cases h3
  · have := fa_first_le p n
    omega
/-- Euclid: the common divisor of what is given, and the greatest p up to 1000 that divides a number -/
def zgc (G : Nat → Int32) (f : Nat) : Nat → Nat
  | 0 => 0
  | n + 1 => if G (256 * f + n) = zNO then zgc G f n else Nat.gcd (G (256 * f + n)).toInt.natAbs (zgc G f n)
def zgd (c : Nat) : Nat → Nat
  | 0 => 1
  | n + 1 => if c % (n + 1) = 0 then n + 1 else zgd c n
def zEu (a b i x y : Nat) : Prop := Nat.gcd x y = Nat.gcd a b ∧ x ≤ 1000000 ∧ y ≤ 1000000 ∧ ((i = 0 ∧ x * y ≤ 1000000000000) ∨ (1 ≤ i ∧ y < x ∧ x * y * 2 ^ (i - 1) ≤ 1000000000000))
theorem zEu_0 {a b : Nat} (ha : a ≤ 1000000) (hb : b ≤ 1000000) : zEu a b 0 a b := ⟨rfl, ha, hb, Or.inl ⟨rfl, Nat.mul_le_mul ha hb⟩⟩
theorem zEu_s {a b i x y : Nat} (h : zEu a b i x y) (hy : 0 < y) : zEu a b (i + 1) y (x % y) := by
  obtain ⟨h1, h2, h3, h4⟩ := h
  have hm := Nat.mod_lt x hy
  refine ⟨?_, h3, by omega, Or.inr ⟨by omega, hm, ?_⟩⟩
  · rw [← h1, Nat.gcd_comm y, ← Nat.gcd_rec, Nat.gcd_comm]
  · rw [Nat.add_sub_cancel]
    rcases h4 with ⟨rfl, h5⟩ | ⟨h5, h6, h7⟩
    · rw [Nat.pow_zero, Nat.mul_one]
      exact Nat.le_trans (Nat.mul_le_mul_left y (Nat.mod_le x y)) (by rw [Nat.mul_comm]; exact h5)
    · have h8 : 2 * (x % y) ≤ x := by
        have := Nat.div_add_mod x y
        have h9 : 1 ≤ x / y := Nat.div_pos (by omega) hy
        have h10 : y ≤ y * (x / y) := Nat.le_mul_of_pos_right y h9
        omega
      have h9 : y * (x % y) * 2 ^ i ≤ x * y * 2 ^ (i - 1) := by
        have e : 2 ^ i = 2 * 2 ^ (i - 1) := by
          rw [show i = (i - 1) + 1 by omega, Nat.pow_succ, Nat.mul_comm]
          simp
        rw [e]
        calc y * (x % y) * (2 * 2 ^ (i - 1)) = y * (2 * (x % y)) * 2 ^ (i - 1) := by
              simp only [Nat.mul_assoc, Nat.mul_left_comm, Nat.mul_comm]
          _ ≤ y * x * 2 ^ (i - 1) := Nat.mul_le_mul_right _ (Nat.mul_le_mul_left y h8)
          _ = x * y * 2 ^ (i - 1) := by rw [Nat.mul_comm y x]
      exact Nat.le_trans h9 h7
theorem zEu_z {a b x : Nat} {i : Nat} (h : zEu a b i x 0) : x = Nat.gcd a b := by
  have := h.1
  rw [Nat.gcd_zero_right] at this
  exact this
theorem zEu_64 {a b i x y : Nat} (h : zEu a b i x y) (hi : 64 ≤ i) : y = 0 := by
  obtain ⟨-, -, -, h4⟩ := h
  rcases h4 with ⟨rfl, -⟩ | ⟨-, h6, h7⟩
  · omega
  · rcases Nat.eq_zero_or_pos y with h | h
    · exact h
    · exfalso
      have h8 : 1 ≤ x * y := Nat.mul_pos (by omega) h
      have h9 : 2 ^ 63 ≤ 2 ^ (i - 1) := Nat.pow_le_pow_right (by decide) (by omega)
      have h10 : 1 * 2 ^ 63 ≤ x * y * 2 ^ (i - 1) := Nat.mul_le_mul h8 h9
      omega
theorem zgd_le (c : Nat) : ∀ n, zgd c n ≤ n + 1 ∧ 1 ≤ zgd c n
  | 0 => ⟨by simp [zgd], by simp [zgd]⟩
  | n + 1 => by
    have ih := zgd_le c n
    unfold zgd
    split <;> omega
theorem zabs {x : Int32} (h : ¬ x = zNO) : (if 0 ≤ x then x else 0 - x) = nI x.toInt.natAbs := by
  have hr := fb_rng x
  have hz : x.toInt ≠ -2147483648 := fun q => h (Int32.toInt_inj.mp (by rw [q]; rfl))
  apply Int32.toInt_inj.mp
  rw [nI_toInt (by omega)]
  by_cases h0 : 0 ≤ x
  · rw [if_pos h0]
    have := Int32.le_iff_toInt_le.mp h0
    rw [show (0 : Int32).toInt = 0 from rfl] at this
    omega
  · rw [if_neg h0]
    have := Int32.lt_iff_toInt_lt.mp (Int32.not_le.mp h0)
    rw [show (0 : Int32).toInt = 0 from rfl] at this
    rw [fb_subI (by rw [show (0 : Int32).toInt = 0 from rfl]; omega) (by rw [show (0 : Int32).toInt = 0 from rfl]; omega), show (0 : Int32).toInt = 0 from rfl]
    omega
/-- the values of a world: refused, or within the limit -/
def zB (G : Nat → Int32) (n : Nat) : Prop := ∀ j, j < n → G j = zNO ∨ (-1000000 ≤ (G j).toInt ∧ (G j).toInt ≤ 1000000)
theorem zgc_le {G : Nat → Int32} {f : Nat} (hB : zB G 1536) (hf : f < 6) : ∀ n, n ≤ 256 → zgc G f n ≤ 1000000
  | 0, _ => by simp [zgc]
  | n + 1, h => by
    have ih := zgc_le hB hf n (by omega)
    unfold zgc
    split
    · exact ih
    · rename_i hn
      rcases Nat.eq_zero_or_pos (G (256 * f + n)).toInt.natAbs with h0 | h0
      · rw [h0, Nat.gcd_zero_left]
        exact ih
      · rcases hB (256 * f + n) (by omega) with q | q
        · exact absurd q hn
        · exact Nat.le_trans (Nat.gcd_le_left _ h0) (by omega)
end
section
/-! statics of WordsBeside, World: reading methods -/
theorem zgd_no {c n : Nat} (h1 : 1 ≤ n) (h : ¬ c % n = 0) : zgd c n = zgd c (n - 1) := by
  obtain ⟨t, rfl⟩ : ∃ t, n = t + 1 := ⟨n - 1, by omega⟩
  rw [zgd, if_neg h, Nat.add_sub_cancel]
theorem zgd_yes {c n : Nat} (h1 : 1 ≤ n) (h : c % n = 0) : zgd c n = n := by
  obtain ⟨t, rfl⟩ : ∃ t, n = t + 1 := ⟨n - 1, by omega⟩
  rw [zgd, if_pos h]
set_option maxHeartbeats 4000000 in
set_option maxRecDepth 100000 in
theorem c_X3_isFunction (l : Launch) (D : va_G) (cI cZ cW cC : ClassId) (x : Int32) : zq_ro l D cI cZ cW cC yX3_isFunction wsX3_isFunction ({ frames := 0, cells := 0, slots := 0, locals := 0 } : Room) [.int x] [] (fun v => (v = some (.int 1) ∧ zr 6 x) ∨ (v = some (.int 0) ∧ ¬ zr 6 x)) := by
  refine zq_roZ (own := RX3) (by decide) rfl rfl (Nat.le_of_ble_eq_true rfl) ?_
  intro p e s m below meth c Q ls hF hP hK hl ret
  obtain ⟨hx, hb, hml, hown, hts⟩ := hF
  have hl : lv_has ls 1 [(0, .int x)] := hl
  refine lv_iload_n hx hb dX3_isFunction_0 rfl (lv_at hl 0 rfl) ?_
  refine lv_if_lt (tgt := 14) hx hb dX3_isFunction_1 (by decide) (fun c1 => ?_) (fun c1 => ?_)
  · refine lv_iconst (v := (0 : Int32)) hx hb dX3_isFunction_14 (by decide) ?_
    exact ret _ _ _ (Or.inl rfl) (by first | exact Or.inr ⟨rfl, zr_lo c1⟩ | exact Or.inr ⟨rfl, zr_hi c7⟩ | exact Or.inl ⟨rfl, zr_of c1 c7⟩ | fail "open") dX3_isFunction_15
  · refine lv_iload_n hx hb dX3_isFunction_4 rfl (lv_at hl 0 rfl) ?_
    refine lv_bipush (v := (nI 6)) hx hb dX3_isFunction_5 (by decide) ?_
    refine lv_icmp_ge (tgt := 14) hx hb dX3_isFunction_7 (by decide) (fun c7 => ?_) (fun c7 => ?_)
    · refine lv_iconst (v := (0 : Int32)) hx hb dX3_isFunction_14 (by decide) ?_
      exact ret _ _ _ (Or.inl rfl) (by first | exact Or.inr ⟨rfl, zr_lo c1⟩ | exact Or.inr ⟨rfl, zr_hi c7⟩ | exact Or.inl ⟨rfl, zr_of c1 c7⟩ | fail "open") dX3_isFunction_15
    · refine lv_iconst (v := (1 : Int32)) hx hb dX3_isFunction_10 (by decide) ?_
      refine lv_goto (tgt := 15) hx hb dX3_isFunction_11 (by decide) ?_
      exact ret _ _ _ (Or.inr rfl) (by first | exact Or.inr ⟨rfl, zr_lo c1⟩ | exact Or.inr ⟨rfl, zr_hi c7⟩ | exact Or.inl ⟨rfl, zr_of c1 c7⟩ | fail "open") dX3_isFunction_15
set_option maxHeartbeats 4000000 in
set_option maxRecDepth 100000 in
theorem c_X3_isRun (l : Launch) (D : va_G) (cI cZ cW cC : ClassId) (x : Int32) : zq_ro l D cI cZ cW cC yX3_isRun wsX3_isRun ({ frames := 0, cells := 0, slots := 0, locals := 0 } : Room) [.int x] [] (fun v => (v = some (.int 1) ∧ zr 256 x) ∨ (v = some (.int 0) ∧ ¬ zr 256 x)) := by
  refine zq_roZ (own := RX3) (by decide) rfl rfl (Nat.le_of_ble_eq_true rfl) ?_
  intro p e s m below meth c Q ls hF hP hK hl ret
  obtain ⟨hx, hb, hml, hown, hts⟩ := hF
  have hl : lv_has ls 1 [(0, .int x)] := hl
  refine lv_iload_n hx hb dX3_isRun_0 rfl (lv_at hl 0 rfl) ?_
  refine lv_if_lt (tgt := 15) hx hb dX3_isRun_1 (by decide) (fun c1 => ?_) (fun c1 => ?_)
  · refine lv_iconst (v := (0 : Int32)) hx hb dX3_isRun_15 (by decide) ?_
    exact ret _ _ _ (Or.inl rfl) (by first | exact Or.inr ⟨rfl, zr_lo c1⟩ | exact Or.inr ⟨rfl, zr_hi c7⟩ | exact Or.inl ⟨rfl, zr_of c1 c7⟩ | exact Or.inr ⟨rfl, zr_hi c8⟩ | exact Or.inl ⟨rfl, zr_of c1 c8⟩ | fail "open") dX3_isRun_16
  · refine lv_iload_n hx hb dX3_isRun_4 rfl (lv_at hl 0 rfl) ?_
    refine lv_sipush (v := (nI 256)) hx hb dX3_isRun_5 (by decide) ?_
    refine lv_icmp_ge (tgt := 15) hx hb dX3_isRun_8 (by decide) (fun c8 => ?_) (fun c8 => ?_)
    · refine lv_iconst (v := (0 : Int32)) hx hb dX3_isRun_15 (by decide) ?_
      exact ret _ _ _ (Or.inl rfl) (by first | exact Or.inr ⟨rfl, zr_lo c1⟩ | exact Or.inr ⟨rfl, zr_hi c7⟩ | exact Or.inl ⟨rfl, zr_of c1 c7⟩ | exact Or.inr ⟨rfl, zr_hi c8⟩ | exact Or.inl ⟨rfl, zr_of c1 c8⟩ | fail "open") dX3_isRun_16
    · refine lv_iconst (v := (1 : Int32)) hx hb dX3_isRun_11 (by decide) ?_
      refine lv_goto (tgt := 16) hx hb dX3_isRun_12 (by decide) ?_
      exact ret _ _ _ (Or.inr rfl) (by first | exact Or.inr ⟨rfl, zr_lo c1⟩ | exact Or.inr ⟨rfl, zr_hi c7⟩ | exact Or.inl ⟨rfl, zr_of c1 c7⟩ | exact Or.inr ⟨rfl, zr_hi c8⟩ | exact Or.inl ⟨rfl, zr_of c1 c8⟩ | fail "open") dX3_isRun_16
theorem w_X3_isWithinLimit__constant_RX3_170_1000000__b799e6 : (.constant RX3 170 (-1000000) : Cond) ∈ wsX3_isWithinLimit := by decide +kernel
theorem w_X3_isWithinLimit__constant_RX3_171_1000000__497f92 : (.constant RX3 171 (1000000) : Cond) ∈ wsX3_isWithinLimit := by decide +kernel
set_option maxHeartbeats 4000000 in
set_option maxRecDepth 100000 in
theorem c_X3_isWithinLimit (l : Launch) (D : va_G) (cI cZ cW cC : ClassId) (x : Int32) : zq_ro l D cI cZ cW cC yX3_isWithinLimit wsX3_isWithinLimit ({ frames := 0, cells := 0, slots := 0, locals := 0 } : Room) [.int x] [] (fun v => (v = some (.int 1) ∧ (-1000000 : Int32) ≤ x ∧ x ≤ 1000000) ∨ (v = some (.int 0) ∧ (x < (-1000000 : Int32) ∨ (1000000 : Int32) < x))) := by
  refine zq_roZ (own := RX3) (by decide) rfl rfl (Nat.le_of_ble_eq_true rfl) ?_
  intro p e s m below meth c Q ls hF hP hK hl ret
  obtain ⟨hx, hb, hml, hown, hts⟩ := hF
  have hl : lv_has ls 1 [(0, .int x)] := hl
  refine lv_iload_n hx hb dX3_isWithinLimit_0 rfl (lv_at hl 0 rfl) ?_
  refine lv_ldc (v := (-1000000 : Int32)) hx hb hown (hts _ w_X3_isWithinLimit__constant_RX3_170_1000000__b799e6) dX3_isWithinLimit_1 ?_
  refine lv_icmp_lt (tgt := 16) hx hb dX3_isWithinLimit_3 (by decide) (fun c3 => ?_) (fun c3 => ?_)
  · refine lv_iconst (v := (0 : Int32)) hx hb dX3_isWithinLimit_16 (by decide) ?_
    exact ret _ _ _ (Or.inl rfl) (by first | exact Or.inr ⟨rfl, Or.inl c3⟩ | exact Or.inr ⟨rfl, Or.inr c9⟩ | exact Or.inl ⟨rfl, Int32.not_lt.mp c3, Int32.not_lt.mp c9⟩ | fail "open") dX3_isWithinLimit_17
  · refine lv_iload_n hx hb dX3_isWithinLimit_6 rfl (lv_at hl 0 rfl) ?_
    refine lv_ldc (v := (1000000 : Int32)) hx hb hown (hts _ w_X3_isWithinLimit__constant_RX3_171_1000000__497f92) dX3_isWithinLimit_7 ?_
    refine lv_icmp_gt (tgt := 16) hx hb dX3_isWithinLimit_9 (by decide) (fun c9 => ?_) (fun c9 => ?_)
    · refine lv_iconst (v := (0 : Int32)) hx hb dX3_isWithinLimit_16 (by decide) ?_
      exact ret _ _ _ (Or.inl rfl) (by first | exact Or.inr ⟨rfl, Or.inl c3⟩ | exact Or.inr ⟨rfl, Or.inr c9⟩ | exact Or.inl ⟨rfl, Int32.not_lt.mp c3, Int32.not_lt.mp c9⟩ | fail "open") dX3_isWithinLimit_17
    · refine lv_iconst (v := (1 : Int32)) hx hb dX3_isWithinLimit_12 (by decide) ?_
      refine lv_goto (tgt := 17) hx hb dX3_isWithinLimit_13 (by decide) ?_
      exact ret _ _ _ (Or.inr rfl) (by first | exact Or.inr ⟨rfl, Or.inl c3⟩ | exact Or.inr ⟨rfl, Or.inr c9⟩ | exact Or.inl ⟨rfl, Int32.not_lt.mp c3, Int32.not_lt.mp c9⟩ | fail "open") dX3_isWithinLimit_17
set_option maxHeartbeats 4000000 in
set_option maxRecDepth 100000 in
theorem c_X3_runNumber (l : Launch) (D : va_G) (cI cZ cW cC : ClassId) (x y : Int32) : zq_ro l D cI cZ cW cC yX3_runNumber wsX3_runNumber ({ frames := 0, cells := 0, slots := 0, locals := 0 } : Room) [.int x, .int y] [] (fun v => (∃ i j : Nat, i < 16 ∧ j < 16 ∧ x = nI i ∧ y = nI j ∧ v = some (.int (nI (16 * i + j)))) ∨ (v = some (.int (-1)) ∧ ¬ (zr 16 x ∧ zr 16 y))) := by
  refine zq_roI (own := RX3) (by decide) rfl rfl (Nat.le_of_ble_eq_true rfl) ?_
  intro p e s m below meth c Q ls hF hP hK hl ret
  obtain ⟨hx, hb, hml, hown, hts⟩ := hF
  have hl : lv_has ls 2 [(0, .int x), (1, .int y)] := hl
  refine lv_iload_n hx hb dX3_runNumber_0 rfl (lv_at hl 0 rfl) ?_
  refine lv_if_lt (tgt := 20) hx hb dX3_runNumber_1 (by decide) (fun c1 => ?_) (fun c1 => ?_)
  · refine lv_iconst (v := (-1 : Int32)) hx hb dX3_runNumber_20 (by decide) ?_
    exact ret _ _ _ (by first | exact Or.inr ⟨rfl, fun q => absurd q.1 (zr_lo c1)⟩ | exact Or.inr ⟨rfl, fun q => absurd q.1 (zr_hi c7)⟩ | exact Or.inr ⟨rfl, fun q => absurd q.2 (zr_lo c11)⟩ | exact Or.inr ⟨rfl, fun q => absurd q.2 (zr_hi (Int32.not_lt.mp c17))⟩ | fail "open") dX3_runNumber_21
  · refine lv_iload_n hx hb dX3_runNumber_4 rfl (lv_at hl 0 rfl) ?_
    refine lv_bipush (v := (nI 16)) hx hb dX3_runNumber_5 (by decide) ?_
    refine lv_icmp_ge (tgt := 20) hx hb dX3_runNumber_7 (by decide) (fun c7 => ?_) (fun c7 => ?_)
    · refine lv_iconst (v := (-1 : Int32)) hx hb dX3_runNumber_20 (by decide) ?_
      exact ret _ _ _ (by first | exact Or.inr ⟨rfl, fun q => absurd q.1 (zr_lo c1)⟩ | exact Or.inr ⟨rfl, fun q => absurd q.1 (zr_hi c7)⟩ | exact Or.inr ⟨rfl, fun q => absurd q.2 (zr_lo c11)⟩ | exact Or.inr ⟨rfl, fun q => absurd q.2 (zr_hi (Int32.not_lt.mp c17))⟩ | fail "open") dX3_runNumber_21
    · refine lv_iload_n hx hb dX3_runNumber_10 rfl (lv_at hl 1 rfl) ?_
      refine lv_if_lt (tgt := 20) hx hb dX3_runNumber_11 (by decide) (fun c11 => ?_) (fun c11 => ?_)
      · refine lv_iconst (v := (-1 : Int32)) hx hb dX3_runNumber_20 (by decide) ?_
        exact ret _ _ _ (by first | exact Or.inr ⟨rfl, fun q => absurd q.1 (zr_lo c1)⟩ | exact Or.inr ⟨rfl, fun q => absurd q.1 (zr_hi c7)⟩ | exact Or.inr ⟨rfl, fun q => absurd q.2 (zr_lo c11)⟩ | exact Or.inr ⟨rfl, fun q => absurd q.2 (zr_hi (Int32.not_lt.mp c17))⟩ | fail "open") dX3_runNumber_21
      · refine lv_iload_n hx hb dX3_runNumber_14 rfl (lv_at hl 1 rfl) ?_
        refine lv_bipush (v := (nI 16)) hx hb dX3_runNumber_15 (by decide) ?_
        refine lv_icmp_lt (tgt := 22) hx hb dX3_runNumber_17 (by decide) (fun c17 => ?_) (fun c17 => ?_)
        · refine lv_iload_n hx hb dX3_runNumber_22 rfl (lv_at hl 0 rfl) ?_
          refine lv_bipush (v := (nI 16)) hx hb dX3_runNumber_23 (by decide) ?_
          refine lv_imul hx hb dX3_runNumber_25 ?_
          refine lv_iload_n hx hb dX3_runNumber_26 rfl (lv_at hl 1 rfl) ?_
          refine lv_iadd hx hb dX3_runNumber_27 ?_
          exact ret _ _ _ (by obtain ⟨i, hi, rfl⟩ := zr_of c1 c7; obtain ⟨j, hj, rfl⟩ := zr_of c11 (Int32.not_le.mpr c17); exact Or.inl ⟨i, j, hi, hj, rfl, rfl, by rw [pk_mul, nI_add, Nat.mul_comm]⟩) dX3_runNumber_28
        · refine lv_iconst (v := (-1 : Int32)) hx hb dX3_runNumber_20 (by decide) ?_
          exact ret _ _ _ (by first | exact Or.inr ⟨rfl, fun q => absurd q.1 (zr_lo c1)⟩ | exact Or.inr ⟨rfl, fun q => absurd q.1 (zr_hi c7)⟩ | exact Or.inr ⟨rfl, fun q => absurd q.2 (zr_lo c11)⟩ | exact Or.inr ⟨rfl, fun q => absurd q.2 (zr_hi (Int32.not_lt.mp c17))⟩ | fail "open") dX3_runNumber_21
theorem w_X2_given__constant_RX2_29_2147483648__9aba07 : (.constant RX2 29 (-2147483648) : Cond) ∈ wsX2_given := by decide +kernel
theorem w_X2_given__fieldLink_RX2_9_WordsBeside_World_gives_I__36404f : (.fieldLink RX2 9 "WordsBeside$World" "gives" "[I" : Cond) ∈ wsX2_given := by decide +kernel
theorem in_X2_given_X2 : ∀ w ∈ wsX20, w ∈ wsX2_given := fun _ h => List.mem_cons_of_mem _ (List.mem_append_right _ h)
set_option maxHeartbeats 4000000 in
set_option maxRecDepth 100000 in
theorem c_X2_given (l : Launch) (D : va_G) (cI cZ cW cC : ClassId) (w g : Nat) (G : Nat → Int32) (f r : Int32) : zq_ro l D cI cZ cW cC yX2_given wsX2_given ({ frames := 0, cells := 0, slots := 0, locals := 0 } : Room) [.ref w, .int f, .int r] [(w, .inr (2, [.ref g])), (g, .inl (cI, 1536, .inl G))] (fun v => v = some (.int (zg G f r))) := by
  refine zq_roI (own := RX2) (by decide) rfl rfl (Nat.le_of_ble_eq_true rfl) ?_
  intro p e s m below meth c Q ls hF hP hK hl ret
  obtain ⟨hx, hb, hml, hown, hts⟩ := hF
  have hl : lv_has ls 3 [(0, .ref w), (1, .int f), (2, .int r)] := hl
  refine lv_iload_n hx hb dX2_given_0 rfl (lv_at hl 1 rfl) ?_
  refine lv_if_lt (tgt := 21) hx hb dX2_given_1 (by decide) (fun c1 => ?_) (fun c1 => ?_)
  · refine lv_ldc (v := (-2147483648 : Int32)) hx hb hown (hts _ w_X2_given__constant_RX2_29_2147483648__9aba07) dX2_given_21 ?_
    exact ret _ _ _ (by first | exact congrArg (fun z => some (Value.int z)) (zg_nf (zr_lo c1)).symm | exact congrArg (fun z => some (Value.int z)) (zg_nf (zr_hi c7)).symm | exact congrArg (fun z => some (Value.int z)) (zg_nr (zr_lo c11)).symm | exact congrArg (fun z => some (Value.int z)) (zg_nr (zr_hi (Int32.not_lt.mp c18))).symm | fail "open") dX2_given_23
  · refine lv_iload_n hx hb dX2_given_4 rfl (lv_at hl 1 rfl) ?_
    refine lv_bipush (v := (nI 6)) hx hb dX2_given_5 (by decide) ?_
    refine lv_icmp_ge (tgt := 21) hx hb dX2_given_7 (by decide) (fun c7 => ?_) (fun c7 => ?_)
    · refine lv_ldc (v := (-2147483648 : Int32)) hx hb hown (hts _ w_X2_given__constant_RX2_29_2147483648__9aba07) dX2_given_21 ?_
      exact ret _ _ _ (by first | exact congrArg (fun z => some (Value.int z)) (zg_nf (zr_lo c1)).symm | exact congrArg (fun z => some (Value.int z)) (zg_nf (zr_hi c7)).symm | exact congrArg (fun z => some (Value.int z)) (zg_nr (zr_lo c11)).symm | exact congrArg (fun z => some (Value.int z)) (zg_nr (zr_hi (Int32.not_lt.mp c18))).symm | fail "open") dX2_given_23
    · refine lv_iload_n hx hb dX2_given_10 rfl (lv_at hl 2 rfl) ?_
      refine lv_if_lt (tgt := 21) hx hb dX2_given_11 (by decide) (fun c11 => ?_) (fun c11 => ?_)
      · refine lv_ldc (v := (-2147483648 : Int32)) hx hb hown (hts _ w_X2_given__constant_RX2_29_2147483648__9aba07) dX2_given_21 ?_
        exact ret _ _ _ (by first | exact congrArg (fun z => some (Value.int z)) (zg_nf (zr_lo c1)).symm | exact congrArg (fun z => some (Value.int z)) (zg_nf (zr_hi c7)).symm | exact congrArg (fun z => some (Value.int z)) (zg_nr (zr_lo c11)).symm | exact congrArg (fun z => some (Value.int z)) (zg_nr (zr_hi (Int32.not_lt.mp c18))).symm | fail "open") dX2_given_23
      · refine lv_iload_n hx hb dX2_given_14 rfl (lv_at hl 2 rfl) ?_
        refine lv_sipush (v := (nI 256)) hx hb dX2_given_15 (by decide) ?_
        refine lv_icmp_lt (tgt := 24) hx hb dX2_given_18 (by decide) (fun c18 => ?_) (fun c18 => ?_)
        · obtain ⟨f, hf, rfl⟩ := zr_of c1 c7
          obtain ⟨r, hr, rfl⟩ := zr_of c11 (Int32.not_le.mpr c18)
          refine lv_aload_n hx hb dX2_given_24 rfl (lv_at hl 0 rfl) ?_
          refine zq_get hx hb hts in_X2_given_X2 hown hK hP 0 rfl rfl 0 (by decide) (hts _ w_X2_given__fieldLink_RX2_9_WordsBeside_World_gives_I__36404f) rfl dX2_given_25 ?_
          refine lv_iload_n hx hb dX2_given_28 rfl (lv_at hl 1 rfl) ?_
          refine lv_sipush (v := (nI 256)) hx hb dX2_given_29 (by decide) ?_
          refine lv_imul hx hb dX2_given_32 ?_
          refine lv_iload_n hx hb dX2_given_33 rfl (lv_at hl 2 rfl) ?_
          refine lv_iadd hx hb dX2_given_34 ?_
          refine zq_ild hx hb hK hP 1 rfl (256 * f + r) (by simp only [pk_mul, nI_add] <;> (congr 1; omega)) (by omega) (by decide) dX2_given_35 ?_
          exact ret _ _ _ (congrArg (fun z => some (Value.int z)) (zg_in hf hr).symm) dX2_given_36
        · refine lv_ldc (v := (-2147483648 : Int32)) hx hb hown (hts _ w_X2_given__constant_RX2_29_2147483648__9aba07) dX2_given_21 ?_
          exact ret _ _ _ (by first | exact congrArg (fun z => some (Value.int z)) (zg_nf (zr_lo c1)).symm | exact congrArg (fun z => some (Value.int z)) (zg_nf (zr_hi c7)).symm | exact congrArg (fun z => some (Value.int z)) (zg_nr (zr_lo c11)).symm | exact congrArg (fun z => some (Value.int z)) (zg_nr (zr_hi (Int32.not_lt.mp c18))).symm | fail "open") dX2_given_23
theorem cn_X2_given (l : Launch) (D : va_G) (cI cZ cW cC : ClassId) (w g : Nat) (G : Nat → Int32) (f r : Nat) (hf : f < 6) (hr : r < 256) : zq_ro l D cI cZ cW cC yX2_given wsX2_given ({ frames := 0, cells := 0, slots := 0, locals := 0 } : Room) [.ref w, .int (nI f), .int (nI r)] [(w, .inr (2, [.ref g])), (g, .inl (cI, 1536, .inl G))] (fun v => v = some (.int (G (256 * f + r)))) := zq_ro_mono (c_X2_given l D cI cZ cW cC w g G (nI f) (nI r)) (fun v h => by rw [h, zg_in hf hr])
theorem w_X2_refusals__constant_RX2_29_2147483648__9aba07 : (.constant RX2 29 (-2147483648) : Cond) ∈ wsX2_refusals := by decide +kernel
set_option maxHeartbeats 4000000 in
set_option maxRecDepth 100000 in
theorem c_X2_refusals (l : Launch) (D : va_G) (cI cZ cW cC : ClassId) (w g : Nat) (G : Nat → Int32) (f : Nat) (hf : f < 6) : zq_ro l D cI cZ cW cC yX2_refusals wsX2_refusals ({ frames := 1, cells := 0, slots := 0, locals := 22 } : Room) [.ref w, .int (nI f)] [(w, .inr (2, [.ref g])), (g, .inl (cI, 1536, .inl G))] (fun v => v = some (.int (nI (fb_ct (zref G f) 256)))) := by
  refine zq_roI (own := RX2) (by decide) rfl rfl (Nat.le_of_ble_eq_true rfl) ?_
  intro p e s m below meth c Q ls hF hP hK hl ret
  obtain ⟨hx, hb, hml, hown, hts⟩ := hF
  have hl : lv_has ls 4 [(0, .ref w), (1, .int (nI f))] := hl
  refine lv_iconst (v := (0 : Int32)) hx hb dX2_refusals_0 (by decide) ?_
  refine lv_istore_n (lv' := [(2, .int (0 : Int32)), (0, .ref w), (1, .int (nI f))]) hx hb dX2_refusals_1 rfl hl (by decide) rfl (fun ls hl => ?_)
  refine lv_iconst (v := (0 : Int32)) hx hb dX2_refusals_2 (by decide) ?_
  refine lv_istore_n (lv' := [(3, .int (nI 0)), (2, .int (nI 0)), (0, .ref w), (1, .int (nI f))]) hx hb dX2_refusals_3 rfl hl (by decide) rfl (fun ls hl => ?_)
  have loop4 : ∀ (fu : Nat) (k : Nat) (x2 : Int32) (ls : Array Slot), (256 - k) < fu → (k ≤ 256) → (x2 = nI (fb_ct (zref G f) k)) → lv_has ls 4 [(0, .ref w), (1, .int (nI f)), (2, .int x2), (3, .int (nI k))] → W p l e ({ frames := 1, cells := 0, slots := 0, locals := 22 } : Room) s m ([.ref w, .int (nI f)] : List Value).toArray below meth c s.heap [] 0 0 Q (F0 m 4 ls []) := by
    intro fu
    induction fu with
    | zero => intro _ _ _ hmu; exact absurd hmu (Nat.not_lt_zero _)
    | succ fu ih =>
      intro k x2 ls hmu hk ex2 hl
      refine lv_iload_n hx hb dX2_refusals_4 rfl (lv_at hl 3 rfl) ?_
      refine lv_sipush (v := (nI 256)) hx hb dX2_refusals_5 (by decide) ?_
      refine lv_icmp_ge (tgt := 31) hx hb dX2_refusals_8 (by decide) (fun c8 => ?_) (fun c8 => ?_)
      · have h8 := zle c8
        have hk2 : k = 256 := by have := zle c8; omega
        refine lv_iload_n hx hb dX2_refusals_31 rfl (lv_at hl 2 rfl) ?_
        exact ret _ _ _ (by rw [ex2, hk2]) dX2_refusals_32
      · have h8 := znle c8
        have hk2 := znle c8
        refine lv_aload_n hx hb dX2_refusals_11 rfl (lv_at hl 0 rfl) ?_
        refine lv_iload_n hx hb dX2_refusals_12 rfl (lv_at hl 1 rfl) ?_
        refine lv_iload_n hx hb dX2_refusals_13 rfl (lv_at hl 3 rfl) ?_
        refine zq_cV (rest := []) ⟨hx, hb, hml, hown, hts⟩ (cn_X2_given l D cI cZ cW cC w g G f k (by omega) (by omega)) (cwV 2 hts gX2_refusals_X2_given rfl rfl rfl (by decide +kernel) ⟨Nat.le_of_ble_eq_true rfl, Nat.le_of_ble_eq_true rfl⟩) hK hP 2 0 rfl rfl rfl hl.1 rfl (Nat.le_of_ble_eq_true rfl) dX2_refusals_14 ⟨Nat.le_of_ble_eq_true rfl, Nat.le_of_ble_eq_true rfl⟩ (fun v hv => ?_)
        obtain rfl := hv
        refine W.eq (g2 := F0 m 17 ls [.int (G (256 * f + k))]) rfl ?_
        refine lv_ldc (v := (-2147483648 : Int32)) hx hb hown (hts _ w_X2_refusals__constant_RX2_29_2147483648__9aba07) dX2_refusals_17 ?_
        refine lv_icmp_ne (tgt := 25) hx hb dX2_refusals_19 (by decide) (fun c19 => ?_) (fun c19 => ?_)
        · refine lv_iinc (v := (nI (k + 1))) (lv' := [(3, .int (nI (k + 1))), (0, .ref w), (1, .int (nI f)), (2, .int x2)]) hx hb dX2_refusals_25 hl (k := 3) rfl ((nI_succ _).symm) (by decide) rfl (fun ls hl => ?_)
          refine lv_goto (tgt := 4) hx hb dX2_refusals_28 (by decide) ?_
          exact ih (k + 1) x2 ls (by omega) (by omega) (by rw [ex2, fb_ct_succ, if_neg (by simp [zref, c19]), Nat.add_zero]) (lv_sub hl [1, 2, 3, 0] rfl)
        · refine lv_iinc (v := (x2 + 1)) (lv' := [(2, .int (x2 + 1)), (0, .ref w), (1, .int (nI f)), (3, .int (nI k))]) hx hb dX2_refusals_22 hl (k := 2) rfl (rfl) (by decide) rfl (fun ls hl => ?_)
          refine lv_iinc (v := (nI (k + 1))) (lv' := [(3, .int (nI (k + 1))), (2, .int (x2 + 1)), (0, .ref w), (1, .int (nI f))]) hx hb dX2_refusals_25 hl (k := 3) rfl ((nI_succ _).symm) (by decide) rfl (fun ls hl => ?_)
          refine lv_goto (tgt := 4) hx hb dX2_refusals_28 (by decide) ?_
          exact ih (k + 1) (x2 + 1) ls (by omega) (by omega) (by rw [ex2, fb_ct_succ, if_pos (by simp [zref, c19]), nI_succ]) (lv_sub hl [2, 3, 1, 0] rfl)
  exact loop4 (256 + 1) 0 0 ls (by omega) (by omega) rfl (lv_sub hl [2, 3, 1, 0] rfl)
theorem w_X2_least__constant_RX2_29_2147483648__9aba07 : (.constant RX2 29 (-2147483648) : Cond) ∈ wsX2_least := by decide +kernel
set_option maxHeartbeats 4000000 in
set_option maxRecDepth 100000 in
theorem c_X2_least (l : Launch) (D : va_G) (cI cZ cW cC : ClassId) (w g : Nat) (G : Nat → Int32) (f : Nat) (hf : f < 6) : zq_ro l D cI cZ cW cC yX2_least wsX2_least ({ frames := 1, cells := 0, slots := 0, locals := 22 } : Room) [.ref w, .int (nI f)] [(w, .inr (2, [.ref g])), (g, .inl (cI, 1536, .inl G))] (fun v => v = some (.int (zlst G f 256))) := by
  refine zq_roI (own := RX2) (by decide) rfl rfl (Nat.le_of_ble_eq_true rfl) ?_
  intro p e s m below meth c Q ls hF hP hK hl ret
  obtain ⟨hx, hb, hml, hown, hts⟩ := hF
  have hl : lv_has ls 5 [(0, .ref w), (1, .int (nI f))] := hl
  refine lv_ldc (v := (-2147483648 : Int32)) hx hb hown (hts _ w_X2_least__constant_RX2_29_2147483648__9aba07) dX2_least_0 ?_
  refine lv_istore_n (lv' := [(2, .int (-2147483648 : Int32)), (0, .ref w), (1, .int (nI f))]) hx hb dX2_least_2 rfl hl (by decide) rfl (fun ls hl => ?_)
  refine lv_iconst (v := (0 : Int32)) hx hb dX2_least_3 (by decide) ?_
  refine lv_istore_n (lv' := [(3, .int (nI 0)), (2, .int (-2147483648 : Int32)), (0, .ref w), (1, .int (nI f))]) hx hb dX2_least_4 rfl hl (by decide) rfl (fun ls hl => ?_)
  have loop5 : ∀ (fu : Nat) (k : Nat) (x2 : Int32) (ls : Array Slot), (256 - k) < fu → (k ≤ 256) → (x2 = zlst G f k) → lv_has ls 5 [(0, .ref w), (1, .int (nI f)), (2, .int x2), (3, .int (nI k))] → W p l e ({ frames := 1, cells := 0, slots := 0, locals := 22 } : Room) s m ([.ref w, .int (nI f)] : List Value).toArray below meth c s.heap [] 0 0 Q (F0 m 5 ls []) := by
    intro fu
    induction fu with
    | zero => intro _ _ _ hmu; exact absurd hmu (Nat.not_lt_zero _)
    | succ fu ih =>
      intro k x2 ls hmu hk ex2 hl
      refine lv_iload_n hx hb dX2_least_5 rfl (lv_at hl 3 rfl) ?_
      refine lv_sipush (v := (nI 256)) hx hb dX2_least_6 (by decide) ?_
      refine lv_icmp_ge (tgt := 48) hx hb dX2_least_9 (by decide) (fun c9 => ?_) (fun c9 => ?_)
      · have h9 := zle c9
        refine lv_iload_n hx hb dX2_least_48 rfl (lv_at hl 2 rfl) ?_
        exact ret _ _ _ (by rw [ex2, show k = 256 by omega]) dX2_least_49
      · have h9 := znle c9
        refine lv_aload_n hx hb dX2_least_12 rfl (lv_at hl 0 rfl) ?_
        refine lv_iload_n hx hb dX2_least_13 rfl (lv_at hl 1 rfl) ?_
        refine lv_iload_n hx hb dX2_least_14 rfl (lv_at hl 3 rfl) ?_
        refine zq_cV (rest := []) ⟨hx, hb, hml, hown, hts⟩ (cn_X2_given l D cI cZ cW cC w g G f k (by omega) (by omega)) (cwV 2 hts gX2_least_X2_given rfl rfl rfl (by decide +kernel) ⟨Nat.le_of_ble_eq_true rfl, Nat.le_of_ble_eq_true rfl⟩) hK hP 2 0 rfl rfl rfl hl.1 rfl (Nat.le_of_ble_eq_true rfl) dX2_least_15 ⟨Nat.le_of_ble_eq_true rfl, Nat.le_of_ble_eq_true rfl⟩ (fun v hv => ?_)
        obtain rfl := hv
        refine W.eq (g2 := F0 m 18 ls [.int (G (256 * f + k))]) rfl ?_
        refine lv_istore (lv' := [(4, .int (G (256 * f + k))), (0, .ref w), (1, .int (nI f)), (2, .int x2), (3, .int (nI k))]) hx hb dX2_least_18 hl (by decide) rfl (fun ls hl => ?_)
        refine lv_iload hx hb dX2_least_20 (lv_at hl 0 rfl) ?_
        refine lv_ldc (v := (-2147483648 : Int32)) hx hb hown (hts _ w_X2_least__constant_RX2_29_2147483648__9aba07) dX2_least_22 ?_
        refine lv_icmp_eq (tgt := 42) hx hb dX2_least_24 (by decide) (fun c24 => ?_) (fun c24 => ?_)
        · refine lv_iinc (v := (nI (k + 1))) (lv' := [(3, .int (nI (k + 1))), (4, .int (G (256 * f + k))), (0, .ref w), (1, .int (nI f)), (2, .int x2)]) hx hb dX2_least_42 hl (k := 4) rfl ((nI_succ _).symm) (by decide) rfl (fun ls hl => ?_)
          refine lv_goto (tgt := 5) hx hb dX2_least_45 (by decide) ?_
          exact ih (k + 1) x2 ls (by omega) (by omega) (by rw [zlst, ← ex2, if_neg (fun q => q.1 c24)]) (lv_sub hl [2, 3, 4, 0] rfl)
        · refine lv_iload_n hx hb dX2_least_27 rfl (lv_at hl 3 rfl) ?_
          refine lv_ldc (v := (-2147483648 : Int32)) hx hb hown (hts _ w_X2_least__constant_RX2_29_2147483648__9aba07) dX2_least_28 ?_
          refine lv_icmp_eq (tgt := 39) hx hb dX2_least_30 (by decide) (fun c30 => ?_) (fun c30 => ?_)
          · refine lv_iload hx hb dX2_least_39 (lv_at hl 0 rfl) ?_
            refine lv_istore_n (lv' := [(2, .int (G (256 * f + k))), (4, .int (G (256 * f + k))), (0, .ref w), (1, .int (nI f)), (3, .int (nI k))]) hx hb dX2_least_41 rfl hl (by decide) rfl (fun ls hl => ?_)
            refine lv_iinc (v := (nI (k + 1))) (lv' := [(3, .int (nI (k + 1))), (2, .int (G (256 * f + k))), (4, .int (G (256 * f + k))), (0, .ref w), (1, .int (nI f))]) hx hb dX2_least_42 hl (k := 4) rfl ((nI_succ _).symm) (by decide) rfl (fun ls hl => ?_)
            refine lv_goto (tgt := 5) hx hb dX2_least_45 (by decide) ?_
            exact ih (k + 1) (G (256 * f + k)) ls (by omega) (by omega) (by rw [zlst, ← ex2, if_pos ⟨c24, Or.inl c30⟩]) (lv_sub hl [3, 4, 1, 0] rfl)
          · refine lv_iload hx hb dX2_least_33 (lv_at hl 0 rfl) ?_
            refine lv_iload_n hx hb dX2_least_35 rfl (lv_at hl 3 rfl) ?_
            refine lv_icmp_ge (tgt := 42) hx hb dX2_least_36 (by decide) (fun c36 => ?_) (fun c36 => ?_)
            · refine lv_iinc (v := (nI (k + 1))) (lv' := [(3, .int (nI (k + 1))), (4, .int (G (256 * f + k))), (0, .ref w), (1, .int (nI f)), (2, .int x2)]) hx hb dX2_least_42 hl (k := 4) rfl ((nI_succ _).symm) (by decide) rfl (fun ls hl => ?_)
              refine lv_goto (tgt := 5) hx hb dX2_least_45 (by decide) ?_
              exact ih (k + 1) x2 ls (by omega) (by omega) (by rw [zlst, ← ex2, if_neg (fun q => q.2.elim c30 (fun z => absurd c36 (Int32.not_le.mpr z)))]) (lv_sub hl [2, 3, 4, 0] rfl)
            · refine lv_iload hx hb dX2_least_39 (lv_at hl 0 rfl) ?_
              refine lv_istore_n (lv' := [(2, .int (G (256 * f + k))), (4, .int (G (256 * f + k))), (0, .ref w), (1, .int (nI f)), (3, .int (nI k))]) hx hb dX2_least_41 rfl hl (by decide) rfl (fun ls hl => ?_)
              refine lv_iinc (v := (nI (k + 1))) (lv' := [(3, .int (nI (k + 1))), (2, .int (G (256 * f + k))), (4, .int (G (256 * f + k))), (0, .ref w), (1, .int (nI f))]) hx hb dX2_least_42 hl (k := 4) rfl ((nI_succ _).symm) (by decide) rfl (fun ls hl => ?_)
              refine lv_goto (tgt := 5) hx hb dX2_least_45 (by decide) ?_
              exact ih (k + 1) (G (256 * f + k)) ls (by omega) (by omega) (by rw [zlst, ← ex2, if_pos ⟨c24, Or.inr (Int32.not_le.mp c36)⟩]) (lv_sub hl [3, 4, 1, 0] rfl)
  exact loop5 (256 + 1) 0 zNO ls (by omega) (by omega) rfl (lv_sub hl [2, 3, 1, 0] rfl)
theorem w_X2_most__code_Lib_Math_max_name_Lib_Math_max_code_2_some_int__b6349a : (.code Lib.Math.max.name Lib.Math.max.code 2 (some .int) : Cond) ∈ wsX2_most := by decide +kernel
theorem w_X2_most__constant_RX2_29_2147483648__9aba07 : (.constant RX2 29 (-2147483648) : Cond) ∈ wsX2_most := by decide +kernel
theorem w_X2_most__initialized_java_lang_Math__868a92 : (.initialized "java/lang/Math" : Cond) ∈ wsX2_most := by decide +kernel
theorem w_X2_most__methodLink_RX2_34_Lib_Math_max_name_2fcbd8 : (.methodLink RX2 34 Lib.Math.max.name : Cond) ∈ wsX2_most := by decide +kernel
theorem w_X2_most__static_Lib_Math_max_name_80a2ec : (.static Lib.Math.max.name : Cond) ∈ wsX2_most := by decide +kernel
set_option maxHeartbeats 4000000 in
set_option maxRecDepth 100000 in
theorem c_X2_most (l : Launch) (D : va_G) (cI cZ cW cC : ClassId) (w g : Nat) (G : Nat → Int32) (f : Nat) (hf : f < 6) : zq_ro l D cI cZ cW cC yX2_most wsX2_most ({ frames := 1, cells := 0, slots := 0, locals := 22 } : Room) [.ref w, .int (nI f)] [(w, .inr (2, [.ref g])), (g, .inl (cI, 1536, .inl G))] (fun v => v = some (.int (zmst G f 256))) := by
  refine zq_roI (own := RX2) (by decide) rfl rfl (Nat.le_of_ble_eq_true rfl) ?_
  intro p e s m below meth c Q ls hF hP hK hl ret
  obtain ⟨hx, hb, hml, hown, hts⟩ := hF
  have hl : lv_has ls 4 [(0, .ref w), (1, .int (nI f))] := hl
  refine lv_ldc (v := (-2147483648 : Int32)) hx hb hown (hts _ w_X2_most__constant_RX2_29_2147483648__9aba07) dX2_most_0 ?_
  refine lv_istore_n (lv' := [(2, .int (-2147483648 : Int32)), (0, .ref w), (1, .int (nI f))]) hx hb dX2_most_2 rfl hl (by decide) rfl (fun ls hl => ?_)
  refine lv_iconst (v := (0 : Int32)) hx hb dX2_most_3 (by decide) ?_
  refine lv_istore_n (lv' := [(3, .int (nI 0)), (2, .int (-2147483648 : Int32)), (0, .ref w), (1, .int (nI f))]) hx hb dX2_most_4 rfl hl (by decide) rfl (fun ls hl => ?_)
  have loop5 : ∀ (fu : Nat) (k : Nat) (x2 : Int32) (ls : Array Slot), (256 - k) < fu → (k ≤ 256) → (x2 = zmst G f k) → lv_has ls 4 [(0, .ref w), (1, .int (nI f)), (2, .int x2), (3, .int (nI k))] → W p l e ({ frames := 1, cells := 0, slots := 0, locals := 22 } : Room) s m ([.ref w, .int (nI f)] : List Value).toArray below meth c s.heap [] 0 0 Q (F0 m 5 ls []) := by
    intro fu
    induction fu with
    | zero => intro _ _ _ hmu; exact absurd hmu (Nat.not_lt_zero _)
    | succ fu ih =>
      intro k x2 ls hmu hk ex2 hl
      refine lv_iload_n hx hb dX2_most_5 rfl (lv_at hl 3 rfl) ?_
      refine lv_sipush (v := (nI 256)) hx hb dX2_most_6 (by decide) ?_
      refine lv_icmp_ge (tgt := 29) hx hb dX2_most_9 (by decide) (fun c9 => ?_) (fun c9 => ?_)
      · have h9 := zle c9
        refine lv_iload_n hx hb dX2_most_29 rfl (lv_at hl 2 rfl) ?_
        exact ret _ _ _ (by rw [ex2, show k = 256 by omega]) dX2_most_30
      · have h9 := znle c9
        refine lv_iload_n hx hb dX2_most_12 rfl (lv_at hl 2 rfl) ?_
        refine lv_aload_n hx hb dX2_most_13 rfl (lv_at hl 0 rfl) ?_
        refine lv_iload_n hx hb dX2_most_14 rfl (lv_at hl 1 rfl) ?_
        refine lv_iload_n hx hb dX2_most_15 rfl (lv_at hl 3 rfl) ?_
        refine zq_cV (rest := [.int x2]) ⟨hx, hb, hml, hown, hts⟩ (cn_X2_given l D cI cZ cW cC w g G f k (by omega) (by omega)) (cwV 2 hts gX2_most_X2_given rfl rfl rfl (by decide +kernel) ⟨Nat.le_of_ble_eq_true rfl, Nat.le_of_ble_eq_true rfl⟩) hK hP 2 0 rfl rfl rfl hl.1 rfl (Nat.le_of_ble_eq_true rfl) dX2_most_16 ⟨Nat.le_of_ble_eq_true rfl, Nat.le_of_ble_eq_true rfl⟩ (fun v hv => ?_)
        obtain rfl := hv
        refine W.eq (g2 := F0 m 19 ls [.int (G (256 * f + k)), .int x2]) rfl ?_
        refine va_mmax hx hb (hml.trans hl.1.symm) hown (hts _ w_X2_most__methodLink_RX2_34_Lib_Math_max_name_2fcbd8) (hts _ w_X2_most__static_Lib_Math_max_name_80a2ec) (hts _ w_X2_most__initialized_java_lang_Math__868a92) (hts _ w_X2_most__code_Lib_Math_max_name_Lib_Math_max_code_2_some_int__b6349a) (Nat.le_of_ble_eq_true rfl) (Nat.le_of_ble_eq_true rfl) (Nat.le_of_ble_eq_true rfl) (Nat.le_of_ble_eq_true rfl) dX2_most_19 ?_
        refine lv_istore_n (lv' := [(2, .int (if x2 < (G (256 * f + k)) then (G (256 * f + k)) else x2)), (0, .ref w), (1, .int (nI f)), (3, .int (nI k))]) hx hb dX2_most_22 rfl hl (by decide) rfl (fun ls hl => ?_)
        refine lv_iinc (v := (nI (k + 1))) (lv' := [(3, .int (nI (k + 1))), (2, .int (if x2 < (G (256 * f + k)) then (G (256 * f + k)) else x2)), (0, .ref w), (1, .int (nI f))]) hx hb dX2_most_23 hl (k := 3) rfl ((nI_succ _).symm) (by decide) rfl (fun ls hl => ?_)
        refine lv_goto (tgt := 5) hx hb dX2_most_26 (by decide) ?_
        exact ih (k + 1) (if x2 < (G (256 * f + k)) then (G (256 * f + k)) else x2) ls (by omega) (by omega) (by rw [zmst, ← ex2]) (lv_sub hl [2, 3, 1, 0] rfl)
  exact loop5 (256 + 1) 0 zNO ls (by omega) (by omega) rfl (lv_sub hl [2, 3, 1, 0] rfl)
theorem w_X2_firstRefusal__constant_RX2_29_2147483648__9aba07 : (.constant RX2 29 (-2147483648) : Cond) ∈ wsX2_firstRefusal := by decide +kernel
set_option maxHeartbeats 4000000 in
set_option maxRecDepth 100000 in
theorem c_X2_firstRefusal (l : Launch) (D : va_G) (cI cZ cW cC : ClassId) (w g : Nat) (G : Nat → Int32) (f : Nat) (hf : f < 6) : zq_ro l D cI cZ cW cC yX2_firstRefusal wsX2_firstRefusal ({ frames := 1, cells := 0, slots := 0, locals := 22 } : Room) [.ref w, .int (nI f)] [(w, .inr (2, [.ref g])), (g, .inl (cI, 1536, .inl G))] (fun v => v = some (.int (nI (fa_first (zref G f) 256)))) := by
  refine zq_roI (own := RX2) (by decide) rfl rfl (Nat.le_of_ble_eq_true rfl) ?_
  intro p e s m below meth c Q ls hF hP hK hl ret
  obtain ⟨hx, hb, hml, hown, hts⟩ := hF
  have hl : lv_has ls 3 [(0, .ref w), (1, .int (nI f))] := hl
  refine lv_iconst (v := (0 : Int32)) hx hb dX2_firstRefusal_0 (by decide) ?_
  refine lv_istore_n (lv' := [(2, .int (nI 0)), (0, .ref w), (1, .int (nI f))]) hx hb dX2_firstRefusal_1 rfl hl (by decide) rfl (fun ls hl => ?_)
  have loop2 : ∀ (fu : Nat) (k : Nat) (ls : Array Slot), (256 - k) < fu → (k ≤ 256) → (∀ j, j < k → zref G f j = false) → lv_has ls 3 [(0, .ref w), (1, .int (nI f)), (2, .int (nI k))] → W p l e ({ frames := 1, cells := 0, slots := 0, locals := 22 } : Room) s m ([.ref w, .int (nI f)] : List Value).toArray below meth c s.heap [] 0 0 Q (F0 m 2 ls []) := by
    intro fu
    induction fu with
    | zero => intro _ _ hmu; exact absurd hmu (Nat.not_lt_zero _)
    | succ fu ih =>
      intro k ls hmu hk hno hl
      refine lv_iload_n hx hb dX2_firstRefusal_2 rfl (lv_at hl 2 rfl) ?_
      refine lv_sipush (v := (nI 256)) hx hb dX2_firstRefusal_3 (by decide) ?_
      refine lv_icmp_ge (tgt := 28) hx hb dX2_firstRefusal_6 (by decide) (fun c6 => ?_) (fun c6 => ?_)
      · have h6 := zle c6
        refine lv_sipush (v := (nI 256)) hx hb dX2_firstRefusal_28 (by decide) ?_
        exact ret _ _ _ (by rw [zfirst_none (fun j hj => hno j (by omega))]) dX2_firstRefusal_31
      · have h6 := znle c6
        refine lv_aload_n hx hb dX2_firstRefusal_9 rfl (lv_at hl 0 rfl) ?_
        refine lv_iload_n hx hb dX2_firstRefusal_10 rfl (lv_at hl 1 rfl) ?_
        refine lv_iload_n hx hb dX2_firstRefusal_11 rfl (lv_at hl 2 rfl) ?_
        refine zq_cV (rest := []) ⟨hx, hb, hml, hown, hts⟩ (cn_X2_given l D cI cZ cW cC w g G f k (by omega) (by omega)) (cwV 2 hts gX2_firstRefusal_X2_given rfl rfl rfl (by decide +kernel) ⟨Nat.le_of_ble_eq_true rfl, Nat.le_of_ble_eq_true rfl⟩) hK hP 2 0 rfl rfl rfl hl.1 rfl (Nat.le_of_ble_eq_true rfl) dX2_firstRefusal_12 ⟨Nat.le_of_ble_eq_true rfl, Nat.le_of_ble_eq_true rfl⟩ (fun v hv => ?_)
        obtain rfl := hv
        refine W.eq (g2 := F0 m 15 ls [.int (G (256 * f + k))]) rfl ?_
        refine lv_ldc (v := (-2147483648 : Int32)) hx hb hown (hts _ w_X2_firstRefusal__constant_RX2_29_2147483648__9aba07) dX2_firstRefusal_15 ?_
        refine lv_icmp_ne (tgt := 22) hx hb dX2_firstRefusal_17 (by decide) (fun c17 => ?_) (fun c17 => ?_)
        · refine lv_iinc (v := (nI (k + 1))) (lv' := [(2, .int (nI (k + 1))), (0, .ref w), (1, .int (nI f))]) hx hb dX2_firstRefusal_22 hl (k := 2) rfl ((nI_succ _).symm) (by decide) rfl (fun ls hl => ?_)
          refine lv_goto (tgt := 2) hx hb dX2_firstRefusal_25 (by decide) ?_
          exact ih (k + 1) ls (by omega) (by omega) (lt_s hno (by simp [zref, c17])) (lv_sub hl [1, 2, 0] rfl)
        · refine lv_iload_n hx hb dX2_firstRefusal_20 rfl (lv_at hl 2 rfl) ?_
          exact ret _ _ _ (by rw [zfirst_eq (k := k) (by omega) (by simp [zref, c17]) hno]) dX2_firstRefusal_21
  exact loop2 (256 + 1) 0 ls (by omega) (by omega) (fun j hj => absurd hj (Nat.not_lt_zero j)) (lv_sub hl [1, 2, 0] rfl)
theorem w_X2_refusesFrom__constant_RX2_29_2147483648__9aba07 : (.constant RX2 29 (-2147483648) : Cond) ∈ wsX2_refusesFrom := by decide +kernel
set_option maxHeartbeats 4000000 in
set_option maxRecDepth 100000 in
theorem c_X2_refusesFrom (l : Launch) (D : va_G) (cI cZ cW cC : ClassId) (w g : Nat) (G : Nat → Int32) (f : Nat) (hf : f < 6) : zq_ro l D cI cZ cW cC yX2_refusesFrom wsX2_refusesFrom ({ frames := 2, cells := 0, slots := 0, locals := 45 } : Room) [.ref w, .int (nI f)] [(w, .inr (2, [.ref g])), (g, .inl (cI, 1536, .inl G))] (fun v => v = some (.int (if fb_ct (zref G f) 256 = 256 - fa_first (zref G f) 256 / 16 * 16 then nI (fa_first (zref G f) 256 / 16) else zNO))) := by
  refine zq_roI (own := RX2) (by decide) rfl rfl (Nat.le_of_ble_eq_true rfl) ?_
  intro p e s m below meth c Q ls hF hP hK hl ret
  obtain ⟨hx, hb, hml, hown, hts⟩ := hF
  have hl : lv_has ls 3 [(0, .ref w), (1, .int (nI f))] := hl
  have hfl := fa_first_le (zref G f) 256
  have hcl := fb_ct_le (zref G f) 256
  refine lv_aload_n hx hb dX2_refusesFrom_0 rfl (lv_at hl 0 rfl) ?_
  refine lv_iload_n hx hb dX2_refusesFrom_1 rfl (lv_at hl 1 rfl) ?_
  refine zq_cV (rest := []) ⟨hx, hb, hml, hown, hts⟩ (c_X2_firstRefusal l D cI cZ cW cC w g G f hf) (cwV 1 hts gX2_refusesFrom_X2_firstRefusal rfl rfl rfl (by decide +kernel) ⟨Nat.le_of_ble_eq_true rfl, Nat.le_of_ble_eq_true rfl⟩) hK hP 2 0 rfl rfl rfl hl.1 rfl (Nat.le_of_ble_eq_true rfl) dX2_refusesFrom_2 ⟨Nat.le_of_ble_eq_true rfl, Nat.le_of_ble_eq_true rfl⟩ (fun v hv => ?_)
  obtain rfl := hv
  refine W.eq (g2 := F0 m 5 ls [.int (nI (fa_first (zref G f) 256))]) rfl ?_
  refine lv_bipush (v := (nI 16)) hx hb dX2_refusesFrom_5 (by decide) ?_
  refine lv_idiv hx hb dX2_refusesFrom_7 (by decide) ?_
  refine zq_te (y := (nI (fa_first (zref G f) 256 / 16))) (pk_div (by omega) (by omega) (by omega)) ?_
  refine lv_istore_n (lv' := [(2, .int (nI (fa_first (zref G f) 256 / 16))), (0, .ref w), (1, .int (nI f))]) hx hb dX2_refusesFrom_8 rfl hl (by decide) rfl (fun ls hl => ?_)
  refine lv_aload_n hx hb dX2_refusesFrom_9 rfl (lv_at hl 1 rfl) ?_
  refine lv_iload_n hx hb dX2_refusesFrom_10 rfl (lv_at hl 2 rfl) ?_
  refine zq_cV (rest := []) ⟨hx, hb, hml, hown, hts⟩ (c_X2_refusals l D cI cZ cW cC w g G f hf) (cwV 1 hts gX2_refusesFrom_X2_refusals rfl rfl rfl (by decide +kernel) ⟨Nat.le_of_ble_eq_true rfl, Nat.le_of_ble_eq_true rfl⟩) hK hP 2 0 rfl rfl rfl hl.1 rfl (Nat.le_of_ble_eq_true rfl) dX2_refusesFrom_11 ⟨Nat.le_of_ble_eq_true rfl, Nat.le_of_ble_eq_true rfl⟩ (fun v hv => ?_)
  obtain rfl := hv
  refine W.eq (g2 := F0 m 14 ls [.int (nI (fb_ct (zref G f) 256))]) rfl ?_
  refine lv_sipush (v := (nI 256)) hx hb dX2_refusesFrom_14 (by decide) ?_
  refine lv_iload_n hx hb dX2_refusesFrom_17 rfl (lv_at hl 0 rfl) ?_
  refine lv_bipush (v := (nI 16)) hx hb dX2_refusesFrom_18 (by decide) ?_
  refine lv_imul hx hb dX2_refusesFrom_20 ?_
  refine zq_te (y := (nI (fa_first (zref G f) 256 / 16 * 16))) (pk_mul _ _) ?_
  refine lv_isub hx hb dX2_refusesFrom_21 ?_
  refine zq_te (y := (nI (256 - fa_first (zref G f) 256 / 16 * 16))) (pk_sub (by omega)) ?_
  refine lv_icmp_ne (tgt := 29) hx hb dX2_refusesFrom_22 (by decide) (fun c22 => ?_) (fun c22 => ?_)
  · have h22 := zne c22
    refine lv_ldc (v := (-2147483648 : Int32)) hx hb hown (hts _ w_X2_refusesFrom__constant_RX2_29_2147483648__9aba07) dX2_refusesFrom_29 ?_
    exact ret _ _ _ (by rw [if_neg h22]) dX2_refusesFrom_31
  · have h22 := zeq c22
    refine lv_iload_n hx hb dX2_refusesFrom_25 rfl (lv_at hl 0 rfl) ?_
    refine lv_goto (tgt := 31) hx hb dX2_refusesFrom_26 (by decide) ?_
    exact ret _ _ _ (by rw [if_pos h22]) dX2_refusesFrom_31
set_option maxHeartbeats 4000000 in
set_option maxRecDepth 100000 in
theorem c_X2_commonDivisor (l : Launch) (D : va_G) (cI cZ cW cC : ClassId) (a b : Nat) (ha : a ≤ 1000000) (hb0 : b ≤ 1000000) : zq_ro l D cI cZ cW cC yX2_commonDivisor wsX2_commonDivisor ({ frames := 0, cells := 0, slots := 0, locals := 0 } : Room) [.int (nI a), .int (nI b)] [] (fun v => v = some (.int (nI (Nat.gcd a b)))) := by
  refine zq_roI (own := RX2) (by decide) rfl rfl (Nat.le_of_ble_eq_true rfl) ?_
  intro p e s m below meth c Q ls hF hP hK hl ret
  obtain ⟨hx, hb, hml, hown, hts⟩ := hF
  have hl : lv_has ls 6 [(0, .int (nI a)), (1, .int (nI b))] := hl
  refine lv_iload_n hx hb dX2_commonDivisor_0 rfl (lv_at hl 0 rfl) ?_
  refine lv_istore_n (lv' := [(2, .int (nI a)), (0, .int (nI a)), (1, .int (nI b))]) hx hb dX2_commonDivisor_1 rfl hl (by decide) rfl (fun ls hl => ?_)
  refine lv_iload_n hx hb dX2_commonDivisor_2 rfl (lv_at hl 2 rfl) ?_
  refine lv_istore_n (lv' := [(3, .int (nI b)), (2, .int (nI a)), (0, .int (nI a)), (1, .int (nI b))]) hx hb dX2_commonDivisor_3 rfl hl (by decide) rfl (fun ls hl => ?_)
  refine lv_iconst (v := (0 : Int32)) hx hb dX2_commonDivisor_4 (by decide) ?_
  refine lv_istore (lv' := [(4, .int (nI 0)), (3, .int (nI b)), (2, .int (nI a)), (0, .int (nI a)), (1, .int (nI b))]) hx hb dX2_commonDivisor_5 hl (by decide) rfl (fun ls hl => ?_)
  have loop7 : ∀ (fu : Nat) (i x y : Nat) (ls : Array Slot), (64 - i) < fu → (i ≤ 64) → (zEu a b i x y) → lv_has ls 6 [(2, .int (nI x)), (3, .int (nI y)), (4, .int (nI i))] → W p l e ({ frames := 0, cells := 0, slots := 0, locals := 0 } : Room) s m ([.int (nI a), .int (nI b)] : List Value).toArray below meth c s.heap [] 0 0 Q (F0 m 7 ls []) := by
    intro fu
    induction fu with
    | zero => intro _ _ _ _ hmu; exact absurd hmu (Nat.not_lt_zero _)
    | succ fu ih =>
      intro i x y ls hmu hi hE hl
      have hX := hE.2.1
      have hY := hE.2.2.1
      refine lv_iload hx hb dX2_commonDivisor_7 (lv_at hl 2 rfl) ?_
      refine lv_bipush (v := (nI 64)) hx hb dX2_commonDivisor_9 (by decide) ?_
      refine lv_icmp_ge (tgt := 34) hx hb dX2_commonDivisor_11 (by decide) (fun c11 => ?_) (fun c11 => ?_)
      · have h11 := zle c11
        have hy0 := zEu_64 hE (by omega)
        subst hy0
        refine lv_iload_n hx hb dX2_commonDivisor_34 rfl (lv_at hl 0 rfl) ?_
        exact ret _ _ _ (by rw [zEu_z hE]) dX2_commonDivisor_35
      · have h11 := znle c11
        refine lv_iload_n hx hb dX2_commonDivisor_14 rfl (lv_at hl 1 rfl) ?_
        refine lv_if_eq (tgt := 34) hx hb dX2_commonDivisor_15 (by decide) (fun c15 => ?_) (fun c15 => ?_)
        · have hy0 : y = 0 := zeq (c15.trans nI_0.symm)
          subst hy0
          refine lv_iload_n hx hb dX2_commonDivisor_34 rfl (lv_at hl 0 rfl) ?_
          exact ret _ _ _ (by rw [zEu_z hE]) dX2_commonDivisor_35
        · have hy0 : y ≠ 0 := fun q => c15 (by rw [q]; rfl)
          refine lv_iload_n hx hb dX2_commonDivisor_18 rfl (lv_at hl 0 rfl) ?_
          refine lv_iload_n hx hb dX2_commonDivisor_19 rfl (lv_at hl 1 rfl) ?_
          refine lv_irem hx hb dX2_commonDivisor_20 c15 ?_
          refine zq_te (y := (nI (x % y))) (pk_rem (by omega) (by omega) (by omega)) ?_
          refine lv_istore (lv' := [(5, .int (nI (x % y))), (2, .int (nI x)), (3, .int (nI y)), (4, .int (nI i))]) hx hb dX2_commonDivisor_21 hl (by decide) rfl (fun ls hl => ?_)
          refine lv_iload_n hx hb dX2_commonDivisor_23 rfl (lv_at hl 2 rfl) ?_
          refine lv_istore_n (lv' := [(2, .int (nI y)), (5, .int (nI (x % y))), (3, .int (nI y)), (4, .int (nI i))]) hx hb dX2_commonDivisor_24 rfl hl (by decide) rfl (fun ls hl => ?_)
          refine lv_iload hx hb dX2_commonDivisor_25 (lv_at hl 1 rfl) ?_
          refine lv_istore_n (lv' := [(3, .int (nI (x % y))), (2, .int (nI y)), (5, .int (nI (x % y))), (4, .int (nI i))]) hx hb dX2_commonDivisor_27 rfl hl (by decide) rfl (fun ls hl => ?_)
          refine lv_iinc (v := (nI (i + 1))) (lv' := [(4, .int (nI (i + 1))), (3, .int (nI (x % y))), (2, .int (nI y)), (5, .int (nI (x % y)))]) hx hb dX2_commonDivisor_28 hl (k := 3) rfl ((nI_succ _).symm) (by decide) rfl (fun ls hl => ?_)
          refine lv_goto (tgt := 7) hx hb dX2_commonDivisor_31 (by decide) ?_
          exact ih (i + 1) y (x % y) ls (by omega) (by omega) (zEu_s hE (by omega)) (lv_sub hl [2, 1, 0] rfl)
  exact loop7 (64 + 1) 0 a b ls (by omega) (by omega) (zEu_0 ha hb0) (lv_sub hl [2, 1, 0] rfl)
theorem w_X2_greatestDivisor__code_Lib_Math_abs_name_Lib_Math_abs_code_1_some_int__9541a2 : (.code Lib.Math.abs.name Lib.Math.abs.code 1 (some .int) : Cond) ∈ wsX2_greatestDivisor := by decide +kernel
theorem w_X2_greatestDivisor__constant_RX2_29_2147483648__9aba07 : (.constant RX2 29 (-2147483648) : Cond) ∈ wsX2_greatestDivisor := by decide +kernel
theorem w_X2_greatestDivisor__initialized_java_lang_Math__868a92 : (.initialized "java/lang/Math" : Cond) ∈ wsX2_greatestDivisor := by decide +kernel
theorem w_X2_greatestDivisor__methodLink_RX2_39_Lib_Math_abs_name_0dae1b : (.methodLink RX2 39 Lib.Math.abs.name : Cond) ∈ wsX2_greatestDivisor := by decide +kernel
theorem w_X2_greatestDivisor__static_Lib_Math_abs_name_7973de : (.static Lib.Math.abs.name : Cond) ∈ wsX2_greatestDivisor := by decide +kernel
set_option maxHeartbeats 4000000 in
set_option maxRecDepth 100000 in
theorem c_X2_greatestDivisor (l : Launch) (D : va_G) (cI cZ cW cC : ClassId) (w g : Nat) (G : Nat → Int32) (f : Nat) (hf : f < 6) (hB : zB G 1536) : zq_ro l D cI cZ cW cC yX2_greatestDivisor wsX2_greatestDivisor ({ frames := 1, cells := 0, slots := 0, locals := 25 } : Room) [.ref w, .int (nI f)] [(w, .inr (2, [.ref g])), (g, .inl (cI, 1536, .inl G))] (fun v => v = some (.int (nI (zgd (zgc G f 256) 1000)))) := by
  refine zq_roI (own := RX2) (by decide) rfl rfl (Nat.le_of_ble_eq_true rfl) ?_
  intro p e s m below meth c Q ls hF hP hK hl ret
  obtain ⟨hx, hb, hml, hown, hts⟩ := hF
  have hl : lv_has ls 5 [(0, .ref w), (1, .int (nI f))] := hl
  refine lv_iconst (v := (0 : Int32)) hx hb dX2_greatestDivisor_0 (by decide) ?_
  refine lv_istore_n (lv' := [(2, .int (nI 0)), (0, .ref w), (1, .int (nI f))]) hx hb dX2_greatestDivisor_1 rfl hl (by decide) rfl (fun ls hl => ?_)
  refine lv_iconst (v := (0 : Int32)) hx hb dX2_greatestDivisor_2 (by decide) ?_
  refine lv_istore_n (lv' := [(3, .int (nI 0)), (2, .int (nI 0)), (0, .ref w), (1, .int (nI f))]) hx hb dX2_greatestDivisor_3 rfl hl (by decide) rfl (fun ls hl => ?_)
  have loop4 : ∀ (fu : Nat) (k : Nat) (ls : Array Slot), (256 - k) < fu → (k ≤ 256) → lv_has ls 5 [(0, .ref w), (1, .int (nI f)), (2, .int (nI (zgc G f k))), (3, .int (nI k))] → W p l e ({ frames := 1, cells := 0, slots := 0, locals := 25 } : Room) s m ([.ref w, .int (nI f)] : List Value).toArray below meth c s.heap [] 0 0 Q (F0 m 4 ls []) := by
    intro fu
    induction fu with
    | zero => intro _ _ hmu; exact absurd hmu (Nat.not_lt_zero _)
    | succ fu ih =>
      intro k ls hmu hk hl
      have hgc := zgc_le hB hf k hk
      refine lv_iload_n hx hb dX2_greatestDivisor_4 rfl (lv_at hl 3 rfl) ?_
      refine lv_sipush (v := (nI 256)) hx hb dX2_greatestDivisor_5 (by decide) ?_
      refine lv_icmp_ge (tgt := 42) hx hb dX2_greatestDivisor_8 (by decide) (fun c8 => ?_) (fun c8 => ?_)
      · have h8 := zle c8
        have hk2 : k = 256 := by omega
        subst hk2
        refine lv_sipush (v := (nI 1000)) hx hb dX2_greatestDivisor_42 (by decide) ?_
        refine lv_istore_n (lv' := [(3, .int (nI 1000)), (0, .ref w), (1, .int (nI f)), (2, .int (nI (zgc G f 256)))]) hx hb dX2_greatestDivisor_45 rfl hl (by decide) rfl (fun ls hl => ?_)
        have loop46 : ∀ (fu : Nat) (n2 : Nat) (ls : Array Slot), (n2) < fu → (n2 ≤ 1000) → (1 ≤ n2) → (zgd (zgc G f 256) 1000 = zgd (zgc G f 256) n2) → lv_has ls 5 [(2, .int (nI (zgc G f 256))), (3, .int (nI n2))] → W p l e ({ frames := 1, cells := 0, slots := 0, locals := 25 } : Room) s m ([.ref w, .int (nI f)] : List Value).toArray below meth c s.heap [] 0 0 Q (F0 m 46 ls []) := by
          intro fu
          induction fu with
          | zero => intro _ _ hmu; exact absurd hmu (Nat.not_lt_zero _)
          | succ fu ih =>
            intro n2 ls hmu hn2 hn3 hz hl
            refine lv_iload_n hx hb dX2_greatestDivisor_46 rfl (lv_at hl 1 rfl) ?_
            refine lv_iconst (v := (nI 1)) hx hb dX2_greatestDivisor_47 (by decide) ?_
            refine lv_icmp_le (tgt := 65) hx hb dX2_greatestDivisor_48 (by decide) (fun c48 => ?_) (fun c48 => ?_)
            · have h48 := zle c48
              refine lv_iconst (v := (1 : Int32)) hx hb dX2_greatestDivisor_65 (by decide) ?_
              exact ret _ _ _ (by rw [hz, show n2 = 1 by omega, zgd_yes (by omega) (Nat.mod_one _)]; rfl) dX2_greatestDivisor_66
            · have h48 := znle c48
              refine lv_iload_n hx hb dX2_greatestDivisor_51 rfl (lv_at hl 0 rfl) ?_
              refine lv_iload_n hx hb dX2_greatestDivisor_52 rfl (lv_at hl 1 rfl) ?_
              refine lv_irem hx hb dX2_greatestDivisor_53 (nI_ne0 (by omega) (by omega)) ?_
              refine zq_te (y := (nI (zgc G f 256 % n2))) (pk_rem (by omega) (by omega) (by omega)) ?_
              refine lv_if_ne (tgt := 59) hx hb dX2_greatestDivisor_54 (by decide) (fun c54 => ?_) (fun c54 => ?_)
              · refine lv_iinc (v := (nI (n2 - 1))) (lv' := [(3, .int (nI (n2 - 1))), (2, .int (nI (zgc G f 256)))]) hx hb dX2_greatestDivisor_59 hl (k := 1) rfl (sb_m1 (by omega)) (by decide) rfl (fun ls hl => ?_)
                refine lv_goto (tgt := 46) hx hb dX2_greatestDivisor_62 (by decide) ?_
                exact ih (n2 - 1) ls (by omega) (by omega) (by omega) (by rw [hz, zgd_no hn3 (fun q => c54 (by rw [q]; rfl))]) (lv_sub hl [1, 0] rfl)
              · refine lv_iload_n hx hb dX2_greatestDivisor_57 rfl (lv_at hl 1 rfl) ?_
                exact ret _ _ _ (by have h54 : zgc G f 256 % n2 = 0 := zeq (c54.trans nI_0.symm) (by have := Nat.mod_lt (zgc G f 256) (show n2 > 0 by omega); omega); rw [hz, zgd_yes hn3 h54]) dX2_greatestDivisor_58
        exact loop46 (1000 + 1) 1000 ls (by omega) (by omega) (by omega) rfl (lv_sub hl [3, 0] rfl)
      · have h8 := znle c8
        refine lv_aload_n hx hb dX2_greatestDivisor_11 rfl (lv_at hl 0 rfl) ?_
        refine lv_iload_n hx hb dX2_greatestDivisor_12 rfl (lv_at hl 1 rfl) ?_
        refine lv_iload_n hx hb dX2_greatestDivisor_13 rfl (lv_at hl 3 rfl) ?_
        refine zq_cV (rest := []) ⟨hx, hb, hml, hown, hts⟩ (cn_X2_given l D cI cZ cW cC w g G f k (by omega) (by omega)) (cwV 2 hts gX2_greatestDivisor_X2_given rfl rfl rfl (by decide +kernel) ⟨Nat.le_of_ble_eq_true rfl, Nat.le_of_ble_eq_true rfl⟩) hK hP 2 0 rfl rfl rfl hl.1 rfl (Nat.le_of_ble_eq_true rfl) dX2_greatestDivisor_14 ⟨Nat.le_of_ble_eq_true rfl, Nat.le_of_ble_eq_true rfl⟩ (fun v hv => ?_)
        obtain rfl := hv
        refine W.eq (g2 := F0 m 17 ls [.int (G (256 * f + k))]) rfl ?_
        refine lv_istore (lv' := [(4, .int (G (256 * f + k))), (0, .ref w), (1, .int (nI f)), (2, .int (nI (zgc G f k))), (3, .int (nI k))]) hx hb dX2_greatestDivisor_17 hl (by decide) rfl (fun ls hl => ?_)
        refine lv_iload hx hb dX2_greatestDivisor_19 (lv_at hl 0 rfl) ?_
        refine lv_ldc (v := (-2147483648 : Int32)) hx hb hown (hts _ w_X2_greatestDivisor__constant_RX2_29_2147483648__9aba07) dX2_greatestDivisor_21 ?_
        refine lv_icmp_eq (tgt := 36) hx hb dX2_greatestDivisor_23 (by decide) (fun c23 => ?_) (fun c23 => ?_)
        · refine lv_iinc (v := (nI (k + 1))) (lv' := [(3, .int (nI (k + 1))), (4, .int (G (256 * f + k))), (0, .ref w), (1, .int (nI f)), (2, .int (nI (zgc G f k)))]) hx hb dX2_greatestDivisor_36 hl (k := 4) rfl ((nI_succ _).symm) (by decide) rfl (fun ls hl => ?_)
          refine lv_goto (tgt := 4) hx hb dX2_greatestDivisor_39 (by decide) ?_
          refine ih (k + 1) ls (by omega) (by omega) ?_
          rw [show zgc G f (k + 1) = (zgc G f k) by rw [zgc, if_pos c23]]
          exact lv_sub hl [2, 3, 4, 0] rfl
        · have hb1 := (hB (256 * f + k) (by omega)).resolve_left c23
          have hb2 : (G (256 * f + k)).toInt.natAbs ≤ 1000000 := by omega
          refine lv_iload hx hb dX2_greatestDivisor_26 (lv_at hl 0 rfl) ?_
          refine va_mabs hx hb (hml.trans hl.1.symm) hown (hts _ w_X2_greatestDivisor__methodLink_RX2_39_Lib_Math_abs_name_0dae1b) (hts _ w_X2_greatestDivisor__static_Lib_Math_abs_name_7973de) (hts _ w_X2_greatestDivisor__initialized_java_lang_Math__868a92) (hts _ w_X2_greatestDivisor__code_Lib_Math_abs_name_Lib_Math_abs_code_1_some_int__9541a2) (Nat.le_of_ble_eq_true rfl) (Nat.le_of_ble_eq_true rfl) (Nat.le_of_ble_eq_true rfl) (Nat.le_of_ble_eq_true rfl) dX2_greatestDivisor_28 ?_
          refine zq_te (y := (nI (G (256 * f + k)).toInt.natAbs)) (zabs c23) ?_
          refine lv_iload_n hx hb dX2_greatestDivisor_31 rfl (lv_at hl 3 rfl) ?_
          refine zq_cS (rest := []) ⟨hx, hb, hml, hown, hts⟩ (c_X2_commonDivisor l D cI cZ cW cC ((G (256 * f + k)).toInt.natAbs) (zgc G f k) (by omega) (by omega)) (va_cwS 2 hts gX2_greatestDivisor_X2_commonDivisor rfl rfl rfl (by decide +kernel) ⟨Nat.le_of_ble_eq_true rfl, Nat.le_of_ble_eq_true rfl⟩) hK (fun k q h => by simp at h) rfl hl.1 rfl (Nat.le_of_ble_eq_true rfl) dX2_greatestDivisor_32 ⟨Nat.le_of_ble_eq_true rfl, Nat.le_of_ble_eq_true rfl⟩ (fun v hv => ?_)
          obtain rfl := hv
          refine W.eq (g2 := F0 m 35 ls [.int (nI (Nat.gcd ((G (256 * f + k)).toInt.natAbs) (zgc G f k)))]) rfl ?_
          refine lv_istore_n (lv' := [(2, .int (nI (Nat.gcd ((G (256 * f + k)).toInt.natAbs) (zgc G f k)))), (4, .int (G (256 * f + k))), (0, .ref w), (1, .int (nI f)), (3, .int (nI k))]) hx hb dX2_greatestDivisor_35 rfl hl (by decide) rfl (fun ls hl => ?_)
          refine lv_iinc (v := (nI (k + 1))) (lv' := [(3, .int (nI (k + 1))), (2, .int (nI (Nat.gcd ((G (256 * f + k)).toInt.natAbs) (zgc G f k)))), (4, .int (G (256 * f + k))), (0, .ref w), (1, .int (nI f))]) hx hb dX2_greatestDivisor_36 hl (k := 4) rfl ((nI_succ _).symm) (by decide) rfl (fun ls hl => ?_)
          refine lv_goto (tgt := 4) hx hb dX2_greatestDivisor_39 (by decide) ?_
          refine ih (k + 1) ls (by omega) (by omega) ?_
          rw [show zgc G f (k + 1) = (Nat.gcd ((G (256 * f + k)).toInt.natAbs) (zgc G f k)) by rw [zgc, if_neg c23]]
          exact lv_sub hl [3, 4, 1, 0] rfl
  exact loop4 (256 + 1) 0 ls (by omega) (by omega) (lv_sub hl [2, 3, 1, 0] rfl)
end
section
/-! Claim: what denies a claim -/
def zn16 (G : Nat → Int32) (f r : Nat) : Int32 := if r + 16 < 256 then G (256 * f + (r + 16)) else zNO
def zgp (G : Nat → Int32) (p : Int32) (r : Nat) : Int32 := if p.toNatClampNeg < 6 ∧ ¬ p < 0 then G (256 * p.toNatClampNeg + r) else zNO
def zden (G : Nat → Int32) (f : Nat) (kd p q : Int32) (r : Nat) : Bool :=
  if kd = 0 then decide (¬ G (256 * f + r) = zNO ∧ (G (256 * f + r) < p ∨ q < G (256 * f + r)))
  else if kd = 1 then decide (G (256 * f + r) = zNO)
  else if kd = 2 then decide (¬ G (256 * f + r) = zNO ∧ ¬ zn16 G f r = zNO ∧ zn16 G f r < G (256 * f + r))
  else if kd = 3 then decide (¬ G (256 * f + r) = zNO ∧ 0 < p ∧ ¬ G (256 * f + r) - G (256 * f + r) / p * p = 0)
  else if kd = 4 then decide (¬ G (256 * f + r) = G (256 * f + (r % 16 * 16 + r / 16)))
  else if kd = 5 then decide (nI r = p ∧ ¬ G (256 * f + r) = q)
  else if kd = 6 then decide (G (256 * f + r) = zNO ↔ nI (r / 16) < p)
  else if kd = 7 then decide (¬ G (256 * f + r) = zgp G p r)
  else false
theorem zg_r16 {G : Nat → Int32} {f r : Nat} (hf : f < 6) (hr : r < 256) : zg G (nI f) (nI (r + 16)) = zn16 G f r := by
  unfold zn16
  by_cases h : r + 16 < 256
  · rw [if_pos h, zg_in hf h]
  · rw [if_neg h, zg_nr (zr_hi (nI_le (by omega) (by omega)))]
theorem zg_p {G : Nat → Int32} {p : Int32} {r : Nat} (hr : r < 256) : zg G p (nI r) = zgp G p r := by
  unfold zgp
  by_cases h : p < 0
  · rw [if_neg (fun q => q.2 h), zg_nf (zr_lo h)]
  · obtain ⟨j, hj, rfl⟩ := nI_of h
    rw [nI_clamp hj]
    by_cases h2 : j < 6
    · rw [if_pos ⟨h2, h⟩, zg_in h2 hr]
    · rw [if_neg (fun q => h2 q.1), zg_nf (zr_hi (nI_le (by omega) hj))]
/-- held: no run denies -/
def zheld (d : Nat → Bool) : Bool := decide (fb_ct d 256 = 0)
theorem zheld_first (d : Nat → Bool) : zheld d = decide (fa_first d 256 = 256) := by
  unfold zheld
  by_cases h : ∀ k, k < 256 → d k = false
  · rw [zfirst_none h, fb_ct_zero.mpr h]
    rfl
  · have h1 : ¬ fb_ct d 256 = 0 := fun q => h (fb_ct_zero.mp q)
    have h2 : ¬ fa_first d 256 = 256 := fun q => h (fun k hk => fa_first_no d 256 k (by omega))
    simp [h1, h2]
theorem zheld_y (d : Nat → Bool) (h : (if fa_first d 256 < 256 then nI (fa_first d 256) else -1) = -1) : zheld d = true := by
  have hl := fa_first_le d 256
  rw [zheld_first, decide_eq_true_eq]
  by_cases h2 : fa_first d 256 < 256
  · rw [if_pos h2] at h
    exact absurd (show nI (fa_first d 256) < 0 by rw [h]; decide) (nI_pos (by omega))
  · omega
theorem zheld_n (d : Nat → Bool) (h : ¬ (if fa_first d 256 < 256 then nI (fa_first d 256) else -1) = -1) : zheld d = false := by
  rw [zheld_first, decide_eq_false_iff_not]
  intro q
  exact h (if_neg (by omega))

theorem w_X0_isDeniedBy__constant_RX0_48_2147483648__262fa9 : (.constant RX0 48 (-2147483648) : Cond) ∈ wsX0_isDeniedBy := by decide +kernel
theorem w_X0_isDeniedBy__fieldLink_RX0_15_WordsBeside_Claim_kind_I__8744c5 : (.fieldLink RX0 15 "WordsBeside$Claim" "kind" "I" : Cond) ∈ wsX0_isDeniedBy := by decide +kernel
theorem w_X0_isDeniedBy__fieldLink_RX0_18_WordsBeside_Claim_p_I__01826a : (.fieldLink RX0 18 "WordsBeside$Claim" "p" "I" : Cond) ∈ wsX0_isDeniedBy := by decide +kernel
theorem w_X0_isDeniedBy__fieldLink_RX0_21_WordsBeside_Claim_q_I__6ecc41 : (.fieldLink RX0 21 "WordsBeside$Claim" "q" "I" : Cond) ∈ wsX0_isDeniedBy := by decide +kernel
theorem w_X0_isDeniedBy__fieldLink_RX0_9_WordsBeside_Claim_function_I__8f8278 : (.fieldLink RX0 9 "WordsBeside$Claim" "function" "I" : Cond) ∈ wsX0_isDeniedBy := by decide +kernel
theorem in_X0_isDeniedBy_X0 : ∀ w ∈ wsX00, w ∈ wsX0_isDeniedBy := fun _ h => List.mem_cons_of_mem _ (List.mem_append_left _ (List.mem_append_right _ h))
set_option maxHeartbeats 4000000 in
set_option maxRecDepth 100000 in
theorem c_X0_isDeniedBy (l : Launch) (D : va_G) (cI cZ cW cC : ClassId) (co w g : Nat) (G : Nat → Int32) (f : Nat) (hf : f < 6) (kd p1 q1 bn lh mk : Int32) (r : Nat) (hr : r < 256) : zq_ro l D cI cZ cW cC yX0_isDeniedBy wsX0_isDeniedBy ({ frames := 1, cells := 0, slots := 0, locals := 22 } : Room) [.ref co, .int (nI r), .ref w] [(co, .inr (0, [.int (nI f), .int kd, .int p1, .int q1, .int bn, .int lh, .int mk])), (w, .inr (2, [.ref g])), (g, .inl (cI, 1536, .inl G))] (fun v => v = some (.int (if zden G f kd p1 q1 r then 1 else 0))) := by
  refine zq_roZ (own := RX0) (by decide) rfl rfl (Nat.le_of_ble_eq_true rfl) ?_
  intro p e s m below meth c Q ls hF hP hK hl ret
  obtain ⟨hx, hb, hml, hown, hts⟩ := hF
  have hl : lv_has ls 8 [(0, .ref co), (1, .int (nI r)), (2, .ref w)] := hl
  refine lv_aload_n hx hb dX0_isDeniedBy_0 rfl (lv_at hl 2 rfl) ?_
  refine lv_aload_n hx hb dX0_isDeniedBy_1 rfl (lv_at hl 0 rfl) ?_
  refine zq_get hx hb hts in_X0_isDeniedBy_X0 hown hK hP 0 rfl rfl 0 (by decide) (hts _ w_X0_isDeniedBy__fieldLink_RX0_9_WordsBeside_Claim_function_I__8f8278) rfl dX0_isDeniedBy_2 ?_
  refine lv_iload_n hx hb dX0_isDeniedBy_5 rfl (lv_at hl 1 rfl) ?_
  refine zq_cV (rest := []) ⟨hx, hb, hml, hown, hts⟩ (cn_X2_given l D cI cZ cW cC w g G f r (by omega) (by omega)) (cwV 2 hts gX0_isDeniedBy_X2_given rfl rfl rfl (by decide +kernel) ⟨Nat.le_of_ble_eq_true rfl, Nat.le_of_ble_eq_true rfl⟩) hK (hP.sub [1, 2] rfl) 2 0 rfl rfl rfl hl.1 rfl (Nat.le_of_ble_eq_true rfl) dX0_isDeniedBy_6 ⟨Nat.le_of_ble_eq_true rfl, Nat.le_of_ble_eq_true rfl⟩ (fun v hv => ?_)
  obtain rfl := hv
  refine W.eq (g2 := F0 m 9 ls [.int (G (256 * f + r))]) rfl ?_
  refine lv_istore_n (lv' := [(3, .int (G (256 * f + r))), (0, .ref co), (1, .int (nI r)), (2, .ref w)]) hx hb dX0_isDeniedBy_9 rfl hl (by decide) rfl (fun ls hl => ?_)
  refine lv_iload_n hx hb dX0_isDeniedBy_10 rfl (lv_at hl 0 rfl) ?_
  refine lv_ldc (v := (-2147483648 : Int32)) hx hb hown (hts _ w_X0_isDeniedBy__constant_RX0_48_2147483648__262fa9) dX0_isDeniedBy_11 ?_
  refine lv_icmp_ne (tgt := 20) hx hb dX0_isDeniedBy_13 (by decide) (fun c13 => ?_) (fun c13 => ?_)
  · refine lv_iconst (v := (0 : Int32)) hx hb dX0_isDeniedBy_20 (by decide) ?_
    refine lv_istore (lv' := [(4, .int (0 : Int32)), (3, .int (G (256 * f + r))), (0, .ref co), (1, .int (nI r)), (2, .ref w)]) hx hb dX0_isDeniedBy_21 hl (by decide) rfl (fun ls hl => ?_)
    refine lv_iload_n hx hb dX0_isDeniedBy_23 rfl (lv_at hl 3 rfl) ?_
    refine lv_bipush (v := (nI 16)) hx hb dX0_isDeniedBy_24 (by decide) ?_
    refine lv_idiv hx hb dX0_isDeniedBy_26 (by decide) ?_
    refine zq_te (y := (nI (r / 16))) (pk_div (by omega) (by omega) (by omega)) ?_
    refine lv_istore (lv' := [(5, .int (nI (r / 16))), (4, .int (0 : Int32)), (3, .int (G (256 * f + r))), (0, .ref co), (1, .int (nI r)), (2, .ref w)]) hx hb dX0_isDeniedBy_27 hl (by decide) rfl (fun ls hl => ?_)
    refine lv_iload_n hx hb dX0_isDeniedBy_29 rfl (lv_at hl 4 rfl) ?_
    refine lv_bipush (v := (nI 16)) hx hb dX0_isDeniedBy_30 (by decide) ?_
    refine lv_irem hx hb dX0_isDeniedBy_32 (by decide) ?_
    refine zq_te (y := (nI (r % 16))) (pk_rem (by omega) (by omega) (by omega)) ?_
    refine lv_istore (lv' := [(6, .int (nI (r % 16))), (5, .int (nI (r / 16))), (4, .int (0 : Int32)), (3, .int (G (256 * f + r))), (0, .ref co), (1, .int (nI r)), (2, .ref w)]) hx hb dX0_isDeniedBy_33 hl (by decide) rfl (fun ls hl => ?_)
    refine lv_aload_n hx hb dX0_isDeniedBy_35 rfl (lv_at hl 4 rfl) ?_
    refine zq_get hx hb hts in_X0_isDeniedBy_X0 hown hK hP 0 rfl rfl 1 (by decide) (hts _ w_X0_isDeniedBy__fieldLink_RX0_15_WordsBeside_Claim_kind_I__8744c5) rfl dX0_isDeniedBy_36 ?_
    by_cases k39_0 : kd = (0 : Int32)
    · refine lv_tableIn (tgt := 84) hx hb dX0_isDeniedBy_39 (by rw [k39_0]; decide) (by rw [k39_0]; decide) (by rw [k39_0]; rfl) (by decide) ?_
      refine lv_iload hx hb dX0_isDeniedBy_84 (lv_at hl 2 rfl) ?_
      refine lv_if_ne (tgt := 109) hx hb dX0_isDeniedBy_86 (by decide) (fun c86 => absurd c86 (by decide)) (fun c86 => ?_)
      refine lv_iload_n hx hb dX0_isDeniedBy_89 rfl (lv_at hl 3 rfl) ?_
      refine lv_aload_n hx hb dX0_isDeniedBy_90 rfl (lv_at hl 4 rfl) ?_
      refine zq_get hx hb hts in_X0_isDeniedBy_X0 hown hK hP 0 rfl rfl 2 (by decide) (hts _ w_X0_isDeniedBy__fieldLink_RX0_18_WordsBeside_Claim_p_I__01826a) rfl dX0_isDeniedBy_91 ?_
      refine lv_icmp_lt (tgt := 105) hx hb dX0_isDeniedBy_94 (by decide) (fun c94 => ?_) (fun c94 => ?_)
      · refine lv_iconst (v := (1 : Int32)) hx hb dX0_isDeniedBy_105 (by decide) ?_
        refine lv_goto (tgt := 110) hx hb dX0_isDeniedBy_106 (by decide) ?_
        exact ret _ _ _ (Or.inr rfl) (by simp [zden, c13, k39_0, c94, Int32.not_le.mpr c94]) dX0_isDeniedBy_110
      · refine lv_iload_n hx hb dX0_isDeniedBy_97 rfl (lv_at hl 3 rfl) ?_
        refine lv_aload_n hx hb dX0_isDeniedBy_98 rfl (lv_at hl 4 rfl) ?_
        refine zq_get hx hb hts in_X0_isDeniedBy_X0 hown hK hP 0 rfl rfl 3 (by decide) (hts _ w_X0_isDeniedBy__fieldLink_RX0_21_WordsBeside_Claim_q_I__6ecc41) rfl dX0_isDeniedBy_99 ?_
        refine lv_icmp_le (tgt := 109) hx hb dX0_isDeniedBy_102 (by decide) (fun c102 => ?_) (fun c102 => ?_)
        · refine lv_iconst (v := (0 : Int32)) hx hb dX0_isDeniedBy_109 (by decide) ?_
          exact ret _ _ _ (Or.inl rfl) (by simp [zden, c13, k39_0, c94, Int32.not_lt.mp c94, c102, Int32.not_lt.mpr c102]) dX0_isDeniedBy_110
        · refine lv_iconst (v := (1 : Int32)) hx hb dX0_isDeniedBy_105 (by decide) ?_
          refine lv_goto (tgt := 110) hx hb dX0_isDeniedBy_106 (by decide) ?_
          exact ret _ _ _ (Or.inr rfl) (by simp [zden, c13, k39_0, c94, Int32.not_lt.mp c94, c102, Int32.not_le.mp c102]) dX0_isDeniedBy_110
    · by_cases k39_1 : kd = (1 : Int32)
      · refine lv_tableIn (tgt := 111) hx hb dX0_isDeniedBy_39 (by rw [k39_1]; decide) (by rw [k39_1]; decide) (by rw [k39_1]; rfl) (by decide) ?_
        refine lv_iload hx hb dX0_isDeniedBy_111 (lv_at hl 2 rfl) ?_
        exact ret _ _ _ (Or.inl rfl) (by simp [zden, c13, k39_1]) dX0_isDeniedBy_113
      · by_cases k39_2 : kd = (2 : Int32)
        · refine lv_tableIn (tgt := 114) hx hb dX0_isDeniedBy_39 (by rw [k39_2]; decide) (by rw [k39_2]; decide) (by rw [k39_2]; rfl) (by decide) ?_
          refine lv_aload_n hx hb dX0_isDeniedBy_114 rfl (lv_at hl 6 rfl) ?_
          refine lv_aload_n hx hb dX0_isDeniedBy_115 rfl (lv_at hl 4 rfl) ?_
          refine zq_get hx hb hts in_X0_isDeniedBy_X0 hown hK hP 0 rfl rfl 0 (by decide) (hts _ w_X0_isDeniedBy__fieldLink_RX0_9_WordsBeside_Claim_function_I__8f8278) rfl dX0_isDeniedBy_116 ?_
          refine lv_iload_n hx hb dX0_isDeniedBy_119 rfl (lv_at hl 5 rfl) ?_
          refine lv_bipush (v := (nI 16)) hx hb dX0_isDeniedBy_120 (by decide) ?_
          refine lv_iadd hx hb dX0_isDeniedBy_122 ?_
          refine zq_te (y := (nI (r + 16))) (nI_add _ _) ?_
          refine zq_cV (rest := []) ⟨hx, hb, hml, hown, hts⟩ (zq_ro_mono (c_X2_given l D cI cZ cW cC w g G (nI f) (nI (r + 16))) (fun v h => h.trans (congrArg (fun z => some (Value.int z)) (zg_r16 hf hr)))) (cwV 2 hts gX0_isDeniedBy_X2_given rfl rfl rfl (by decide +kernel) ⟨Nat.le_of_ble_eq_true rfl, Nat.le_of_ble_eq_true rfl⟩) hK (hP.sub [1, 2] rfl) 2 0 rfl rfl rfl hl.1 rfl (Nat.le_of_ble_eq_true rfl) dX0_isDeniedBy_123 ⟨Nat.le_of_ble_eq_true rfl, Nat.le_of_ble_eq_true rfl⟩ (fun v hv => ?_)
          obtain rfl := hv
          refine W.eq (g2 := F0 m 126 ls [.int (zn16 G f r)]) rfl ?_
          refine lv_istore (lv' := [(7, .int (zn16 G f r)), (6, .int (nI (r % 16))), (5, .int (nI (r / 16))), (4, .int (0 : Int32)), (3, .int (G (256 * f + r))), (0, .ref co), (1, .int (nI r)), (2, .ref w)]) hx hb dX0_isDeniedBy_126 hl (by decide) rfl (fun ls hl => ?_)
          refine lv_iload hx hb dX0_isDeniedBy_128 (lv_at hl 3 rfl) ?_
          refine lv_if_ne (tgt := 150) hx hb dX0_isDeniedBy_130 (by decide) (fun c130 => absurd c130 (by decide)) (fun c130 => ?_)
          refine lv_iload hx hb dX0_isDeniedBy_133 (lv_at hl 0 rfl) ?_
          refine lv_ldc (v := (-2147483648 : Int32)) hx hb hown (hts _ w_X0_isDeniedBy__constant_RX0_48_2147483648__262fa9) dX0_isDeniedBy_135 ?_
          refine lv_icmp_eq (tgt := 150) hx hb dX0_isDeniedBy_137 (by decide) (fun c137 => ?_) (fun c137 => ?_)
          · refine lv_iconst (v := (0 : Int32)) hx hb dX0_isDeniedBy_150 (by decide) ?_
            exact ret _ _ _ (Or.inl rfl) (by simp [zden, c13, k39_2, c137]) dX0_isDeniedBy_151
          · refine lv_iload hx hb dX0_isDeniedBy_140 (lv_at hl 0 rfl) ?_
            refine lv_iload_n hx hb dX0_isDeniedBy_142 rfl (lv_at hl 4 rfl) ?_
            refine lv_icmp_ge (tgt := 150) hx hb dX0_isDeniedBy_143 (by decide) (fun c143 => ?_) (fun c143 => ?_)
            · refine lv_iconst (v := (0 : Int32)) hx hb dX0_isDeniedBy_150 (by decide) ?_
              exact ret _ _ _ (Or.inl rfl) (by simp [zden, c13, k39_2, c137, c143, Int32.not_lt.mpr c143]) dX0_isDeniedBy_151
            · refine lv_iconst (v := (1 : Int32)) hx hb dX0_isDeniedBy_146 (by decide) ?_
              refine lv_goto (tgt := 151) hx hb dX0_isDeniedBy_147 (by decide) ?_
              exact ret _ _ _ (Or.inr rfl) (by simp [zden, c13, k39_2, c137, c143, Int32.not_le.mp c143]) dX0_isDeniedBy_151
        · by_cases k39_3 : kd = (3 : Int32)
          · refine lv_tableIn (tgt := 152) hx hb dX0_isDeniedBy_39 (by rw [k39_3]; decide) (by rw [k39_3]; decide) (by rw [k39_3]; rfl) (by decide) ?_
            refine lv_iload hx hb dX0_isDeniedBy_152 (lv_at hl 2 rfl) ?_
            refine lv_if_ne (tgt := 177) hx hb dX0_isDeniedBy_154 (by decide) (fun c154 => absurd c154 (by decide)) (fun c154 => ?_)
            refine lv_aload_n hx hb dX0_isDeniedBy_157 rfl (lv_at hl 4 rfl) ?_
            refine zq_get hx hb hts in_X0_isDeniedBy_X0 hown hK hP 0 rfl rfl 2 (by decide) (hts _ w_X0_isDeniedBy__fieldLink_RX0_18_WordsBeside_Claim_p_I__01826a) rfl dX0_isDeniedBy_158 ?_
            refine lv_if_le (tgt := 177) hx hb dX0_isDeniedBy_161 (by decide) (fun c161 => ?_) (fun c161 => ?_)
            · refine lv_iconst (v := (0 : Int32)) hx hb dX0_isDeniedBy_177 (by decide) ?_
              exact ret _ _ _ (Or.inl rfl) (by simp [zden, c13, k39_3, c161, Int32.not_lt.mpr c161]) dX0_isDeniedBy_178
            · refine lv_iload_n hx hb dX0_isDeniedBy_164 rfl (lv_at hl 3 rfl) ?_
              refine lv_aload_n hx hb dX0_isDeniedBy_165 rfl (lv_at hl 4 rfl) ?_
              refine zq_get hx hb hts in_X0_isDeniedBy_X0 hown hK hP 0 rfl rfl 2 (by decide) (hts _ w_X0_isDeniedBy__fieldLink_RX0_18_WordsBeside_Claim_p_I__01826a) rfl dX0_isDeniedBy_166 ?_
              refine lv_irem hx hb dX0_isDeniedBy_169 (fun h => c161 (by rw [h]; decide)) ?_
              refine lv_if_eq (tgt := 177) hx hb dX0_isDeniedBy_170 (by decide) (fun c170 => ?_) (fun c170 => ?_)
              · refine lv_iconst (v := (0 : Int32)) hx hb dX0_isDeniedBy_177 (by decide) ?_
                exact ret _ _ _ (Or.inl rfl) (by simp [zden, c13, k39_3, c161, Int32.not_le.mp c161, c170]) dX0_isDeniedBy_178
              · refine lv_iconst (v := (1 : Int32)) hx hb dX0_isDeniedBy_173 (by decide) ?_
                refine lv_goto (tgt := 178) hx hb dX0_isDeniedBy_174 (by decide) ?_
                exact ret _ _ _ (Or.inr rfl) (by simp [zden, c13, k39_3, c161, Int32.not_le.mp c161, c170]) dX0_isDeniedBy_178
          · by_cases k39_4 : kd = (4 : Int32)
            · refine lv_tableIn (tgt := 179) hx hb dX0_isDeniedBy_39 (by rw [k39_4]; decide) (by rw [k39_4]; decide) (by rw [k39_4]; rfl) (by decide) ?_
              refine lv_iload_n hx hb dX0_isDeniedBy_179 rfl (lv_at hl 3 rfl) ?_
              refine lv_aload_n hx hb dX0_isDeniedBy_180 rfl (lv_at hl 6 rfl) ?_
              refine lv_aload_n hx hb dX0_isDeniedBy_181 rfl (lv_at hl 4 rfl) ?_
              refine zq_get hx hb hts in_X0_isDeniedBy_X0 hown hK hP 0 rfl rfl 0 (by decide) (hts _ w_X0_isDeniedBy__fieldLink_RX0_9_WordsBeside_Claim_function_I__8f8278) rfl dX0_isDeniedBy_182 ?_
              refine lv_iload hx hb dX0_isDeniedBy_185 (lv_at hl 0 rfl) ?_
              refine lv_bipush (v := (nI 16)) hx hb dX0_isDeniedBy_187 (by decide) ?_
              refine lv_imul hx hb dX0_isDeniedBy_189 ?_
              refine zq_te (y := (nI (r % 16 * 16))) (pk_mul _ _) ?_
              refine lv_iload hx hb dX0_isDeniedBy_190 (lv_at hl 1 rfl) ?_
              refine lv_iadd hx hb dX0_isDeniedBy_192 ?_
              refine zq_te (y := (nI (r % 16 * 16 + r / 16))) (nI_add _ _) ?_
              refine zq_cV (rest := [.int (G (256 * f + r))]) ⟨hx, hb, hml, hown, hts⟩ (cn_X2_given l D cI cZ cW cC w g G f (r % 16 * 16 + r / 16) (by omega) (by omega)) (cwV 2 hts gX0_isDeniedBy_X2_given rfl rfl rfl (by decide +kernel) ⟨Nat.le_of_ble_eq_true rfl, Nat.le_of_ble_eq_true rfl⟩) hK (hP.sub [1, 2] rfl) 2 0 rfl rfl rfl hl.1 rfl (Nat.le_of_ble_eq_true rfl) dX0_isDeniedBy_193 ⟨Nat.le_of_ble_eq_true rfl, Nat.le_of_ble_eq_true rfl⟩ (fun v hv => ?_)
              obtain rfl := hv
              refine W.eq (g2 := F0 m 196 ls [.int (G (256 * f + (r % 16 * 16 + r / 16))), .int (G (256 * f + r))]) rfl ?_
              refine lv_icmp_eq (tgt := 203) hx hb dX0_isDeniedBy_196 (by decide) (fun c196 => ?_) (fun c196 => ?_)
              · refine lv_iconst (v := (0 : Int32)) hx hb dX0_isDeniedBy_203 (by decide) ?_
                exact ret _ _ _ (Or.inl rfl) (by simp [zden, k39_4, c196]) dX0_isDeniedBy_204
              · refine lv_iconst (v := (1 : Int32)) hx hb dX0_isDeniedBy_199 (by decide) ?_
                refine lv_goto (tgt := 204) hx hb dX0_isDeniedBy_200 (by decide) ?_
                exact ret _ _ _ (Or.inr rfl) (by simp [zden, k39_4, c196]) dX0_isDeniedBy_204
            · by_cases k39_5 : kd = (5 : Int32)
              · refine lv_tableIn (tgt := 205) hx hb dX0_isDeniedBy_39 (by rw [k39_5]; decide) (by rw [k39_5]; decide) (by rw [k39_5]; rfl) (by decide) ?_
                refine lv_iload_n hx hb dX0_isDeniedBy_205 rfl (lv_at hl 5 rfl) ?_
                refine lv_aload_n hx hb dX0_isDeniedBy_206 rfl (lv_at hl 4 rfl) ?_
                refine zq_get hx hb hts in_X0_isDeniedBy_X0 hown hK hP 0 rfl rfl 2 (by decide) (hts _ w_X0_isDeniedBy__fieldLink_RX0_18_WordsBeside_Claim_p_I__01826a) rfl dX0_isDeniedBy_207 ?_
                refine lv_icmp_ne (tgt := 225) hx hb dX0_isDeniedBy_210 (by decide) (fun c210 => ?_) (fun c210 => ?_)
                · refine lv_iconst (v := (0 : Int32)) hx hb dX0_isDeniedBy_225 (by decide) ?_
                  exact ret _ _ _ (Or.inl rfl) (by simp [zden, k39_5, c210]) dX0_isDeniedBy_226
                · refine lv_iload_n hx hb dX0_isDeniedBy_213 rfl (lv_at hl 3 rfl) ?_
                  refine lv_aload_n hx hb dX0_isDeniedBy_214 rfl (lv_at hl 4 rfl) ?_
                  refine zq_get hx hb hts in_X0_isDeniedBy_X0 hown hK hP 0 rfl rfl 3 (by decide) (hts _ w_X0_isDeniedBy__fieldLink_RX0_21_WordsBeside_Claim_q_I__6ecc41) rfl dX0_isDeniedBy_215 ?_
                  refine lv_icmp_eq (tgt := 225) hx hb dX0_isDeniedBy_218 (by decide) (fun c218 => ?_) (fun c218 => ?_)
                  · refine lv_iconst (v := (0 : Int32)) hx hb dX0_isDeniedBy_225 (by decide) ?_
                    exact ret _ _ _ (Or.inl rfl) (by simp [zden, k39_5, c210, c218]) dX0_isDeniedBy_226
                  · refine lv_iconst (v := (1 : Int32)) hx hb dX0_isDeniedBy_221 (by decide) ?_
                    refine lv_goto (tgt := 226) hx hb dX0_isDeniedBy_222 (by decide) ?_
                    exact ret _ _ _ (Or.inr rfl) (by simp [zden, k39_5, c210, c218]) dX0_isDeniedBy_226
              · by_cases k39_6 : kd = (6 : Int32)
                · refine lv_tableIn (tgt := 227) hx hb dX0_isDeniedBy_39 (by rw [k39_6]; decide) (by rw [k39_6]; decide) (by rw [k39_6]; rfl) (by decide) ?_
                  refine lv_iload hx hb dX0_isDeniedBy_227 (lv_at hl 2 rfl) ?_
                  refine lv_iload hx hb dX0_isDeniedBy_229 (lv_at hl 1 rfl) ?_
                  refine lv_aload_n hx hb dX0_isDeniedBy_231 rfl (lv_at hl 4 rfl) ?_
                  refine zq_get hx hb hts in_X0_isDeniedBy_X0 hown hK hP 0 rfl rfl 2 (by decide) (hts _ w_X0_isDeniedBy__fieldLink_RX0_18_WordsBeside_Claim_p_I__01826a) rfl dX0_isDeniedBy_232 ?_
                  refine lv_icmp_ge (tgt := 242) hx hb dX0_isDeniedBy_235 (by decide) (fun c235 => ?_) (fun c235 => ?_)
                  · refine lv_iconst (v := (0 : Int32)) hx hb dX0_isDeniedBy_242 (by decide) ?_
                    refine lv_icmp_ne (tgt := 250) hx hb dX0_isDeniedBy_243 (by decide) (fun c243 => absurd c243 (by decide)) (fun c243 => ?_)
                    refine lv_iconst (v := (1 : Int32)) hx hb dX0_isDeniedBy_246 (by decide) ?_
                    refine lv_goto (tgt := 251) hx hb dX0_isDeniedBy_247 (by decide) ?_
                    exact ret _ _ _ (Or.inr rfl) (by simp [zden, c13, k39_6, c235, Int32.not_lt.mpr c235]) dX0_isDeniedBy_251
                  · refine lv_iconst (v := (1 : Int32)) hx hb dX0_isDeniedBy_238 (by decide) ?_
                    refine lv_goto (tgt := 243) hx hb dX0_isDeniedBy_239 (by decide) ?_
                    refine lv_icmp_ne (tgt := 250) hx hb dX0_isDeniedBy_243 (by decide) (fun c243 => ?_) (fun c243 => absurd c243 (by decide))
                    refine lv_iconst (v := (0 : Int32)) hx hb dX0_isDeniedBy_250 (by decide) ?_
                    exact ret _ _ _ (Or.inl rfl) (by simp [zden, c13, k39_6, c235, Int32.not_le.mp c235]) dX0_isDeniedBy_251
                · by_cases k39_7 : kd = (7 : Int32)
                  · refine lv_tableIn (tgt := 252) hx hb dX0_isDeniedBy_39 (by rw [k39_7]; decide) (by rw [k39_7]; decide) (by rw [k39_7]; rfl) (by decide) ?_
                    refine lv_iload_n hx hb dX0_isDeniedBy_252 rfl (lv_at hl 3 rfl) ?_
                    refine lv_aload_n hx hb dX0_isDeniedBy_253 rfl (lv_at hl 6 rfl) ?_
                    refine lv_aload_n hx hb dX0_isDeniedBy_254 rfl (lv_at hl 4 rfl) ?_
                    refine zq_get hx hb hts in_X0_isDeniedBy_X0 hown hK hP 0 rfl rfl 2 (by decide) (hts _ w_X0_isDeniedBy__fieldLink_RX0_18_WordsBeside_Claim_p_I__01826a) rfl dX0_isDeniedBy_255 ?_
                    refine lv_iload_n hx hb dX0_isDeniedBy_258 rfl (lv_at hl 5 rfl) ?_
                    refine zq_cV (rest := [.int (G (256 * f + r))]) ⟨hx, hb, hml, hown, hts⟩ (zq_ro_mono (c_X2_given l D cI cZ cW cC w g G p1 (nI r)) (fun v h => h.trans (congrArg (fun z => some (Value.int z)) (zg_p hr)))) (cwV 2 hts gX0_isDeniedBy_X2_given rfl rfl rfl (by decide +kernel) ⟨Nat.le_of_ble_eq_true rfl, Nat.le_of_ble_eq_true rfl⟩) hK (hP.sub [1, 2] rfl) 2 0 rfl rfl rfl hl.1 rfl (Nat.le_of_ble_eq_true rfl) dX0_isDeniedBy_259 ⟨Nat.le_of_ble_eq_true rfl, Nat.le_of_ble_eq_true rfl⟩ (fun v hv => ?_)
                    obtain rfl := hv
                    refine W.eq (g2 := F0 m 262 ls [.int (zgp G p1 r), .int (G (256 * f + r))]) rfl ?_
                    refine lv_icmp_eq (tgt := 269) hx hb dX0_isDeniedBy_262 (by decide) (fun c262 => ?_) (fun c262 => ?_)
                    · refine lv_iconst (v := (0 : Int32)) hx hb dX0_isDeniedBy_269 (by decide) ?_
                      exact ret _ _ _ (Or.inl rfl) (by simp [zden, k39_7, c262]) dX0_isDeniedBy_270
                    · refine lv_iconst (v := (1 : Int32)) hx hb dX0_isDeniedBy_265 (by decide) ?_
                      refine lv_goto (tgt := 270) hx hb dX0_isDeniedBy_266 (by decide) ?_
                      exact ret _ _ _ (Or.inr rfl) (by simp [zden, k39_7, c262]) dX0_isDeniedBy_270
                  · refine lv_tableOut (tgt := 271) hx hb dX0_isDeniedBy_39 (by have k39_0T := lv_neT k39_0 (a := 0) rfl; have k39_1T := lv_neT k39_1 (a := 1) rfl; have k39_2T := lv_neT k39_2 (a := 2) rfl; have k39_3T := lv_neT k39_3 (a := 3) rfl; have k39_4T := lv_neT k39_4 (a := 4) rfl; have k39_5T := lv_neT k39_5 (a := 5) rfl; have k39_6T := lv_neT k39_6 (a := 6) rfl; have k39_7T := lv_neT k39_7 (a := 7) rfl; omega) (by decide) ?_
                    refine lv_iconst (v := (0 : Int32)) hx hb dX0_isDeniedBy_271 (by decide) ?_
                    exact ret _ _ _ (Or.inl rfl) (by simp [zden, k39_0, k39_1, k39_2, k39_3, k39_4, k39_5, k39_6, k39_7]) dX0_isDeniedBy_272
  · refine lv_iconst (v := (1 : Int32)) hx hb dX0_isDeniedBy_16 (by decide) ?_
    refine lv_goto (tgt := 21) hx hb dX0_isDeniedBy_17 (by decide) ?_
    refine lv_istore (lv' := [(4, .int (1 : Int32)), (3, .int (G (256 * f + r))), (0, .ref co), (1, .int (nI r)), (2, .ref w)]) hx hb dX0_isDeniedBy_21 hl (by decide) rfl (fun ls hl => ?_)
    refine lv_iload_n hx hb dX0_isDeniedBy_23 rfl (lv_at hl 3 rfl) ?_
    refine lv_bipush (v := (nI 16)) hx hb dX0_isDeniedBy_24 (by decide) ?_
    refine lv_idiv hx hb dX0_isDeniedBy_26 (by decide) ?_
    refine zq_te (y := (nI (r / 16))) (pk_div (by omega) (by omega) (by omega)) ?_
    refine lv_istore (lv' := [(5, .int (nI (r / 16))), (4, .int (1 : Int32)), (3, .int (G (256 * f + r))), (0, .ref co), (1, .int (nI r)), (2, .ref w)]) hx hb dX0_isDeniedBy_27 hl (by decide) rfl (fun ls hl => ?_)
    refine lv_iload_n hx hb dX0_isDeniedBy_29 rfl (lv_at hl 4 rfl) ?_
    refine lv_bipush (v := (nI 16)) hx hb dX0_isDeniedBy_30 (by decide) ?_
    refine lv_irem hx hb dX0_isDeniedBy_32 (by decide) ?_
    refine zq_te (y := (nI (r % 16))) (pk_rem (by omega) (by omega) (by omega)) ?_
    refine lv_istore (lv' := [(6, .int (nI (r % 16))), (5, .int (nI (r / 16))), (4, .int (1 : Int32)), (3, .int (G (256 * f + r))), (0, .ref co), (1, .int (nI r)), (2, .ref w)]) hx hb dX0_isDeniedBy_33 hl (by decide) rfl (fun ls hl => ?_)
    refine lv_aload_n hx hb dX0_isDeniedBy_35 rfl (lv_at hl 4 rfl) ?_
    refine zq_get hx hb hts in_X0_isDeniedBy_X0 hown hK hP 0 rfl rfl 1 (by decide) (hts _ w_X0_isDeniedBy__fieldLink_RX0_15_WordsBeside_Claim_kind_I__8744c5) rfl dX0_isDeniedBy_36 ?_
    by_cases k39_0 : kd = (0 : Int32)
    · refine lv_tableIn (tgt := 84) hx hb dX0_isDeniedBy_39 (by rw [k39_0]; decide) (by rw [k39_0]; decide) (by rw [k39_0]; rfl) (by decide) ?_
      refine lv_iload hx hb dX0_isDeniedBy_84 (lv_at hl 2 rfl) ?_
      refine lv_if_ne (tgt := 109) hx hb dX0_isDeniedBy_86 (by decide) (fun c86 => ?_) (fun c86 => absurd c86 (by decide))
      refine lv_iconst (v := (0 : Int32)) hx hb dX0_isDeniedBy_109 (by decide) ?_
      exact ret _ _ _ (Or.inl rfl) (by simp [zden, c13, k39_0]) dX0_isDeniedBy_110
    · by_cases k39_1 : kd = (1 : Int32)
      · refine lv_tableIn (tgt := 111) hx hb dX0_isDeniedBy_39 (by rw [k39_1]; decide) (by rw [k39_1]; decide) (by rw [k39_1]; rfl) (by decide) ?_
        refine lv_iload hx hb dX0_isDeniedBy_111 (lv_at hl 2 rfl) ?_
        exact ret _ _ _ (Or.inr rfl) (by simp [zden, c13, k39_1]) dX0_isDeniedBy_113
      · by_cases k39_2 : kd = (2 : Int32)
        · refine lv_tableIn (tgt := 114) hx hb dX0_isDeniedBy_39 (by rw [k39_2]; decide) (by rw [k39_2]; decide) (by rw [k39_2]; rfl) (by decide) ?_
          refine lv_aload_n hx hb dX0_isDeniedBy_114 rfl (lv_at hl 6 rfl) ?_
          refine lv_aload_n hx hb dX0_isDeniedBy_115 rfl (lv_at hl 4 rfl) ?_
          refine zq_get hx hb hts in_X0_isDeniedBy_X0 hown hK hP 0 rfl rfl 0 (by decide) (hts _ w_X0_isDeniedBy__fieldLink_RX0_9_WordsBeside_Claim_function_I__8f8278) rfl dX0_isDeniedBy_116 ?_
          refine lv_iload_n hx hb dX0_isDeniedBy_119 rfl (lv_at hl 5 rfl) ?_
          refine lv_bipush (v := (nI 16)) hx hb dX0_isDeniedBy_120 (by decide) ?_
          refine lv_iadd hx hb dX0_isDeniedBy_122 ?_
          refine zq_te (y := (nI (r + 16))) (nI_add _ _) ?_
          refine zq_cV (rest := []) ⟨hx, hb, hml, hown, hts⟩ (zq_ro_mono (c_X2_given l D cI cZ cW cC w g G (nI f) (nI (r + 16))) (fun v h => h.trans (congrArg (fun z => some (Value.int z)) (zg_r16 hf hr)))) (cwV 2 hts gX0_isDeniedBy_X2_given rfl rfl rfl (by decide +kernel) ⟨Nat.le_of_ble_eq_true rfl, Nat.le_of_ble_eq_true rfl⟩) hK (hP.sub [1, 2] rfl) 2 0 rfl rfl rfl hl.1 rfl (Nat.le_of_ble_eq_true rfl) dX0_isDeniedBy_123 ⟨Nat.le_of_ble_eq_true rfl, Nat.le_of_ble_eq_true rfl⟩ (fun v hv => ?_)
          obtain rfl := hv
          refine W.eq (g2 := F0 m 126 ls [.int (zn16 G f r)]) rfl ?_
          refine lv_istore (lv' := [(7, .int (zn16 G f r)), (6, .int (nI (r % 16))), (5, .int (nI (r / 16))), (4, .int (1 : Int32)), (3, .int (G (256 * f + r))), (0, .ref co), (1, .int (nI r)), (2, .ref w)]) hx hb dX0_isDeniedBy_126 hl (by decide) rfl (fun ls hl => ?_)
          refine lv_iload hx hb dX0_isDeniedBy_128 (lv_at hl 3 rfl) ?_
          refine lv_if_ne (tgt := 150) hx hb dX0_isDeniedBy_130 (by decide) (fun c130 => ?_) (fun c130 => absurd c130 (by decide))
          refine lv_iconst (v := (0 : Int32)) hx hb dX0_isDeniedBy_150 (by decide) ?_
          exact ret _ _ _ (Or.inl rfl) (by simp [zden, c13, k39_2]) dX0_isDeniedBy_151
        · by_cases k39_3 : kd = (3 : Int32)
          · refine lv_tableIn (tgt := 152) hx hb dX0_isDeniedBy_39 (by rw [k39_3]; decide) (by rw [k39_3]; decide) (by rw [k39_3]; rfl) (by decide) ?_
            refine lv_iload hx hb dX0_isDeniedBy_152 (lv_at hl 2 rfl) ?_
            refine lv_if_ne (tgt := 177) hx hb dX0_isDeniedBy_154 (by decide) (fun c154 => ?_) (fun c154 => absurd c154 (by decide))
            refine lv_iconst (v := (0 : Int32)) hx hb dX0_isDeniedBy_177 (by decide) ?_
            exact ret _ _ _ (Or.inl rfl) (by simp [zden, c13, k39_3]) dX0_isDeniedBy_178
          · by_cases k39_4 : kd = (4 : Int32)
            · refine lv_tableIn (tgt := 179) hx hb dX0_isDeniedBy_39 (by rw [k39_4]; decide) (by rw [k39_4]; decide) (by rw [k39_4]; rfl) (by decide) ?_
              refine lv_iload_n hx hb dX0_isDeniedBy_179 rfl (lv_at hl 3 rfl) ?_
              refine lv_aload_n hx hb dX0_isDeniedBy_180 rfl (lv_at hl 6 rfl) ?_
              refine lv_aload_n hx hb dX0_isDeniedBy_181 rfl (lv_at hl 4 rfl) ?_
              refine zq_get hx hb hts in_X0_isDeniedBy_X0 hown hK hP 0 rfl rfl 0 (by decide) (hts _ w_X0_isDeniedBy__fieldLink_RX0_9_WordsBeside_Claim_function_I__8f8278) rfl dX0_isDeniedBy_182 ?_
              refine lv_iload hx hb dX0_isDeniedBy_185 (lv_at hl 0 rfl) ?_
              refine lv_bipush (v := (nI 16)) hx hb dX0_isDeniedBy_187 (by decide) ?_
              refine lv_imul hx hb dX0_isDeniedBy_189 ?_
              refine zq_te (y := (nI (r % 16 * 16))) (pk_mul _ _) ?_
              refine lv_iload hx hb dX0_isDeniedBy_190 (lv_at hl 1 rfl) ?_
              refine lv_iadd hx hb dX0_isDeniedBy_192 ?_
              refine zq_te (y := (nI (r % 16 * 16 + r / 16))) (nI_add _ _) ?_
              refine zq_cV (rest := [.int (G (256 * f + r))]) ⟨hx, hb, hml, hown, hts⟩ (cn_X2_given l D cI cZ cW cC w g G f (r % 16 * 16 + r / 16) (by omega) (by omega)) (cwV 2 hts gX0_isDeniedBy_X2_given rfl rfl rfl (by decide +kernel) ⟨Nat.le_of_ble_eq_true rfl, Nat.le_of_ble_eq_true rfl⟩) hK (hP.sub [1, 2] rfl) 2 0 rfl rfl rfl hl.1 rfl (Nat.le_of_ble_eq_true rfl) dX0_isDeniedBy_193 ⟨Nat.le_of_ble_eq_true rfl, Nat.le_of_ble_eq_true rfl⟩ (fun v hv => ?_)
              obtain rfl := hv
              refine W.eq (g2 := F0 m 196 ls [.int (G (256 * f + (r % 16 * 16 + r / 16))), .int (G (256 * f + r))]) rfl ?_
              refine lv_icmp_eq (tgt := 203) hx hb dX0_isDeniedBy_196 (by decide) (fun c196 => ?_) (fun c196 => ?_)
              · refine lv_iconst (v := (0 : Int32)) hx hb dX0_isDeniedBy_203 (by decide) ?_
                exact ret _ _ _ (Or.inl rfl) (by simp [zden, k39_4, c196]) dX0_isDeniedBy_204
              · refine lv_iconst (v := (1 : Int32)) hx hb dX0_isDeniedBy_199 (by decide) ?_
                refine lv_goto (tgt := 204) hx hb dX0_isDeniedBy_200 (by decide) ?_
                exact ret _ _ _ (Or.inr rfl) (by simp [zden, k39_4, c196]) dX0_isDeniedBy_204
            · by_cases k39_5 : kd = (5 : Int32)
              · refine lv_tableIn (tgt := 205) hx hb dX0_isDeniedBy_39 (by rw [k39_5]; decide) (by rw [k39_5]; decide) (by rw [k39_5]; rfl) (by decide) ?_
                refine lv_iload_n hx hb dX0_isDeniedBy_205 rfl (lv_at hl 5 rfl) ?_
                refine lv_aload_n hx hb dX0_isDeniedBy_206 rfl (lv_at hl 4 rfl) ?_
                refine zq_get hx hb hts in_X0_isDeniedBy_X0 hown hK hP 0 rfl rfl 2 (by decide) (hts _ w_X0_isDeniedBy__fieldLink_RX0_18_WordsBeside_Claim_p_I__01826a) rfl dX0_isDeniedBy_207 ?_
                refine lv_icmp_ne (tgt := 225) hx hb dX0_isDeniedBy_210 (by decide) (fun c210 => ?_) (fun c210 => ?_)
                · refine lv_iconst (v := (0 : Int32)) hx hb dX0_isDeniedBy_225 (by decide) ?_
                  exact ret _ _ _ (Or.inl rfl) (by simp [zden, k39_5, c210]) dX0_isDeniedBy_226
                · refine lv_iload_n hx hb dX0_isDeniedBy_213 rfl (lv_at hl 3 rfl) ?_
                  refine lv_aload_n hx hb dX0_isDeniedBy_214 rfl (lv_at hl 4 rfl) ?_
                  refine zq_get hx hb hts in_X0_isDeniedBy_X0 hown hK hP 0 rfl rfl 3 (by decide) (hts _ w_X0_isDeniedBy__fieldLink_RX0_21_WordsBeside_Claim_q_I__6ecc41) rfl dX0_isDeniedBy_215 ?_
                  refine lv_icmp_eq (tgt := 225) hx hb dX0_isDeniedBy_218 (by decide) (fun c218 => ?_) (fun c218 => ?_)
                  · refine lv_iconst (v := (0 : Int32)) hx hb dX0_isDeniedBy_225 (by decide) ?_
                    exact ret _ _ _ (Or.inl rfl) (by simp [zden, k39_5, c210, c218]) dX0_isDeniedBy_226
                  · refine lv_iconst (v := (1 : Int32)) hx hb dX0_isDeniedBy_221 (by decide) ?_
                    refine lv_goto (tgt := 226) hx hb dX0_isDeniedBy_222 (by decide) ?_
                    exact ret _ _ _ (Or.inr rfl) (by simp [zden, k39_5, c210, c218]) dX0_isDeniedBy_226
              · by_cases k39_6 : kd = (6 : Int32)
                · refine lv_tableIn (tgt := 227) hx hb dX0_isDeniedBy_39 (by rw [k39_6]; decide) (by rw [k39_6]; decide) (by rw [k39_6]; rfl) (by decide) ?_
                  refine lv_iload hx hb dX0_isDeniedBy_227 (lv_at hl 2 rfl) ?_
                  refine lv_iload hx hb dX0_isDeniedBy_229 (lv_at hl 1 rfl) ?_
                  refine lv_aload_n hx hb dX0_isDeniedBy_231 rfl (lv_at hl 4 rfl) ?_
                  refine zq_get hx hb hts in_X0_isDeniedBy_X0 hown hK hP 0 rfl rfl 2 (by decide) (hts _ w_X0_isDeniedBy__fieldLink_RX0_18_WordsBeside_Claim_p_I__01826a) rfl dX0_isDeniedBy_232 ?_
                  refine lv_icmp_ge (tgt := 242) hx hb dX0_isDeniedBy_235 (by decide) (fun c235 => ?_) (fun c235 => ?_)
                  · refine lv_iconst (v := (0 : Int32)) hx hb dX0_isDeniedBy_242 (by decide) ?_
                    refine lv_icmp_ne (tgt := 250) hx hb dX0_isDeniedBy_243 (by decide) (fun c243 => ?_) (fun c243 => absurd c243 (by decide))
                    refine lv_iconst (v := (0 : Int32)) hx hb dX0_isDeniedBy_250 (by decide) ?_
                    exact ret _ _ _ (Or.inl rfl) (by simp [zden, c13, k39_6, c235, Int32.not_lt.mpr c235]) dX0_isDeniedBy_251
                  · refine lv_iconst (v := (1 : Int32)) hx hb dX0_isDeniedBy_238 (by decide) ?_
                    refine lv_goto (tgt := 243) hx hb dX0_isDeniedBy_239 (by decide) ?_
                    refine lv_icmp_ne (tgt := 250) hx hb dX0_isDeniedBy_243 (by decide) (fun c243 => absurd c243 (by decide)) (fun c243 => ?_)
                    refine lv_iconst (v := (1 : Int32)) hx hb dX0_isDeniedBy_246 (by decide) ?_
                    refine lv_goto (tgt := 251) hx hb dX0_isDeniedBy_247 (by decide) ?_
                    exact ret _ _ _ (Or.inr rfl) (by simp [zden, c13, k39_6, c235, Int32.not_le.mp c235]) dX0_isDeniedBy_251
                · by_cases k39_7 : kd = (7 : Int32)
                  · refine lv_tableIn (tgt := 252) hx hb dX0_isDeniedBy_39 (by rw [k39_7]; decide) (by rw [k39_7]; decide) (by rw [k39_7]; rfl) (by decide) ?_
                    refine lv_iload_n hx hb dX0_isDeniedBy_252 rfl (lv_at hl 3 rfl) ?_
                    refine lv_aload_n hx hb dX0_isDeniedBy_253 rfl (lv_at hl 6 rfl) ?_
                    refine lv_aload_n hx hb dX0_isDeniedBy_254 rfl (lv_at hl 4 rfl) ?_
                    refine zq_get hx hb hts in_X0_isDeniedBy_X0 hown hK hP 0 rfl rfl 2 (by decide) (hts _ w_X0_isDeniedBy__fieldLink_RX0_18_WordsBeside_Claim_p_I__01826a) rfl dX0_isDeniedBy_255 ?_
                    refine lv_iload_n hx hb dX0_isDeniedBy_258 rfl (lv_at hl 5 rfl) ?_
                    refine zq_cV (rest := [.int (G (256 * f + r))]) ⟨hx, hb, hml, hown, hts⟩ (zq_ro_mono (c_X2_given l D cI cZ cW cC w g G p1 (nI r)) (fun v h => h.trans (congrArg (fun z => some (Value.int z)) (zg_p hr)))) (cwV 2 hts gX0_isDeniedBy_X2_given rfl rfl rfl (by decide +kernel) ⟨Nat.le_of_ble_eq_true rfl, Nat.le_of_ble_eq_true rfl⟩) hK (hP.sub [1, 2] rfl) 2 0 rfl rfl rfl hl.1 rfl (Nat.le_of_ble_eq_true rfl) dX0_isDeniedBy_259 ⟨Nat.le_of_ble_eq_true rfl, Nat.le_of_ble_eq_true rfl⟩ (fun v hv => ?_)
                    obtain rfl := hv
                    refine W.eq (g2 := F0 m 262 ls [.int (zgp G p1 r), .int (G (256 * f + r))]) rfl ?_
                    refine lv_icmp_eq (tgt := 269) hx hb dX0_isDeniedBy_262 (by decide) (fun c262 => ?_) (fun c262 => ?_)
                    · refine lv_iconst (v := (0 : Int32)) hx hb dX0_isDeniedBy_269 (by decide) ?_
                      exact ret _ _ _ (Or.inl rfl) (by simp [zden, k39_7, c262]) dX0_isDeniedBy_270
                    · refine lv_iconst (v := (1 : Int32)) hx hb dX0_isDeniedBy_265 (by decide) ?_
                      refine lv_goto (tgt := 270) hx hb dX0_isDeniedBy_266 (by decide) ?_
                      exact ret _ _ _ (Or.inr rfl) (by simp [zden, k39_7, c262]) dX0_isDeniedBy_270
                  · refine lv_tableOut (tgt := 271) hx hb dX0_isDeniedBy_39 (by have k39_0T := lv_neT k39_0 (a := 0) rfl; have k39_1T := lv_neT k39_1 (a := 1) rfl; have k39_2T := lv_neT k39_2 (a := 2) rfl; have k39_3T := lv_neT k39_3 (a := 3) rfl; have k39_4T := lv_neT k39_4 (a := 4) rfl; have k39_5T := lv_neT k39_5 (a := 5) rfl; have k39_6T := lv_neT k39_6 (a := 6) rfl; have k39_7T := lv_neT k39_7 (a := 7) rfl; omega) (by decide) ?_
                    refine lv_iconst (v := (0 : Int32)) hx hb dX0_isDeniedBy_271 (by decide) ?_
                    exact ret _ _ _ (Or.inl rfl) (by simp [zden, k39_0, k39_1, k39_2, k39_3, k39_4, k39_5, k39_6, k39_7]) dX0_isDeniedBy_272
set_option maxHeartbeats 4000000 in
set_option maxRecDepth 100000 in
theorem c_X0_firstDenialIn (l : Launch) (D : va_G) (cI cZ cW cC : ClassId) (co w g : Nat) (G : Nat → Int32) (f : Nat) (hf : f < 6) (kd p1 q1 bn lh mk : Int32) : zq_ro l D cI cZ cW cC yX0_firstDenialIn wsX0_firstDenialIn ({ frames := 2, cells := 0, slots := 0, locals := 49 } : Room) [.ref co, .ref w] [(co, .inr (0, [.int (nI f), .int kd, .int p1, .int q1, .int bn, .int lh, .int mk])), (w, .inr (2, [.ref g])), (g, .inl (cI, 1536, .inl G))] (fun v => v = some (.int (if fa_first (zden G f kd p1 q1) 256 < 256 then nI (fa_first (zden G f kd p1 q1) 256) else -1))) := by
  refine zq_roI (own := RX0) (by decide) rfl rfl (Nat.le_of_ble_eq_true rfl) ?_
  intro p e s m below meth c Q ls hF hP hK hl ret
  obtain ⟨hx, hb, hml, hown, hts⟩ := hF
  have hl : lv_has ls 3 [(0, .ref co), (1, .ref w)] := hl
  refine lv_iconst (v := (0 : Int32)) hx hb dX0_firstDenialIn_0 (by decide) ?_
  refine lv_istore_n (lv' := [(2, .int (nI 0)), (0, .ref co), (1, .ref w)]) hx hb dX0_firstDenialIn_1 rfl hl (by decide) rfl (fun ls hl => ?_)
  have loop2 : ∀ (fu : Nat) (k : Nat) (ls : Array Slot), (256 - k) < fu → (k ≤ 256) → (∀ j, j < k → (zden G f kd p1 q1) j = false) → lv_has ls 3 [(0, .ref co), (1, .ref w), (2, .int (nI k))] → W p l e ({ frames := 2, cells := 0, slots := 0, locals := 49 } : Room) s m ([.ref co, .ref w] : List Value).toArray below meth c s.heap [] 0 0 Q (F0 m 2 ls []) := by
    intro fu
    induction fu with
    | zero => intro _ _ hmu; exact absurd hmu (Nat.not_lt_zero _)
    | succ fu ih =>
      intro k ls hmu hk hno hl
      refine lv_iload_n hx hb dX0_firstDenialIn_2 rfl (lv_at hl 2 rfl) ?_
      refine lv_sipush (v := (nI 256)) hx hb dX0_firstDenialIn_3 (by decide) ?_
      refine lv_icmp_ge (tgt := 26) hx hb dX0_firstDenialIn_6 (by decide) (fun c6 => ?_) (fun c6 => ?_)
      · have h6 := zle c6
        refine lv_iconst (v := (-1 : Int32)) hx hb dX0_firstDenialIn_26 (by decide) ?_
        exact ret _ _ _ (by rw [zfirst_none (fun j hj => hno j (by omega)), if_neg (by omega)]) dX0_firstDenialIn_27
      · have h6 := znle c6
        refine lv_aload_n hx hb dX0_firstDenialIn_9 rfl (lv_at hl 0 rfl) ?_
        refine lv_iload_n hx hb dX0_firstDenialIn_10 rfl (lv_at hl 2 rfl) ?_
        refine lv_aload_n hx hb dX0_firstDenialIn_11 rfl (lv_at hl 1 rfl) ?_
        refine zq_cV (rest := []) ⟨hx, hb, hml, hown, hts⟩ (c_X0_isDeniedBy l D cI cZ cW cC co w g G f hf kd p1 q1 bn lh mk k (by omega)) (cwV 2 hts gX0_firstDenialIn_X0_isDeniedBy rfl rfl rfl (by decide +kernel) ⟨Nat.le_of_ble_eq_true rfl, Nat.le_of_ble_eq_true rfl⟩) hK hP 0 0 rfl rfl rfl hl.1 rfl (Nat.le_of_ble_eq_true rfl) dX0_firstDenialIn_12 ⟨Nat.le_of_ble_eq_true rfl, Nat.le_of_ble_eq_true rfl⟩ (fun v hv => ?_)
        obtain rfl := hv
        refine W.eq (g2 := F0 m 15 ls [.int (if zden G f kd p1 q1 k then (1 : Int32) else 0)]) rfl ?_
        refine lv_if_eq (tgt := 20) hx hb dX0_firstDenialIn_15 (by decide) (fun c15 => ?_) (fun c15 => ?_)
        · have hd : (zden G f kd p1 q1) k = false := by
            rcases hh : (zden G f kd p1 q1) k with _ | _
            · rfl
            · rw [hh] at c15; exact absurd c15 (by decide)
          refine lv_iinc (v := (nI (k + 1))) (lv' := [(2, .int (nI (k + 1))), (0, .ref co), (1, .ref w)]) hx hb dX0_firstDenialIn_20 hl (k := 2) rfl ((nI_succ _).symm) (by decide) rfl (fun ls hl => ?_)
          refine lv_goto (tgt := 2) hx hb dX0_firstDenialIn_23 (by decide) ?_
          exact ih (k + 1) ls (by omega) (by omega) (lt_s hno hd) (lv_sub hl [1, 2, 0] rfl)
        · have hd : (zden G f kd p1 q1) k = true := by
            rcases hh : (zden G f kd p1 q1) k with _ | _
            · rw [hh] at c15; exact absurd rfl c15
            · rfl
          refine lv_iload_n hx hb dX0_firstDenialIn_18 rfl (lv_at hl 2 rfl) ?_
          exact ret _ _ _ (by rw [zfirst_eq (k := k) (by omega) hd hno, if_pos (by omega)]) dX0_firstDenialIn_19
  exact loop2 (256 + 1) 0 ls (by omega) (by omega) (fun j hj => absurd hj (Nat.not_lt_zero j)) (lv_sub hl [1, 2, 0] rfl)
set_option maxHeartbeats 4000000 in
set_option maxRecDepth 100000 in
theorem c_X0_harmIn (l : Launch) (D : va_G) (cI cZ cW cC : ClassId) (co w g : Nat) (G : Nat → Int32) (f : Nat) (hf : f < 6) (kd p1 q1 bn lh mk : Int32) : zq_ro l D cI cZ cW cC yX0_harmIn wsX0_harmIn ({ frames := 2, cells := 0, slots := 0, locals := 49 } : Room) [.ref co, .ref w] [(co, .inr (0, [.int (nI f), .int kd, .int p1, .int q1, .int bn, .int lh, .int mk])), (w, .inr (2, [.ref g])), (g, .inl (cI, 1536, .inl G))] (fun v => v = some (.int (nI (fb_ct (zden G f kd p1 q1) 256)))) := by
  refine zq_roI (own := RX0) (by decide) rfl rfl (Nat.le_of_ble_eq_true rfl) ?_
  intro p e s m below meth c Q ls hF hP hK hl ret
  obtain ⟨hx, hb, hml, hown, hts⟩ := hF
  have hl : lv_has ls 4 [(0, .ref co), (1, .ref w)] := hl
  refine lv_iconst (v := (0 : Int32)) hx hb dX0_harmIn_0 (by decide) ?_
  refine lv_istore_n (lv' := [(2, .int (nI 0)), (0, .ref co), (1, .ref w)]) hx hb dX0_harmIn_1 rfl hl (by decide) rfl (fun ls hl => ?_)
  refine lv_iconst (v := (0 : Int32)) hx hb dX0_harmIn_2 (by decide) ?_
  refine lv_istore_n (lv' := [(3, .int (nI 0)), (2, .int (nI 0)), (0, .ref co), (1, .ref w)]) hx hb dX0_harmIn_3 rfl hl (by decide) rfl (fun ls hl => ?_)
  have loop4 : ∀ (fu : Nat) (k : Nat) (n2 : Nat) (ls : Array Slot), (256 - k) < fu → (k ≤ 256) → (n2 = fb_ct (zden G f kd p1 q1) k) → lv_has ls 4 [(0, .ref co), (1, .ref w), (2, .int (nI n2)), (3, .int (nI k))] → W p l e ({ frames := 2, cells := 0, slots := 0, locals := 49 } : Room) s m ([.ref co, .ref w] : List Value).toArray below meth c s.heap [] 0 0 Q (F0 m 4 ls []) := by
    intro fu
    induction fu with
    | zero => intro _ _ _ hmu; exact absurd hmu (Nat.not_lt_zero _)
    | succ fu ih =>
      intro k n2 ls hmu hk en2 hl
      refine lv_iload_n hx hb dX0_harmIn_4 rfl (lv_at hl 3 rfl) ?_
      refine lv_sipush (v := (nI 256)) hx hb dX0_harmIn_5 (by decide) ?_
      refine lv_icmp_ge (tgt := 29) hx hb dX0_harmIn_8 (by decide) (fun c8 => ?_) (fun c8 => ?_)
      · have h8 := zle c8
        refine lv_iload_n hx hb dX0_harmIn_29 rfl (lv_at hl 2 rfl) ?_
        exact ret _ _ _ (by rw [en2, show k = 256 by omega]) dX0_harmIn_30
      · have h8 := znle c8
        refine lv_aload_n hx hb dX0_harmIn_11 rfl (lv_at hl 0 rfl) ?_
        refine lv_iload_n hx hb dX0_harmIn_12 rfl (lv_at hl 3 rfl) ?_
        refine lv_aload_n hx hb dX0_harmIn_13 rfl (lv_at hl 1 rfl) ?_
        refine zq_cV (rest := []) ⟨hx, hb, hml, hown, hts⟩ (c_X0_isDeniedBy l D cI cZ cW cC co w g G f hf kd p1 q1 bn lh mk k (by omega)) (cwV 2 hts gX0_harmIn_X0_isDeniedBy rfl rfl rfl (by decide +kernel) ⟨Nat.le_of_ble_eq_true rfl, Nat.le_of_ble_eq_true rfl⟩) hK hP 0 0 rfl rfl rfl hl.1 rfl (Nat.le_of_ble_eq_true rfl) dX0_harmIn_14 ⟨Nat.le_of_ble_eq_true rfl, Nat.le_of_ble_eq_true rfl⟩ (fun v hv => ?_)
        obtain rfl := hv
        refine W.eq (g2 := F0 m 17 ls [.int (if zden G f kd p1 q1 k then (1 : Int32) else 0)]) rfl ?_
        refine lv_if_eq (tgt := 23) hx hb dX0_harmIn_17 (by decide) (fun c17 => ?_) (fun c17 => ?_)
        · have hd : (zden G f kd p1 q1) k = false := by
            rcases hh : (zden G f kd p1 q1) k with _ | _
            · rfl
            · rw [hh] at c17; exact absurd c17 (by decide)
          refine lv_iinc (v := (nI (k + 1))) (lv' := [(3, .int (nI (k + 1))), (0, .ref co), (1, .ref w), (2, .int (nI n2))]) hx hb dX0_harmIn_23 hl (k := 3) rfl ((nI_succ _).symm) (by decide) rfl (fun ls hl => ?_)
          refine lv_goto (tgt := 4) hx hb dX0_harmIn_26 (by decide) ?_
          exact ih (k + 1) n2 ls (by omega) (by omega) (by rw [fb_ct_succ, hd, en2]; rfl) (lv_sub hl [1, 2, 3, 0] rfl)
        · have hd : (zden G f kd p1 q1) k = true := by
            rcases hh : (zden G f kd p1 q1) k with _ | _
            · rw [hh] at c17; exact absurd rfl c17
            · rfl
          refine lv_iinc (v := (nI (n2 + 1))) (lv' := [(2, .int (nI (n2 + 1))), (0, .ref co), (1, .ref w), (3, .int (nI k))]) hx hb dX0_harmIn_20 hl (k := 2) rfl ((nI_succ _).symm) (by decide) rfl (fun ls hl => ?_)
          refine lv_iinc (v := (nI (k + 1))) (lv' := [(3, .int (nI (k + 1))), (2, .int (nI (n2 + 1))), (0, .ref co), (1, .ref w)]) hx hb dX0_harmIn_23 hl (k := 3) rfl ((nI_succ _).symm) (by decide) rfl (fun ls hl => ?_)
          refine lv_goto (tgt := 4) hx hb dX0_harmIn_26 (by decide) ?_
          exact ih (k + 1) (n2 + 1) ls (by omega) (by omega) (by rw [fb_ct_succ, hd, en2]; rfl) (lv_sub hl [2, 3, 1, 0] rfl)
  exact loop4 (256 + 1) 0 0 ls (by omega) (by omega) rfl (lv_sub hl [2, 3, 1, 0] rfl)
set_option maxHeartbeats 4000000 in
set_option maxRecDepth 100000 in
theorem c_X0_isHeldIn (l : Launch) (D : va_G) (cI cZ cW cC : ClassId) (co w g : Nat) (G : Nat → Int32) (f : Nat) (hf : f < 6) (kd p1 q1 bn lh mk : Int32) : zq_ro l D cI cZ cW cC yX0_isHeldIn wsX0_isHeldIn ({ frames := 3, cells := 0, slots := 0, locals := 71 } : Room) [.ref co, .ref w] [(co, .inr (0, [.int (nI f), .int kd, .int p1, .int q1, .int bn, .int lh, .int mk])), (w, .inr (2, [.ref g])), (g, .inl (cI, 1536, .inl G))] (fun v => v = some (.int (if zheld (zden G f kd p1 q1) then 1 else 0))) := by
  refine zq_roZ (own := RX0) (by decide) rfl rfl (Nat.le_of_ble_eq_true rfl) ?_
  intro p e s m below meth c Q ls hF hP hK hl ret
  obtain ⟨hx, hb, hml, hown, hts⟩ := hF
  have hl : lv_has ls 2 [(0, .ref co), (1, .ref w)] := hl
  have hfl := fa_first_le (zden G f kd p1 q1) 256
  refine lv_aload_n hx hb dX0_isHeldIn_0 rfl (lv_at hl 0 rfl) ?_
  refine lv_aload_n hx hb dX0_isHeldIn_1 rfl (lv_at hl 1 rfl) ?_
  refine zq_cV (rest := []) ⟨hx, hb, hml, hown, hts⟩ (c_X0_firstDenialIn l D cI cZ cW cC co w g G f hf kd p1 q1 bn lh mk) (cwV 1 hts gX0_isHeldIn_X0_firstDenialIn rfl rfl rfl (by decide +kernel) ⟨Nat.le_of_ble_eq_true rfl, Nat.le_of_ble_eq_true rfl⟩) hK hP 0 0 rfl rfl rfl hl.1 rfl (Nat.le_of_ble_eq_true rfl) dX0_isHeldIn_2 ⟨Nat.le_of_ble_eq_true rfl, Nat.le_of_ble_eq_true rfl⟩ (fun v hv => ?_)
  obtain rfl := hv
  refine W.eq (g2 := F0 m 5 ls [.int (if fa_first (zden G f kd p1 q1) 256 < 256 then nI (fa_first (zden G f kd p1 q1) 256) else -1)]) rfl ?_
  refine lv_iconst (v := (-1 : Int32)) hx hb dX0_isHeldIn_5 (by decide) ?_
  refine lv_icmp_ne (tgt := 13) hx hb dX0_isHeldIn_6 (by decide) (fun c6 => ?_) (fun c6 => ?_)
  · refine lv_iconst (v := (0 : Int32)) hx hb dX0_isHeldIn_13 (by decide) ?_
    exact ret _ _ _ (Or.inl rfl) (by rw [zheld_n _ c6]; rfl) dX0_isHeldIn_14
  · refine lv_iconst (v := (1 : Int32)) hx hb dX0_isHeldIn_9 (by decide) ?_
    refine lv_goto (tgt := 14) hx hb dX0_isHeldIn_10 (by decide) ?_
    exact ret _ _ _ (Or.inr rfl) (by rw [zheld_y _ c6]; rfl) dX0_isHeldIn_14
end
section
/-! Code: steps and runs -/
theorem zq_ofWF {l : Launch} {y : MethodName} {wsx wsx' : List Cond} {rm : Room} {Pc : Array Value → State → Prop} {Qc : Array Value → State → Outcome → State → Prop} {mc ms : Nat} {free : Addr → Prop} {cc : ByteArray} {maxL : Nat} {ret : Option FieldType}
    (hy : plainFor y = true) (hw : wsx = Cond.code y cc maxL ret :: wsx')
    (body : ∀ p e s m args below meth c s₁, BodyLoose p l y (headSpec wsx rm) cc maxL ret e s m args below meth c s₁ → c.maxLocals = maxL → Pc args s →
      W p l e (headSpec wsx rm).room s m args below meth c s.heap [] 0 0 (MQ below Qc args s mc ms free) (entryFrame m args maxL)) : Met l y wsx rm Pc Qc mc ms free := by
  refine MetFree.of_bodySF (code := cc) (maxLocals := maxL) (ret := ret) hy ?_ ?_
  · intro args s m h hn
    obtain ⟨meth, c, h1, h2, h3, h4, h5, h6, -, -⟩ := Cond.code_spec hn (atoms_spec (ws := wsx) h _ (by rw [hw]; exact List.mem_cons_self))
    exact ⟨meth, c, h1, h2, h3, h4, h5, h6⟩
  · intro p e s m args below meth c s₁ B hml hP _
    have hh0 : s₁.heap = s.heap := by rw [B.state]; rfl
    obtain ⟨t, a1, o, b1, b2, b3⟩ := body p e s m args below meth c s₁ B hml hP s₁ hh0 (Stand.of_body B)
    exact ⟨t, o, a1, b1, b2, ⟨b3.1, b3.2⟩⟩
theorem zq_roIF {l : Launch} {D : va_G} {cI cZ cW cC : ClassId} {y : MethodName} {wsw w' : List Cond} {rm : Room} {av : List Value} {ws : va_W} {post : Option Value → Prop} {cc : ByteArray} {maxL : Nat} {own : String} (hy : plainFor y = true) (hw : wsw = Cond.code y cc maxL (some .int) :: w') (ho : y.cls = own) (hlen : (lg_sl av).length ≤ maxL)
    (body : zq_rB l D cI cZ cW cC wsw rm av ws cc maxL own (fun p e s m below meth c Q => ∀ (v : Int32) (pc : Nat) (ls' : Array Slot), post (some (.int v)) → decode cc pc = .ok (.ireturn, 1) → W p l e rm s m av.toArray below meth c s.heap [] 0 0 Q (F0 m pc ls' [.int v]))) : zq_ro l D cI cZ cW cC y wsw rm av ws post := by
  refine zq_ofWF (cc := cc) (maxL := maxL) (ret := some .int) hy hw ?_
  intro p e s m args below meth c s₁ B hml hv
  obtain ⟨rfl, hP, hK⟩ := hv
  rw [lg_entry_eq]
  exact body p e s m below meth c _ _ ⟨B.exec, B.bytes, hml, ho ▸ findClass_of_methodNamed B.named, atoms_spec (ws := wsw) B.pre⟩ hP hK (lv_entry av (n := maxL) hlen) (fun v pc ls' hp hd => W.iret B.exec B.bytes B.returns (fun t ht hW => ⟨_, rfl, hp, ht⟩) (fun q h => by cases h) hd B.notSynchronized)
def za (x : Int32) : Int32 := x - x / nI 1000 * nI 1000
def zfm (x y : Int32) : Int32 := if x ^^^ y < 0 ∧ ¬ x - x / y * y = 0 then x - x / y * y + y else x - x / y * y
noncomputable def zaf (G : Nat → Int32) (x v : Int32) (r : Nat) : Int32 :=
  if x / nI 1000 = 0 then za x - nI 500
  else if x / nI 1000 = 1 then v + (za x - nI 500)
  else if x / nI 1000 = 2 then v + (za x - nI 500) * nI (r / 16)
  else if x / nI 1000 = 3 then v + (za x - nI 500) * nI (r % 16)
  else if x / nI 1000 = 4 then v * (za x - nI 500)
  else if x / nI 1000 = 5 then (if za x - nI 500 < v then za x - nI 500 else v)
  else if x / nI 1000 = 6 then (if v < za x - nI 500 then za x - nI 500 else v)
  else if x / nI 1000 = 9 then zgp G (za x) r
  else if x / nI 1000 = 10 then (if za x ≤ 0 then zNO else zfm v (za x))
  else zNO
noncomputable def zwk (G : Nat → Int32) (st : Nat → Int32) (f r : Nat) : Nat → Nat → Bool → Int32 → Int32
  | 0, _, _, v => v
  | n + 1, k, true, v => zwk G st f r n (k + 1) false v
  | n + 1, k, false, v => if st (12 * f + k) / nI 1000 = nI 7 then zwk G st f r n (k + 1) (decide (v < za (st (12 * f + k)) - nI 500)) v
      else if (-1000000 : Int32) ≤ zaf G (st (12 * f + k)) v r ∧ zaf G (st (12 * f + k)) v r ≤ 1000000 then zwk G st f r n (k + 1) false (zaf G (st (12 * f + k)) v r) else zNO
/-- how many of the first n steps of f, but for the one at a place, have OP 9 -/
def zin (st : Nat → Int32) (f : Nat) (pl : Int32) : Nat → Bool := fun k => decide (¬ nI k = pl ∧ st (12 * f + k) / nI 1000 = nI 9)
def zcan (st : Nat → Int32) (f n : Nat) (pl x : Int32) : Bool := decide (¬ x < 0 ∧ ((x.toNatClampNeg / 1000 = 9 ∧ x.toNatClampNeg % 1000 < f ∧ fb_ct (zin st f pl) n < 2) ∨ (x.toNatClampNeg / 1000 = 10 ∧ 1 ≤ x.toNatClampNeg % 1000) ∨ x.toNatClampNeg / 1000 < 9))

theorem w_X1_length__fieldLink_RX1_15_WordsBeside_Code_lengths_I__c3572a : (.fieldLink RX1 15 "WordsBeside$Code" "lengths" "[I" : Cond) ∈ wsX1_length := by decide +kernel
theorem w_X1_length__initialized_RX3_7f12e8 : (.initialized RX3 : Cond) ∈ wsX1_length := by decide +kernel
theorem w_X1_length__static_yX3_isFunction_d3d570 : (.static yX3_isFunction : Cond) ∈ wsX1_length := by decide +kernel
theorem in_X1_length_X1 : ∀ w ∈ wsX10, w ∈ wsX1_length := fun _ h => List.mem_cons_of_mem _ (List.mem_append_right _ h)
set_option maxHeartbeats 4000000 in
set_option maxRecDepth 100000 in
theorem c_X1_length (l : Launch) (D : va_G) (cI cZ cW cC : ClassId) (cd ss sl : Nat) (st ln : Nat → Int32) (f : Nat) (hf : f < 6) : zq_ro l D cI cZ cW cC yX1_length wsX1_length ({ frames := 1, cells := 0, slots := 0, locals := 20 } : Room) [.ref cd, .int (nI f)] [(cd, .inr (1, [.ref ss, .ref sl])), (ss, .inl (cI, 72, .inl st)), (sl, .inl (cI, 6, .inl ln))] (fun v => v = some (.int (ln f))) := by
  refine zq_roI (own := RX1) (by decide) rfl rfl (Nat.le_of_ble_eq_true rfl) ?_
  intro p e s m below meth c Q ls hF hP hK hl ret
  obtain ⟨hx, hb, hml, hown, hts⟩ := hF
  have hl : lv_has ls 2 [(0, .ref cd), (1, .int (nI f))] := hl
  refine lv_iload_n hx hb dX1_length_0 rfl (lv_at hl 1 rfl) ?_
  refine zq_cN (rest := []) ⟨hx, hb, hml, hown, hts⟩ (zq_ro_mono (c_X3_isFunction l D cI cZ cW cC (nI f)) (fun v h => h.resolve_right (fun q => q.2 (zr_nI hf)))) ⟨va_cnB (own := RX1) (index := 18) (host := RX3) 1 hts gX1_length_X3_isFunction_n18 rfl rfl rfl hK.2.1 (hts _ w_X1_length__initialized_RX3_7f12e8) (by decide +kernel) ⟨Nat.le_of_ble_eq_true rfl, Nat.le_of_ble_eq_true rfl⟩, (hts _ w_X1_length__static_yX3_isFunction_d3d570), trivial⟩ hK (fun k q h => by simp at h) rfl hl.1 rfl (Nat.le_of_ble_eq_true rfl) dX1_length_1 ⟨Nat.le_of_ble_eq_true rfl, Nat.le_of_ble_eq_true rfl⟩ (fun v hv => ?_)
  obtain ⟨rfl, hyf⟩ := hv
  refine W.eq (g2 := F0 m 4 ls [.int (1 : Int32)]) rfl ?_
  refine lv_if_eq (tgt := 16) hx hb dX1_length_4 (by decide) (fun c4 => absurd c4 (by decide)) (fun c4 => ?_)
  refine lv_aload_n hx hb dX1_length_7 rfl (lv_at hl 0 rfl) ?_
  refine zq_get hx hb hts in_X1_length_X1 hown hK hP 0 rfl rfl 1 (by decide) (hts _ w_X1_length__fieldLink_RX1_15_WordsBeside_Code_lengths_I__c3572a) rfl dX1_length_8 ?_
  refine lv_iload_n hx hb dX1_length_11 rfl (lv_at hl 1 rfl) ?_
  refine zq_ild hx hb hK hP 2 rfl f rfl (by omega) (by decide) dX1_length_12 ?_
  refine lv_goto (tgt := 17) hx hb dX1_length_13 (by decide) ?_
  exact ret _ _ _ rfl dX1_length_17
theorem w_X1_at__fieldLink_RX1_9_WordsBeside_Code_steps_I__23634e : (.fieldLink RX1 9 "WordsBeside$Code" "steps" "[I" : Cond) ∈ wsX1_at := by decide +kernel
theorem w_X1_at__initialized_RX3_7f12e8 : (.initialized RX3 : Cond) ∈ wsX1_at := by decide +kernel
theorem w_X1_at__static_yX3_isFunction_d3d570 : (.static yX3_isFunction : Cond) ∈ wsX1_at := by decide +kernel
theorem in_X1_at_X1 : ∀ w ∈ wsX10, w ∈ wsX1_at := fun _ h => List.mem_cons_of_mem _ (List.mem_append_right _ h)
set_option maxHeartbeats 4000000 in
set_option maxRecDepth 100000 in
theorem c_X1_at (l : Launch) (D : va_G) (cI cZ cW cC : ClassId) (cd ss sl : Nat) (st ln : Nat → Int32) (f : Nat) (hf : f < 6) (k : Nat) (hk : k < 12) : zq_ro l D cI cZ cW cC yX1_at wsX1_at ({ frames := 1, cells := 0, slots := 0, locals := 20 } : Room) [.ref cd, .int (nI f), .int (nI k)] [(cd, .inr (1, [.ref ss, .ref sl])), (ss, .inl (cI, 72, .inl st)), (sl, .inl (cI, 6, .inl ln))] (fun v => v = some (.int (st (12 * f + k)))) := by
  refine zq_roI (own := RX1) (by decide) rfl rfl (Nat.le_of_ble_eq_true rfl) ?_
  intro p e s m below meth c Q ls hF hP hK hl ret
  obtain ⟨hx, hb, hml, hown, hts⟩ := hF
  have hl : lv_has ls 3 [(0, .ref cd), (1, .int (nI f)), (2, .int (nI k))] := hl
  refine lv_iload_n hx hb dX1_at_0 rfl (lv_at hl 1 rfl) ?_
  refine zq_cN (rest := []) ⟨hx, hb, hml, hown, hts⟩ (zq_ro_mono (c_X3_isFunction l D cI cZ cW cC (nI f)) (fun v h => h.resolve_right (fun q => q.2 (zr_nI hf)))) ⟨va_cnB (own := RX1) (index := 18) (host := RX3) 1 hts gX1_at_X3_isFunction_n18 rfl rfl rfl hK.2.1 (hts _ w_X1_at__initialized_RX3_7f12e8) (by decide +kernel) ⟨Nat.le_of_ble_eq_true rfl, Nat.le_of_ble_eq_true rfl⟩, (hts _ w_X1_at__static_yX3_isFunction_d3d570), trivial⟩ hK (fun k q h => by simp at h) rfl hl.1 rfl (Nat.le_of_ble_eq_true rfl) dX1_at_1 ⟨Nat.le_of_ble_eq_true rfl, Nat.le_of_ble_eq_true rfl⟩ (fun v hv => ?_)
  obtain ⟨rfl, hyf⟩ := hv
  refine W.eq (g2 := F0 m 4 ls [.int (1 : Int32)]) rfl ?_
  refine lv_if_eq (tgt := 17) hx hb dX1_at_4 (by decide) (fun c4 => absurd c4 (by decide)) (fun c4 => ?_)
  refine lv_iload_n hx hb dX1_at_7 rfl (lv_at hl 2 rfl) ?_
  refine lv_if_lt (tgt := 17) hx hb dX1_at_8 (by decide) (fun c8 => absurd c8 (nI_pos (by omega))) (fun c8 => ?_)
  refine lv_iload_n hx hb dX1_at_11 rfl (lv_at hl 2 rfl) ?_
  refine lv_bipush (v := (nI 12)) hx hb dX1_at_12 (by decide) ?_
  refine lv_icmp_lt (tgt := 19) hx hb dX1_at_14 (by decide) (fun c14 => ?_) (fun c14 => absurd (nI_lt hk (by omega)) c14)
  refine lv_aload_n hx hb dX1_at_19 rfl (lv_at hl 0 rfl) ?_
  refine zq_get hx hb hts in_X1_at_X1 hown hK hP 0 rfl rfl 0 (by decide) (hts _ w_X1_at__fieldLink_RX1_9_WordsBeside_Code_steps_I__23634e) rfl dX1_at_20 ?_
  refine lv_iload_n hx hb dX1_at_23 rfl (lv_at hl 1 rfl) ?_
  refine lv_bipush (v := (nI 12)) hx hb dX1_at_24 (by decide) ?_
  refine lv_imul hx hb dX1_at_26 ?_
  refine lv_iload_n hx hb dX1_at_27 rfl (lv_at hl 2 rfl) ?_
  refine lv_iadd hx hb dX1_at_28 ?_
  refine zq_ild hx hb hK hP 1 rfl (12 * f + k) (by simp only [pk_mul, nI_add] <;> (congr 1; omega)) (by omega) (by decide) dX1_at_29 ?_
  exact ret _ _ _ rfl dX1_at_30
set_option maxHeartbeats 4000000 in
set_option maxRecDepth 100000 in
theorem c_X1_innerStepsBut (l : Launch) (D : va_G) (cI cZ cW cC : ClassId) (cd ss sl : Nat) (st ln : Nat → Int32) (f : Nat) (hf : f < 6) (n : Nat) (hn : n ≤ 12) (hln : ln f = nI n) (pl : Int32) : zq_ro l D cI cZ cW cC yX1_innerStepsBut wsX1_innerStepsBut ({ frames := 2, cells := 0, slots := 0, locals := 42 } : Room) [.ref cd, .int (nI f), .int pl] [(cd, .inr (1, [.ref ss, .ref sl])), (ss, .inl (cI, 72, .inl st)), (sl, .inl (cI, 6, .inl ln))] (fun v => v = some (.int (nI (fb_ct (zin st f pl) n)))) := by
  refine zq_roI (own := RX1) (by decide) rfl rfl (Nat.le_of_ble_eq_true rfl) ?_
  intro p e s m below meth c Q ls hF hP hK hl ret
  obtain ⟨hx, hb, hml, hown, hts⟩ := hF
  have hl : lv_has ls 5 [(0, .ref cd), (1, .int (nI f)), (2, .int pl)] := hl
  refine lv_iconst (v := (0 : Int32)) hx hb dX1_innerStepsBut_0 (by decide) ?_
  refine lv_istore_n (lv' := [(3, .int (nI 0)), (0, .ref cd), (1, .int (nI f)), (2, .int pl)]) hx hb dX1_innerStepsBut_1 rfl hl (by decide) rfl (fun ls hl => ?_)
  refine lv_iconst (v := (0 : Int32)) hx hb dX1_innerStepsBut_2 (by decide) ?_
  refine lv_istore (lv' := [(4, .int (nI 0)), (3, .int (nI 0)), (0, .ref cd), (1, .int (nI f)), (2, .int pl)]) hx hb dX1_innerStepsBut_3 hl (by decide) rfl (fun ls hl => ?_)
  have loop5 : ∀ (fu : Nat) (k a : Nat) (ls : Array Slot), (n - k) < fu → (k ≤ n) → (a = fb_ct (zin st f pl) k) → lv_has ls 5 [(0, .ref cd), (1, .int (nI f)), (2, .int pl), (3, .int (nI a)), (4, .int (nI k))] → W p l e ({ frames := 2, cells := 0, slots := 0, locals := 42 } : Room) s m ([.ref cd, .int (nI f), .int pl] : List Value).toArray below meth c s.heap [] 0 0 Q (F0 m 5 ls []) := by
    intro fu
    induction fu with
    | zero => intro _ _ _ hmu; exact absurd hmu (Nat.not_lt_zero _)
    | succ fu ih =>
      intro k a ls hmu hk ea hl
      have hfb := fb_ct_le (zin st f pl) k
      refine lv_iload hx hb dX1_innerStepsBut_5 (lv_at hl 4 rfl) ?_
      refine lv_aload_n hx hb dX1_innerStepsBut_7 rfl (lv_at hl 0 rfl) ?_
      refine lv_iload_n hx hb dX1_innerStepsBut_8 rfl (lv_at hl 1 rfl) ?_
      refine zq_cV (rest := [.int (nI k)]) ⟨hx, hb, hml, hown, hts⟩ (zq_ro_mono (c_X1_length l D cI cZ cW cC cd ss sl st ln f hf) (fun v h => h.trans (congrArg (fun z => some (Value.int z)) hln))) (cwV 1 hts gX1_innerStepsBut_X1_length rfl rfl rfl (by decide +kernel) ⟨Nat.le_of_ble_eq_true rfl, Nat.le_of_ble_eq_true rfl⟩) hK hP 1 0 rfl rfl rfl hl.1 rfl (Nat.le_of_ble_eq_true rfl) dX1_innerStepsBut_9 ⟨Nat.le_of_ble_eq_true rfl, Nat.le_of_ble_eq_true rfl⟩ (fun v hv => ?_)
      obtain rfl := hv
      refine W.eq (g2 := F0 m 12 ls [.int (nI n), .int (nI k)]) rfl ?_
      refine lv_icmp_ge (tgt := 46) hx hb dX1_innerStepsBut_12 (by decide) (fun c12 => ?_) (fun c12 => ?_)
      · have h12 := zle c12
        refine lv_iload_n hx hb dX1_innerStepsBut_46 rfl (lv_at hl 3 rfl) ?_
        exact ret _ _ _ (by rw [ea, show k = n by omega]) dX1_innerStepsBut_47
      · have h12 := znle c12
        refine lv_iload hx hb dX1_innerStepsBut_15 (lv_at hl 4 rfl) ?_
        refine lv_iload_n hx hb dX1_innerStepsBut_17 rfl (lv_at hl 2 rfl) ?_
        refine lv_icmp_eq (tgt := 40) hx hb dX1_innerStepsBut_18 (by decide) (fun c18 => ?_) (fun c18 => ?_)
        · refine lv_iinc (v := (nI (k + 1))) (lv' := [(4, .int (nI (k + 1))), (0, .ref cd), (1, .int (nI f)), (2, .int pl), (3, .int (nI a))]) hx hb dX1_innerStepsBut_40 hl (k := 4) rfl ((nI_succ _).symm) (by decide) rfl (fun ls hl => ?_)
          refine lv_goto (tgt := 5) hx hb dX1_innerStepsBut_43 (by decide) ?_
          exact ih (k + 1) a ls (by omega) (by omega) (by rw [fb_ct_succ, ← ea, if_neg (by simp [zin, c18]), Nat.add_zero]) (lv_sub hl [1, 2, 3, 4, 0] rfl)
        · refine lv_aload_n hx hb dX1_innerStepsBut_21 rfl (lv_at hl 0 rfl) ?_
          refine lv_iload_n hx hb dX1_innerStepsBut_22 rfl (lv_at hl 1 rfl) ?_
          refine lv_iload hx hb dX1_innerStepsBut_23 (lv_at hl 4 rfl) ?_
          refine zq_cV (rest := []) ⟨hx, hb, hml, hown, hts⟩ (c_X1_at l D cI cZ cW cC cd ss sl st ln f hf k (by omega)) (cwV 2 hts gX1_innerStepsBut_X1_at rfl rfl rfl (by decide +kernel) ⟨Nat.le_of_ble_eq_true rfl, Nat.le_of_ble_eq_true rfl⟩) hK hP 1 0 rfl rfl rfl hl.1 rfl (Nat.le_of_ble_eq_true rfl) dX1_innerStepsBut_25 ⟨Nat.le_of_ble_eq_true rfl, Nat.le_of_ble_eq_true rfl⟩ (fun v hv => ?_)
          obtain rfl := hv
          refine W.eq (g2 := F0 m 28 ls [.int (st (12 * f + k))]) rfl ?_
          refine lv_sipush (v := (nI 1000)) hx hb dX1_innerStepsBut_28 (by decide) ?_
          refine lv_idiv hx hb dX1_innerStepsBut_31 (nI_ne0 (by omega) (by omega)) ?_
          refine lv_bipush (v := (nI 9)) hx hb dX1_innerStepsBut_32 (by decide) ?_
          refine lv_icmp_ne (tgt := 40) hx hb dX1_innerStepsBut_34 (by decide) (fun c34 => ?_) (fun c34 => ?_)
          · refine lv_iinc (v := (nI (k + 1))) (lv' := [(4, .int (nI (k + 1))), (0, .ref cd), (1, .int (nI f)), (2, .int pl), (3, .int (nI a))]) hx hb dX1_innerStepsBut_40 hl (k := 4) rfl ((nI_succ _).symm) (by decide) rfl (fun ls hl => ?_)
            refine lv_goto (tgt := 5) hx hb dX1_innerStepsBut_43 (by decide) ?_
            exact ih (k + 1) a ls (by omega) (by omega) (by rw [fb_ct_succ, ← ea, if_neg (by simp [zin, c34]), Nat.add_zero]) (lv_sub hl [1, 2, 3, 4, 0] rfl)
          · refine lv_iinc (v := (nI (a + 1))) (lv' := [(3, .int (nI (a + 1))), (0, .ref cd), (1, .int (nI f)), (2, .int pl), (4, .int (nI k))]) hx hb dX1_innerStepsBut_37 hl (k := 3) rfl ((nI_succ _).symm) (by decide) rfl (fun ls hl => ?_)
            refine lv_iinc (v := (nI (k + 1))) (lv' := [(4, .int (nI (k + 1))), (3, .int (nI (a + 1))), (0, .ref cd), (1, .int (nI f)), (2, .int pl)]) hx hb dX1_innerStepsBut_40 hl (k := 4) rfl ((nI_succ _).symm) (by decide) rfl (fun ls hl => ?_)
            refine lv_goto (tgt := 5) hx hb dX1_innerStepsBut_43 (by decide) ?_
            exact ih (k + 1) (a + 1) ls (by omega) (by omega) (by rw [fb_ct_succ, ← ea, if_pos (by simp [zin, c18, c34])]) (lv_sub hl [2, 3, 4, 1, 0] rfl)
  exact loop5 (n + 1) 0 0 ls (by omega) (by omega) rfl (lv_sub hl [2, 3, 4, 1, 0] rfl)
set_option maxHeartbeats 4000000 in
set_option maxRecDepth 100000 in
theorem c_X1_canStand (l : Launch) (D : va_G) (cI cZ cW cC : ClassId) (cd ss sl : Nat) (st ln : Nat → Int32) (f : Nat) (hf : f < 6) (n : Nat) (hn : n ≤ 12) (hln : ln f = nI n) (pl x : Int32) : zq_ro l D cI cZ cW cC yX1_canStand wsX1_canStand ({ frames := 3, cells := 0, slots := 0, locals := 66 } : Room) [.ref cd, .int (nI f), .int pl, .int x] [(cd, .inr (1, [.ref ss, .ref sl])), (ss, .inl (cI, 72, .inl st)), (sl, .inl (cI, 6, .inl ln))] (fun v => v = some (.int (if zcan st f n pl x then 1 else 0))) := by
  refine zq_roZ (own := RX1) (by decide) rfl rfl (Nat.le_of_ble_eq_true rfl) ?_
  intro p e s m below meth c Q ls hF hP hK hl ret
  obtain ⟨hx, hb, hml, hown, hts⟩ := hF
  have hl : lv_has ls 6 [(0, .ref cd), (1, .int (nI f)), (2, .int pl), (3, .int x)] := hl
  have hfb := fb_ct_le (zin st f pl) n
  refine lv_iload_n hx hb dX1_canStand_0 rfl (lv_at hl 3 rfl) ?_
  refine lv_if_ge (tgt := 6) hx hb dX1_canStand_1 (by decide) (fun c1 => ?_) (fun c1 => ?_)
  · obtain ⟨xn, hxn, rfl⟩ := nI_of (Int32.not_lt.mpr c1)
    have hcl : (nI xn).toNatClampNeg = xn := nI_clamp hxn
    refine lv_iload_n hx hb dX1_canStand_6 rfl (lv_at hl 3 rfl) ?_
    refine lv_sipush (v := (nI 1000)) hx hb dX1_canStand_7 (by decide) ?_
    refine lv_idiv hx hb dX1_canStand_10 (nI_ne0 (by omega) (by omega)) ?_
    refine zq_te (y := (nI (xn / 1000))) (pk_div hxn (by omega) (by omega)) ?_
    refine lv_istore (lv' := [(4, .int (nI (xn / 1000))), (0, .ref cd), (1, .int (nI f)), (2, .int pl), (3, .int (nI xn))]) hx hb dX1_canStand_11 hl (by decide) rfl (fun ls hl => ?_)
    refine lv_iload_n hx hb dX1_canStand_13 rfl (lv_at hl 4 rfl) ?_
    refine lv_sipush (v := (nI 1000)) hx hb dX1_canStand_14 (by decide) ?_
    refine lv_irem hx hb dX1_canStand_17 (nI_ne0 (by omega) (by omega)) ?_
    refine zq_te (y := (nI (xn % 1000))) (pk_rem hxn (by omega) (by omega)) ?_
    refine lv_istore (lv' := [(5, .int (nI (xn % 1000))), (4, .int (nI (xn / 1000))), (0, .ref cd), (1, .int (nI f)), (2, .int pl), (3, .int (nI xn))]) hx hb dX1_canStand_18 hl (by decide) rfl (fun ls hl => ?_)
    refine lv_iload hx hb dX1_canStand_20 (lv_at hl 1 rfl) ?_
    refine lv_bipush (v := (nI 9)) hx hb dX1_canStand_22 (by decide) ?_
    refine lv_icmp_ne (tgt := 49) hx hb dX1_canStand_24 (by decide) (fun c24 => ?_) (fun c24 => ?_)
    · have h24 := zne c24
      refine lv_iload hx hb dX1_canStand_49 (lv_at hl 1 rfl) ?_
      refine lv_bipush (v := (nI 10)) hx hb dX1_canStand_51 (by decide) ?_
      refine lv_icmp_ne (tgt := 68) hx hb dX1_canStand_53 (by decide) (fun c53 => ?_) (fun c53 => ?_)
      · have h53 := zne c53
        refine lv_iload hx hb dX1_canStand_68 (lv_at hl 1 rfl) ?_
        refine lv_bipush (v := (nI 9)) hx hb dX1_canStand_70 (by decide) ?_
        refine lv_icmp_ge (tgt := 79) hx hb dX1_canStand_72 (by decide) (fun c72 => ?_) (fun c72 => ?_)
        · have h72 := zle c72
          refine lv_iconst (v := (0 : Int32)) hx hb dX1_canStand_79 (by decide) ?_
          exact ret _ _ _ (Or.inl rfl) (by simp [zcan, hcl, c1, Int32.not_lt.mpr c1]; omega) dX1_canStand_80
        · have h72 := znle c72
          refine lv_iconst (v := (1 : Int32)) hx hb dX1_canStand_75 (by decide) ?_
          refine lv_goto (tgt := 80) hx hb dX1_canStand_76 (by decide) ?_
          exact ret _ _ _ (Or.inr rfl) (by simp [zcan, hcl, c1, Int32.not_lt.mpr c1]; omega) dX1_canStand_80
      · have h53 := zeq c53
        refine lv_iload hx hb dX1_canStand_56 (lv_at hl 0 rfl) ?_
        refine lv_iconst (v := (nI 1)) hx hb dX1_canStand_58 (by decide) ?_
        refine lv_icmp_lt (tgt := 66) hx hb dX1_canStand_59 (by decide) (fun c59 => ?_) (fun c59 => ?_)
        · have h59 := zlt c59
          refine lv_iconst (v := (0 : Int32)) hx hb dX1_canStand_66 (by decide) ?_
          exact ret _ _ _ (Or.inl rfl) (by simp [zcan, hcl, c1, Int32.not_lt.mpr c1]; omega) dX1_canStand_67
        · have h59 := znlt c59
          refine lv_iconst (v := (1 : Int32)) hx hb dX1_canStand_62 (by decide) ?_
          refine lv_goto (tgt := 67) hx hb dX1_canStand_63 (by decide) ?_
          exact ret _ _ _ (Or.inr rfl) (by simp [zcan, hcl, c1, Int32.not_lt.mpr c1]; omega) dX1_canStand_67
    · have h24 := zeq c24
      refine lv_iload hx hb dX1_canStand_27 (lv_at hl 0 rfl) ?_
      refine lv_iload_n hx hb dX1_canStand_29 rfl (lv_at hl 3 rfl) ?_
      refine lv_icmp_ge (tgt := 47) hx hb dX1_canStand_30 (by decide) (fun c30 => ?_) (fun c30 => ?_)
      · have h30 := zle c30
        refine lv_iconst (v := (0 : Int32)) hx hb dX1_canStand_47 (by decide) ?_
        exact ret _ _ _ (Or.inl rfl) (by simp [zcan, hcl, c1, Int32.not_lt.mpr c1]; omega) dX1_canStand_48
      · have h30 := znle c30
        refine lv_aload_n hx hb dX1_canStand_33 rfl (lv_at hl 2 rfl) ?_
        refine lv_iload_n hx hb dX1_canStand_34 rfl (lv_at hl 3 rfl) ?_
        refine lv_iload_n hx hb dX1_canStand_35 rfl (lv_at hl 4 rfl) ?_
        refine zq_cV (rest := []) ⟨hx, hb, hml, hown, hts⟩ (c_X1_innerStepsBut l D cI cZ cW cC cd ss sl st ln f hf n hn hln pl) (cwV 2 hts gX1_canStand_X1_innerStepsBut rfl rfl rfl (by decide +kernel) ⟨Nat.le_of_ble_eq_true rfl, Nat.le_of_ble_eq_true rfl⟩) hK hP 1 0 rfl rfl rfl hl.1 rfl (Nat.le_of_ble_eq_true rfl) dX1_canStand_36 ⟨Nat.le_of_ble_eq_true rfl, Nat.le_of_ble_eq_true rfl⟩ (fun v hv => ?_)
        obtain rfl := hv
        refine W.eq (g2 := F0 m 39 ls [.int (nI (fb_ct (zin st f pl) n))]) rfl ?_
        refine lv_iconst (v := (nI 2)) hx hb dX1_canStand_39 (by decide) ?_
        refine lv_icmp_ge (tgt := 47) hx hb dX1_canStand_40 (by decide) (fun c40 => ?_) (fun c40 => ?_)
        · have h40 := zle c40
          refine lv_iconst (v := (0 : Int32)) hx hb dX1_canStand_47 (by decide) ?_
          exact ret _ _ _ (Or.inl rfl) (by simp [zcan, hcl, c1, Int32.not_lt.mpr c1]; omega) dX1_canStand_48
        · have h40 := znle c40
          refine lv_iconst (v := (1 : Int32)) hx hb dX1_canStand_43 (by decide) ?_
          refine lv_goto (tgt := 48) hx hb dX1_canStand_44 (by decide) ?_
          exact ret _ _ _ (Or.inr rfl) (by simp [zcan, hcl, c1, Int32.not_lt.mpr c1]; omega) dX1_canStand_48
  · refine lv_iconst (v := (0 : Int32)) hx hb dX1_canStand_4 (by decide) ?_
    exact ret _ _ _ (Or.inl rfl) (by simp [zcan, Int32.not_le.mp c1]) dX1_canStand_5
set_option maxHeartbeats 4000000 in
set_option maxRecDepth 100000 in
theorem c_J9_floorMod_7cf53 (l : Launch) (D : va_G) (cI cZ cW cC : ClassId) (x y : Int32) (hy0 : ¬ y = 0) : zq_ro l D cI cZ cW cC yJ9_floorMod_7cf53 wsJ9_floorMod_7cf53 ({ frames := 0, cells := 0, slots := 0, locals := 0 } : Room) [.int x, .int y] [] (fun v => v = some (.int (zfm x y))) := by
  refine zq_roIF (own := RJ9) (by decide +kernel) rfl rfl (Nat.le_of_ble_eq_true rfl) ?_
  intro p e s m below meth c Q ls hF hP hK hl ret
  obtain ⟨hx, hb, hml, hown, hts⟩ := hF
  have hl : lv_has ls 3 [(0, .int x), (1, .int y)] := hl
  refine lv_iload_n hx hb dJ9_floorMod_7cf53_0 rfl (lv_at hl 0 rfl) ?_
  refine lv_iload_n hx hb dJ9_floorMod_7cf53_1 rfl (lv_at hl 1 rfl) ?_
  refine lv_irem hx hb dJ9_floorMod_7cf53_2 hy0 ?_
  refine lv_istore_n (lv' := [(2, .int (x - x / y * y)), (0, .int x), (1, .int y)]) hx hb dJ9_floorMod_7cf53_3 rfl hl (by decide) rfl (fun ls hl => ?_)
  refine lv_iload_n hx hb dJ9_floorMod_7cf53_4 rfl (lv_at hl 1 rfl) ?_
  refine lv_iload_n hx hb dJ9_floorMod_7cf53_5 rfl (lv_at hl 2 rfl) ?_
  refine lv_ixor hx hb dJ9_floorMod_7cf53_6 ?_
  refine lv_if_ge (tgt := 18) hx hb dJ9_floorMod_7cf53_7 (by decide) (fun c7 => ?_) (fun c7 => ?_)
  · refine lv_iload_n hx hb dJ9_floorMod_7cf53_18 rfl (lv_at hl 0 rfl) ?_
    exact ret _ _ _ (by rw [zfm, if_neg (fun q => absurd q.1 (Int32.not_lt.mpr c7))]) dJ9_floorMod_7cf53_19
  · refine lv_iload_n hx hb dJ9_floorMod_7cf53_10 rfl (lv_at hl 0 rfl) ?_
    refine lv_if_eq (tgt := 18) hx hb dJ9_floorMod_7cf53_11 (by decide) (fun c11 => ?_) (fun c11 => ?_)
    · refine lv_iload_n hx hb dJ9_floorMod_7cf53_18 rfl (lv_at hl 0 rfl) ?_
      exact ret _ _ _ (by rw [zfm, if_neg (fun q => q.2 c11)]) dJ9_floorMod_7cf53_19
    · refine lv_iload_n hx hb dJ9_floorMod_7cf53_14 rfl (lv_at hl 0 rfl) ?_
      refine lv_iload_n hx hb dJ9_floorMod_7cf53_15 rfl (lv_at hl 2 rfl) ?_
      refine lv_iadd hx hb dJ9_floorMod_7cf53_16 ?_
      exact ret _ _ _ (by rw [zfm, if_pos ⟨Int32.not_le.mp c7, c11⟩]) dJ9_floorMod_7cf53_17
theorem w_X1_after__code_Lib_Math_max_name_Lib_Math_max_code_2_some_int__b6349a : (.code Lib.Math.max.name Lib.Math.max.code 2 (some .int) : Cond) ∈ wsX1_after := by decide +kernel
theorem w_X1_after__code_Lib_Math_min_name_Lib_Math_min_code_2_some_int__0fd793 : (.code Lib.Math.min.name Lib.Math.min.code 2 (some .int) : Cond) ∈ wsX1_after := by decide +kernel
theorem w_X1_after__constant_RX1_51_2147483648__a74791 : (.constant RX1 51 (-2147483648) : Cond) ∈ wsX1_after := by decide +kernel
theorem w_X1_after__initialized_java_lang_Math__868a92 : (.initialized "java/lang/Math" : Cond) ∈ wsX1_after := by decide +kernel
theorem w_X1_after__methodLink_RX1_52_Lib_Math_min_name_de4724 : (.methodLink RX1 52 Lib.Math.min.name : Cond) ∈ wsX1_after := by decide +kernel
theorem w_X1_after__methodLink_RX1_57_Lib_Math_max_name_e50f67 : (.methodLink RX1 57 Lib.Math.max.name : Cond) ∈ wsX1_after := by decide +kernel
theorem w_X1_after__static_Lib_Math_max_name_80a2ec : (.static Lib.Math.max.name : Cond) ∈ wsX1_after := by decide +kernel
theorem w_X1_after__static_Lib_Math_min_name_79b26a : (.static Lib.Math.min.name : Cond) ∈ wsX1_after := by decide +kernel
set_option maxHeartbeats 4000000 in
set_option maxRecDepth 100000 in
theorem c_X1_after (l : Launch) (D : va_G) (cI cZ cW cC : ClassId) (w g : Nat) (G : Nat → Int32) (x u : Int32) (r : Nat) (hr : r < 256) : zq_ro l D cI cZ cW cC yX1_after wsX1_after ({ frames := 1, cells := 0, slots := 0, locals := 22 } : Room) [.int x, .int u, .int (nI r), .ref w] [(w, .inr (2, [.ref g])), (g, .inl (cI, 1536, .inl G))] (fun v => v = some (.int (zaf G x u r))) := by
  refine zq_roI (own := RX1) (by decide) rfl rfl (Nat.le_of_ble_eq_true rfl) ?_
  intro p e s m below meth c Q ls hF hP hK hl ret
  obtain ⟨hx, hb, hml, hown, hts⟩ := hF
  have hl : lv_has ls 6 [(0, .int x), (1, .int u), (2, .int (nI r)), (3, .ref w)] := hl
  refine lv_iload_n hx hb dX1_after_0 rfl (lv_at hl 0 rfl) ?_
  refine lv_sipush (v := (nI 1000)) hx hb dX1_after_1 (by decide) ?_
  refine lv_irem hx hb dX1_after_4 (nI_ne0 (by omega) (by omega)) ?_
  refine zq_te (y := (za x)) rfl ?_
  refine lv_istore (lv' := [(4, .int (za x)), (0, .int x), (1, .int u), (2, .int (nI r)), (3, .ref w)]) hx hb dX1_after_5 hl (by decide) rfl (fun ls hl => ?_)
  refine lv_iload hx hb dX1_after_7 (lv_at hl 0 rfl) ?_
  refine lv_sipush (v := (nI 500)) hx hb dX1_after_9 (by decide) ?_
  refine lv_isub hx hb dX1_after_12 ?_
  refine lv_istore (lv' := [(5, .int ((za x) - (nI 500))), (4, .int (za x)), (0, .int x), (1, .int u), (2, .int (nI r)), (3, .ref w)]) hx hb dX1_after_13 hl (by decide) rfl (fun ls hl => ?_)
  refine lv_iload_n hx hb dX1_after_15 rfl (lv_at hl 2 rfl) ?_
  refine lv_sipush (v := (nI 1000)) hx hb dX1_after_16 (by decide) ?_
  refine lv_idiv hx hb dX1_after_19 (nI_ne0 (by omega) (by omega)) ?_
  by_cases k20_0 : (x / (nI 1000)) = (0 : Int32)
  · refine lv_tableIn (tgt := 80) hx hb dX1_after_20 (by rw [k20_0]; decide) (by rw [k20_0]; decide) (by rw [k20_0]; rfl) (by decide) ?_
    refine lv_iload hx hb dX1_after_80 (lv_at hl 0 rfl) ?_
    exact ret _ _ _ (by simp [zaf, k20_0]) dX1_after_82
  · by_cases k20_1 : (x / (nI 1000)) = (1 : Int32)
    · refine lv_tableIn (tgt := 83) hx hb dX1_after_20 (by rw [k20_1]; decide) (by rw [k20_1]; decide) (by rw [k20_1]; rfl) (by decide) ?_
      refine lv_iload_n hx hb dX1_after_83 rfl (lv_at hl 3 rfl) ?_
      refine lv_iload hx hb dX1_after_84 (lv_at hl 0 rfl) ?_
      refine lv_iadd hx hb dX1_after_86 ?_
      exact ret _ _ _ (by simp [zaf, k20_1]) dX1_after_87
    · by_cases k20_2 : (x / (nI 1000)) = (2 : Int32)
      · refine lv_tableIn (tgt := 88) hx hb dX1_after_20 (by rw [k20_2]; decide) (by rw [k20_2]; decide) (by rw [k20_2]; rfl) (by decide) ?_
        refine lv_iload_n hx hb dX1_after_88 rfl (lv_at hl 3 rfl) ?_
        refine lv_iload hx hb dX1_after_89 (lv_at hl 0 rfl) ?_
        refine lv_iload_n hx hb dX1_after_91 rfl (lv_at hl 4 rfl) ?_
        refine lv_bipush (v := (nI 16)) hx hb dX1_after_92 (by decide) ?_
        refine lv_idiv hx hb dX1_after_94 (by decide) ?_
        refine zq_te (y := (nI (r / 16))) (pk_div (by omega) (by omega) (by omega)) ?_
        refine lv_imul hx hb dX1_after_95 ?_
        refine lv_iadd hx hb dX1_after_96 ?_
        exact ret _ _ _ (by simp [zaf, k20_2]) dX1_after_97
      · by_cases k20_3 : (x / (nI 1000)) = (3 : Int32)
        · refine lv_tableIn (tgt := 98) hx hb dX1_after_20 (by rw [k20_3]; decide) (by rw [k20_3]; decide) (by rw [k20_3]; rfl) (by decide) ?_
          refine lv_iload_n hx hb dX1_after_98 rfl (lv_at hl 3 rfl) ?_
          refine lv_iload hx hb dX1_after_99 (lv_at hl 0 rfl) ?_
          refine lv_iload_n hx hb dX1_after_101 rfl (lv_at hl 4 rfl) ?_
          refine lv_bipush (v := (nI 16)) hx hb dX1_after_102 (by decide) ?_
          refine lv_irem hx hb dX1_after_104 (by decide) ?_
          refine zq_te (y := (nI (r % 16))) (pk_rem (by omega) (by omega) (by omega)) ?_
          refine lv_imul hx hb dX1_after_105 ?_
          refine lv_iadd hx hb dX1_after_106 ?_
          exact ret _ _ _ (by simp [zaf, k20_3]) dX1_after_107
        · by_cases k20_4 : (x / (nI 1000)) = (4 : Int32)
          · refine lv_tableIn (tgt := 108) hx hb dX1_after_20 (by rw [k20_4]; decide) (by rw [k20_4]; decide) (by rw [k20_4]; rfl) (by decide) ?_
            refine lv_iload_n hx hb dX1_after_108 rfl (lv_at hl 3 rfl) ?_
            refine lv_iload hx hb dX1_after_109 (lv_at hl 0 rfl) ?_
            refine lv_imul hx hb dX1_after_111 ?_
            exact ret _ _ _ (by simp [zaf, k20_4]) dX1_after_112
          · by_cases k20_5 : (x / (nI 1000)) = (5 : Int32)
            · refine lv_tableIn (tgt := 113) hx hb dX1_after_20 (by rw [k20_5]; decide) (by rw [k20_5]; decide) (by rw [k20_5]; rfl) (by decide) ?_
              refine lv_iload_n hx hb dX1_after_113 rfl (lv_at hl 3 rfl) ?_
              refine lv_iload hx hb dX1_after_114 (lv_at hl 0 rfl) ?_
              refine va_mmin hx hb (hml.trans hl.1.symm) hown (hts _ w_X1_after__methodLink_RX1_52_Lib_Math_min_name_de4724) (hts _ w_X1_after__static_Lib_Math_min_name_79b26a) (hts _ w_X1_after__initialized_java_lang_Math__868a92) (hts _ w_X1_after__code_Lib_Math_min_name_Lib_Math_min_code_2_some_int__0fd793) (Nat.le_of_ble_eq_true rfl) (Nat.le_of_ble_eq_true rfl) (Nat.le_of_ble_eq_true rfl) (Nat.le_of_ble_eq_true rfl) dX1_after_116 ?_
              exact ret _ _ _ (by simp [zaf, k20_5]) dX1_after_119
            · by_cases k20_6 : (x / (nI 1000)) = (6 : Int32)
              · refine lv_tableIn (tgt := 120) hx hb dX1_after_20 (by rw [k20_6]; decide) (by rw [k20_6]; decide) (by rw [k20_6]; rfl) (by decide) ?_
                refine lv_iload_n hx hb dX1_after_120 rfl (lv_at hl 3 rfl) ?_
                refine lv_iload hx hb dX1_after_121 (lv_at hl 0 rfl) ?_
                refine va_mmax hx hb (hml.trans hl.1.symm) hown (hts _ w_X1_after__methodLink_RX1_57_Lib_Math_max_name_e50f67) (hts _ w_X1_after__static_Lib_Math_max_name_80a2ec) (hts _ w_X1_after__initialized_java_lang_Math__868a92) (hts _ w_X1_after__code_Lib_Math_max_name_Lib_Math_max_code_2_some_int__b6349a) (Nat.le_of_ble_eq_true rfl) (Nat.le_of_ble_eq_true rfl) (Nat.le_of_ble_eq_true rfl) (Nat.le_of_ble_eq_true rfl) dX1_after_123 ?_
                exact ret _ _ _ (by simp [zaf, k20_6]) dX1_after_126
              · by_cases k20_7 : (x / (nI 1000)) = (7 : Int32)
                · refine lv_tableIn (tgt := 155) hx hb dX1_after_20 (by rw [k20_7]; decide) (by rw [k20_7]; decide) (by rw [k20_7]; rfl) (by decide) ?_
                  refine lv_ldc (v := (-2147483648 : Int32)) hx hb hown (hts _ w_X1_after__constant_RX1_51_2147483648__a74791) dX1_after_155 ?_
                  exact ret _ _ _ (by simp [zaf, k20_7]) dX1_after_157
                · by_cases k20_8 : (x / (nI 1000)) = (8 : Int32)
                  · refine lv_tableIn (tgt := 127) hx hb dX1_after_20 (by rw [k20_8]; decide) (by rw [k20_8]; decide) (by rw [k20_8]; rfl) (by decide) ?_
                    refine lv_ldc (v := (-2147483648 : Int32)) hx hb hown (hts _ w_X1_after__constant_RX1_51_2147483648__a74791) dX1_after_127 ?_
                    exact ret _ _ _ (by simp [zaf, k20_8]) dX1_after_129
                  · by_cases k20_9 : (x / (nI 1000)) = (9 : Int32)
                    · refine lv_tableIn (tgt := 130) hx hb dX1_after_20 (by rw [k20_9]; decide) (by rw [k20_9]; decide) (by rw [k20_9]; rfl) (by decide) ?_
                      refine lv_aload_n hx hb dX1_after_130 rfl (lv_at hl 5 rfl) ?_
                      refine lv_iload hx hb dX1_after_131 (lv_at hl 1 rfl) ?_
                      refine lv_iload_n hx hb dX1_after_133 rfl (lv_at hl 4 rfl) ?_
                      refine zq_cV (rest := []) ⟨hx, hb, hml, hown, hts⟩ (zq_ro_mono (c_X2_given l D cI cZ cW cC w g G (za x) (nI r)) (fun v h => h.trans (congrArg (fun z => some (Value.int z)) (zg_p hr)))) (cwV 2 hts gX1_after_X2_given rfl rfl rfl (by decide +kernel) ⟨Nat.le_of_ble_eq_true rfl, Nat.le_of_ble_eq_true rfl⟩) hK hP 2 0 rfl rfl rfl hl.1 rfl (Nat.le_of_ble_eq_true rfl) dX1_after_134 ⟨Nat.le_of_ble_eq_true rfl, Nat.le_of_ble_eq_true rfl⟩ (fun v hv => ?_)
                      obtain rfl := hv
                      refine W.eq (g2 := F0 m 137 ls [.int (zgp G (za x) r)]) rfl ?_
                      exact ret _ _ _ (by simp [zaf, k20_9]) dX1_after_137
                    · by_cases k20_10 : (x / (nI 1000)) = (10 : Int32)
                      · refine lv_tableIn (tgt := 138) hx hb dX1_after_20 (by rw [k20_10]; decide) (by rw [k20_10]; decide) (by rw [k20_10]; rfl) (by decide) ?_
                        refine lv_iload hx hb dX1_after_138 (lv_at hl 1 rfl) ?_
                        refine lv_if_le (tgt := 152) hx hb dX1_after_140 (by decide) (fun c140 => ?_) (fun c140 => ?_)
                        · refine lv_ldc (v := (-2147483648 : Int32)) hx hb hown (hts _ w_X1_after__constant_RX1_51_2147483648__a74791) dX1_after_152 ?_
                          exact ret _ _ _ (by simp [zaf, k20_10, c140, Int32.not_lt.mpr c140]) dX1_after_154
                        · refine lv_iload_n hx hb dX1_after_143 rfl (lv_at hl 3 rfl) ?_
                          refine lv_iload hx hb dX1_after_144 (lv_at hl 1 rfl) ?_
                          refine zq_cS (rest := []) ⟨hx, hb, hml, hown, hts⟩ (c_J9_floorMod_7cf53 l D cI cZ cW cC u (za x) (fun h => c140 (by rw [h]; decide))) (va_cwS 2 hts gX1_after_J9_floorMod_7cf53 rfl rfl rfl (by decide +kernel) ⟨Nat.le_of_ble_eq_true rfl, Nat.le_of_ble_eq_true rfl⟩) hK (fun k q h => by simp at h) rfl hl.1 rfl (Nat.le_of_ble_eq_true rfl) dX1_after_146 ⟨Nat.le_of_ble_eq_true rfl, Nat.le_of_ble_eq_true rfl⟩ (fun v hv => ?_)
                          obtain rfl := hv
                          refine W.eq (g2 := F0 m 149 ls [.int (zfm u (za x))]) rfl ?_
                          refine lv_goto (tgt := 154) hx hb dX1_after_149 (by decide) ?_
                          exact ret _ _ _ (by simp [zaf, k20_10, c140, Int32.not_le.mp c140]) dX1_after_154
                      · refine lv_tableOut (tgt := 155) hx hb dX1_after_20 (by have k20_0T := lv_neT k20_0 (a := 0) rfl; have k20_1T := lv_neT k20_1 (a := 1) rfl; have k20_2T := lv_neT k20_2 (a := 2) rfl; have k20_3T := lv_neT k20_3 (a := 3) rfl; have k20_4T := lv_neT k20_4 (a := 4) rfl; have k20_5T := lv_neT k20_5 (a := 5) rfl; have k20_6T := lv_neT k20_6 (a := 6) rfl; have k20_7T := lv_neT k20_7 (a := 7) rfl; have k20_8T := lv_neT k20_8 (a := 8) rfl; have k20_9T := lv_neT k20_9 (a := 9) rfl; have k20_10T := lv_neT k20_10 (a := 10) rfl; omega) (by decide) ?_
                        refine lv_ldc (v := (-2147483648 : Int32)) hx hb hown (hts _ w_X1_after__constant_RX1_51_2147483648__a74791) dX1_after_155 ?_
                        exact ret _ _ _ (by simp [zaf, k20_0, k20_1, k20_2, k20_3, k20_4, k20_5, k20_6, k20_7, k20_8, k20_9, k20_10]) dX1_after_157
theorem w_X1_goThrough__constant_RX1_51_2147483648__a74791 : (.constant RX1 51 (-2147483648) : Cond) ∈ wsX1_goThrough := by decide +kernel
theorem w_X1_goThrough__initialized_RX3_7f12e8 : (.initialized RX3 : Cond) ∈ wsX1_goThrough := by decide +kernel
theorem w_X1_goThrough__static_yX3_isWithinLimit_eac379 : (.static yX3_isWithinLimit : Cond) ∈ wsX1_goThrough := by decide +kernel
set_option maxHeartbeats 4000000 in
set_option maxRecDepth 100000 in
theorem c_X1_goThrough (l : Launch) (D : va_G) (cI cZ cW cC : ClassId) (cd ss sl : Nat) (st ln : Nat → Int32) (f : Nat) (hf : f < 6) (n : Nat) (hn : n ≤ 12) (hln : ln f = nI n) (w g : Nat) (G : Nat → Int32) (r : Nat) (hr : r < 256) : zq_ro l D cI cZ cW cC yX1_goThrough wsX1_goThrough ({ frames := 2, cells := 0, slots := 0, locals := 47 } : Room) [.ref cd, .int (nI f), .int (nI r), .ref w] [(cd, .inr (1, [.ref ss, .ref sl])), (ss, .inl (cI, 72, .inl st)), (sl, .inl (cI, 6, .inl ln)), (w, .inr (2, [.ref g])), (g, .inl (cI, 1536, .inl G))] (fun v => v = some (.int (zwk G st f r n 0 false 0))) := by
  refine zq_roI (own := RX1) (by decide) rfl rfl (Nat.le_of_ble_eq_true rfl) ?_
  intro p e s m below meth c Q ls hF hP hK hl ret
  obtain ⟨hx, hb, hml, hown, hts⟩ := hF
  have hl : lv_has ls 9 [(0, .ref cd), (1, .int (nI f)), (2, .int (nI r)), (3, .ref w)] := hl
  refine lv_iconst (v := (0 : Int32)) hx hb dX1_goThrough_0 (by decide) ?_
  refine lv_istore (lv' := [(4, .int (0 : Int32)), (0, .ref cd), (1, .int (nI f)), (2, .int (nI r)), (3, .ref w)]) hx hb dX1_goThrough_1 hl (by decide) rfl (fun ls hl => ?_)
  refine lv_iconst (v := (0 : Int32)) hx hb dX1_goThrough_3 (by decide) ?_
  refine lv_istore (lv' := [(5, .int (0 : Int32)), (4, .int (0 : Int32)), (0, .ref cd), (1, .int (nI f)), (2, .int (nI r)), (3, .ref w)]) hx hb dX1_goThrough_4 hl (by decide) rfl (fun ls hl => ?_)
  refine lv_aload_n hx hb dX1_goThrough_6 rfl (lv_at hl 2 rfl) ?_
  refine lv_iload_n hx hb dX1_goThrough_7 rfl (lv_at hl 3 rfl) ?_
  refine zq_cV (rest := []) ⟨hx, hb, hml, hown, hts⟩ (zq_ro_mono (c_X1_length l D cI cZ cW cC cd ss sl st ln f hf) (fun v h => h.trans (congrArg (fun z => some (Value.int z)) hln))) (cwV 1 hts gX1_goThrough_X1_length rfl rfl rfl (by decide +kernel) ⟨Nat.le_of_ble_eq_true rfl, Nat.le_of_ble_eq_true rfl⟩) hK (hP.sub [0, 1, 2] rfl) 1 0 rfl rfl rfl hl.1 rfl (Nat.le_of_ble_eq_true rfl) dX1_goThrough_8 ⟨Nat.le_of_ble_eq_true rfl, Nat.le_of_ble_eq_true rfl⟩ (fun v hv => ?_)
  obtain rfl := hv
  refine W.eq (g2 := F0 m 11 ls [.int (nI n)]) rfl ?_
  refine lv_istore (lv' := [(6, .int (nI n)), (5, .int (0 : Int32)), (4, .int (0 : Int32)), (0, .ref cd), (1, .int (nI f)), (2, .int (nI r)), (3, .ref w)]) hx hb dX1_goThrough_11 hl (by decide) rfl (fun ls hl => ?_)
  refine lv_iconst (v := (nI 0)) hx hb dX1_goThrough_13 (by decide) ?_
  refine lv_istore (lv' := [(7, .int (nI 0)), (6, .int (nI n)), (5, .int (0 : Int32)), (4, .int (0 : Int32)), (0, .ref cd), (1, .int (nI f)), (2, .int (nI r)), (3, .ref w)]) hx hb dX1_goThrough_14 hl (by decide) rfl (fun ls hl => ?_)
  have loop16 : ∀ (fu : Nat) (k j : Nat) (b : Bool) (u : Int32) (ls : Array Slot), (j) < fu → (k + j = n) → (zwk G st f r n 0 false 0 = zwk G st f r j k b u) → lv_has ls 9 [(0, .ref cd), (1, .int (nI f)), (2, .int (nI r)), (3, .ref w), (4, .int u), (5, .int (if b then (1 : Int32) else 0)), (6, .int (nI n)), (7, .int (nI k))] → W p l e ({ frames := 2, cells := 0, slots := 0, locals := 47 } : Room) s m ([.ref cd, .int (nI f), .int (nI r), .ref w] : List Value).toArray below meth c s.heap [] 0 0 Q (F0 m 16 ls []) := by
    intro fu
    induction fu with
    | zero => intro _ _ _ _ _ hmu; exact absurd hmu (Nat.not_lt_zero _)
    | succ fu ih =>
      intro k j b u ls hmu hk hz hl
      refine lv_iload hx hb dX1_goThrough_16 (lv_at hl 7 rfl) ?_
      refine lv_iload hx hb dX1_goThrough_18 (lv_at hl 6 rfl) ?_
      refine lv_icmp_ge (tgt := 107) hx hb dX1_goThrough_20 (by decide) (fun c20 => ?_) (fun c20 => ?_)
      · have h20 := zle c20
        refine lv_iload hx hb dX1_goThrough_107 (lv_at hl 4 rfl) ?_
        exact ret _ _ _ (by rw [hz, show j = 0 by omega, zwk]) dX1_goThrough_109
      · have h20 := znle c20
        obtain ⟨j, rfl⟩ : ∃ i, j = i + 1 := ⟨j - 1, by omega⟩
        refine lv_aload_n hx hb dX1_goThrough_23 rfl (lv_at hl 0 rfl) ?_
        refine lv_iload_n hx hb dX1_goThrough_24 rfl (lv_at hl 1 rfl) ?_
        refine lv_iload hx hb dX1_goThrough_25 (lv_at hl 7 rfl) ?_
        refine zq_cV (rest := []) ⟨hx, hb, hml, hown, hts⟩ (c_X1_at l D cI cZ cW cC cd ss sl st ln f hf k (by omega)) (cwV 2 hts gX1_goThrough_X1_at rfl rfl rfl (by decide +kernel) ⟨Nat.le_of_ble_eq_true rfl, Nat.le_of_ble_eq_true rfl⟩) hK (hP.sub [0, 1, 2] rfl) 1 0 rfl rfl rfl hl.1 rfl (Nat.le_of_ble_eq_true rfl) dX1_goThrough_27 ⟨Nat.le_of_ble_eq_true rfl, Nat.le_of_ble_eq_true rfl⟩ (fun v hv => ?_)
        obtain rfl := hv
        refine W.eq (g2 := F0 m 30 ls [.int (st (12 * f + k))]) rfl ?_
        refine lv_istore (lv' := [(8, .int (st (12 * f + k))), (0, .ref cd), (1, .int (nI f)), (2, .int (nI r)), (3, .ref w), (4, .int u), (5, .int (if b then (1 : Int32) else 0)), (6, .int (nI n)), (7, .int (nI k))]) hx hb dX1_goThrough_30 hl (by decide) rfl (fun ls hl => ?_)
        refine lv_iload hx hb dX1_goThrough_32 (lv_at hl 6 rfl) ?_
        refine lv_if_eq (tgt := 43) hx hb dX1_goThrough_34 (by decide) (fun c34 => ?_) (fun c34 => ?_)
        · have hb2 : b = false := by
            cases b
            · rfl
            · exact absurd c34 (by decide)
          subst hb2
          refine lv_iload hx hb dX1_goThrough_43 (lv_at hl 0 rfl) ?_
          refine lv_sipush (v := (nI 1000)) hx hb dX1_goThrough_45 (by decide) ?_
          refine lv_idiv hx hb dX1_goThrough_48 (nI_ne0 (by omega) (by omega)) ?_
          refine lv_bipush (v := (nI 7)) hx hb dX1_goThrough_49 (by decide) ?_
          refine lv_icmp_ne (tgt := 79) hx hb dX1_goThrough_51 (by decide) (fun c51 => ?_) (fun c51 => ?_)
          · refine lv_iload hx hb dX1_goThrough_79 (lv_at hl 0 rfl) ?_
            refine lv_iload hx hb dX1_goThrough_81 (lv_at hl 5 rfl) ?_
            refine lv_iload_n hx hb dX1_goThrough_83 rfl (lv_at hl 3 rfl) ?_
            refine lv_aload_n hx hb dX1_goThrough_84 rfl (lv_at hl 4 rfl) ?_
            refine zq_cS (rest := []) ⟨hx, hb, hml, hown, hts⟩ (c_X1_after l D cI cZ cW cC w g G (st (12 * f + k)) u r hr) (va_cwS 4 hts gX1_goThrough_X1_after rfl rfl rfl (by decide +kernel) ⟨Nat.le_of_ble_eq_true rfl, Nat.le_of_ble_eq_true rfl⟩) hK (hP.sub [3, 4] rfl) rfl hl.1 rfl (Nat.le_of_ble_eq_true rfl) dX1_goThrough_85 ⟨Nat.le_of_ble_eq_true rfl, Nat.le_of_ble_eq_true rfl⟩ (fun v hv => ?_)
            obtain rfl := hv
            refine W.eq (g2 := F0 m 88 ls [.int (zaf G (st (12 * f + k)) u r)]) rfl ?_
            refine lv_istore (lv' := [(4, .int (zaf G (st (12 * f + k)) u r)), (8, .int (st (12 * f + k))), (0, .ref cd), (1, .int (nI f)), (2, .int (nI r)), (3, .ref w), (5, .int (if false then (1 : Int32) else 0)), (6, .int (nI n)), (7, .int (nI k))]) hx hb dX1_goThrough_88 hl (by decide) rfl (fun ls hl => ?_)
            refine lv_iload hx hb dX1_goThrough_90 (lv_at hl 0 rfl) ?_
            refine zq_cN (rest := []) ⟨hx, hb, hml, hown, hts⟩ (c_X3_isWithinLimit l D cI cZ cW cC (zaf G (st (12 * f + k)) u r)) ⟨va_cnB (own := RX1) (index := 48) (host := RX3) 1 hts gX1_goThrough_X3_isWithinLimit_n48 rfl rfl rfl hK.2.2.1 (hts _ w_X1_goThrough__initialized_RX3_7f12e8) (by decide +kernel) ⟨Nat.le_of_ble_eq_true rfl, Nat.le_of_ble_eq_true rfl⟩, (hts _ w_X1_goThrough__static_yX3_isWithinLimit_eac379), trivial⟩ hK (fun k q h => by simp at h) rfl hl.1 rfl (Nat.le_of_ble_eq_true rfl) dX1_goThrough_92 ⟨Nat.le_of_ble_eq_true rfl, Nat.le_of_ble_eq_true rfl⟩ (fun v hv => ?_)
            rcases hv with ⟨rfl, hyw⟩ | ⟨rfl, hyw⟩
            · refine W.eq (g2 := F0 m 95 ls [.int (1 : Int32)]) rfl ?_
              refine lv_if_ne (tgt := 101) hx hb dX1_goThrough_95 (by decide) (fun c95 => ?_) (fun c95 => absurd c95 (by decide))
              refine lv_iinc (v := (nI (k + 1))) (lv' := [(7, .int (nI (k + 1))), (4, .int (zaf G (st (12 * f + k)) u r)), (8, .int (st (12 * f + k))), (0, .ref cd), (1, .int (nI f)), (2, .int (nI r)), (3, .ref w), (5, .int (if false then (1 : Int32) else 0)), (6, .int (nI n))]) hx hb dX1_goThrough_101 hl (k := 8) rfl ((nI_succ _).symm) (by decide) rfl (fun ls hl => ?_)
              refine lv_goto (tgt := 16) hx hb dX1_goThrough_104 (by decide) ?_
              exact ih (k + 1) j false (zaf G (st (12 * f + k)) u r) ls (by omega) (by omega) (by rw [hz, zwk, if_neg c51, if_pos hyw]) (lv_sub hl [3, 4, 5, 6, 1, 7, 8, 0] rfl)
            · refine W.eq (g2 := F0 m 95 ls [.int (0 : Int32)]) rfl ?_
              refine lv_if_ne (tgt := 101) hx hb dX1_goThrough_95 (by decide) (fun c95 => absurd c95 (by decide)) (fun c95 => ?_)
              refine lv_ldc (v := (-2147483648 : Int32)) hx hb hown (hts _ w_X1_goThrough__constant_RX1_51_2147483648__a74791) dX1_goThrough_98 ?_
              exact ret _ _ _ (by rw [hz, zwk, if_neg c51, if_neg (fun q => hyw.elim (fun z => absurd q.1 (Int32.not_le.mpr z)) (fun z => absurd q.2 (Int32.not_le.mpr z)))]) dX1_goThrough_100
          · refine lv_iload hx hb dX1_goThrough_54 (lv_at hl 5 rfl) ?_
            refine lv_iload hx hb dX1_goThrough_56 (lv_at hl 0 rfl) ?_
            refine lv_sipush (v := (nI 1000)) hx hb dX1_goThrough_58 (by decide) ?_
            refine lv_irem hx hb dX1_goThrough_61 (nI_ne0 (by omega) (by omega)) ?_
            refine zq_te (y := (za (st (12 * f + k)))) rfl ?_
            refine lv_sipush (v := (nI 500)) hx hb dX1_goThrough_62 (by decide) ?_
            refine lv_isub hx hb dX1_goThrough_65 ?_
            refine lv_icmp_ge (tgt := 73) hx hb dX1_goThrough_66 (by decide) (fun c66 => ?_) (fun c66 => ?_)
            · refine lv_iconst (v := (0 : Int32)) hx hb dX1_goThrough_73 (by decide) ?_
              refine lv_istore (lv' := [(5, .int (0 : Int32)), (8, .int (st (12 * f + k))), (0, .ref cd), (1, .int (nI f)), (2, .int (nI r)), (3, .ref w), (4, .int u), (6, .int (nI n)), (7, .int (nI k))]) hx hb dX1_goThrough_74 hl (by decide) rfl (fun ls hl => ?_)
              refine lv_goto (tgt := 101) hx hb dX1_goThrough_76 (by decide) ?_
              refine lv_iinc (v := (nI (k + 1))) (lv' := [(7, .int (nI (k + 1))), (5, .int (0 : Int32)), (8, .int (st (12 * f + k))), (0, .ref cd), (1, .int (nI f)), (2, .int (nI r)), (3, .ref w), (4, .int u), (6, .int (nI n))]) hx hb dX1_goThrough_101 hl (k := 8) rfl ((nI_succ _).symm) (by decide) rfl (fun ls hl => ?_)
              refine lv_goto (tgt := 16) hx hb dX1_goThrough_104 (by decide) ?_
              exact ih (k + 1) j false u ls (by omega) (by omega) (by rw [hz, zwk, if_pos c51, decide_eq_false (Int32.not_lt.mpr c66)]) (lv_sub hl [3, 4, 5, 6, 7, 1, 8, 0] rfl)
            · refine lv_iconst (v := (1 : Int32)) hx hb dX1_goThrough_69 (by decide) ?_
              refine lv_goto (tgt := 74) hx hb dX1_goThrough_70 (by decide) ?_
              refine lv_istore (lv' := [(5, .int (1 : Int32)), (8, .int (st (12 * f + k))), (0, .ref cd), (1, .int (nI f)), (2, .int (nI r)), (3, .ref w), (4, .int u), (6, .int (nI n)), (7, .int (nI k))]) hx hb dX1_goThrough_74 hl (by decide) rfl (fun ls hl => ?_)
              refine lv_goto (tgt := 101) hx hb dX1_goThrough_76 (by decide) ?_
              refine lv_iinc (v := (nI (k + 1))) (lv' := [(7, .int (nI (k + 1))), (5, .int (1 : Int32)), (8, .int (st (12 * f + k))), (0, .ref cd), (1, .int (nI f)), (2, .int (nI r)), (3, .ref w), (4, .int u), (6, .int (nI n))]) hx hb dX1_goThrough_101 hl (k := 8) rfl ((nI_succ _).symm) (by decide) rfl (fun ls hl => ?_)
              refine lv_goto (tgt := 16) hx hb dX1_goThrough_104 (by decide) ?_
              exact ih (k + 1) j true u ls (by omega) (by omega) (by rw [hz, zwk, if_pos c51, decide_eq_true (Int32.not_le.mp c66)]) (lv_sub hl [3, 4, 5, 6, 7, 1, 8, 0] rfl)
        · have hb2 : b = true := by
            cases b
            · exact absurd rfl c34
            · rfl
          subst hb2
          refine lv_iconst (v := (0 : Int32)) hx hb dX1_goThrough_37 (by decide) ?_
          refine lv_istore (lv' := [(5, .int (0 : Int32)), (8, .int (st (12 * f + k))), (0, .ref cd), (1, .int (nI f)), (2, .int (nI r)), (3, .ref w), (4, .int u), (6, .int (nI n)), (7, .int (nI k))]) hx hb dX1_goThrough_38 hl (by decide) rfl (fun ls hl => ?_)
          refine lv_goto (tgt := 101) hx hb dX1_goThrough_40 (by decide) ?_
          refine lv_iinc (v := (nI (k + 1))) (lv' := [(7, .int (nI (k + 1))), (5, .int (0 : Int32)), (8, .int (st (12 * f + k))), (0, .ref cd), (1, .int (nI f)), (2, .int (nI r)), (3, .ref w), (4, .int u), (6, .int (nI n))]) hx hb dX1_goThrough_101 hl (k := 8) rfl ((nI_succ _).symm) (by decide) rfl (fun ls hl => ?_)
          refine lv_goto (tgt := 16) hx hb dX1_goThrough_104 (by decide) ?_
          exact ih (k + 1) j false u ls (by omega) (by omega) (by rw [hz, zwk]) (lv_sub hl [3, 4, 5, 6, 7, 1, 8, 0] rfl)
  exact loop16 (n + 1) 0 n false 0 ls (by omega) (by omega) rfl (lv_sub hl [4, 5, 6, 7, 3, 2, 1, 0] rfl)
end
section
/-! World, Code, Claim: writing methods -/
def zval (st : Nat → Int32) (f n : Nat) : Prop := ∀ k, k < n → st (12 * f + k) / nI 1000 = nI 9 → ∃ a, a < f ∧ za (st (12 * f + k)) = nI a
theorem zaf_cong {G G' : Nat → Int32} {f r : Nat} {x v : Int32} (hG : ∀ j, j < 256 * f → G j = G' j) (hf : f < 6) (hr : r < 256) (hv : x / nI 1000 = nI 9 → ∃ a, a < f ∧ za x = nI a) : zaf G x v r = zaf G' x v r := by
  unfold zaf
  by_cases h : x / nI 1000 = nI 9
  · obtain ⟨a, ha, e⟩ := hv h
    have e2 : zgp G (za x) r = zgp G' (za x) r := by
      unfold zgp
      rw [e, nI_clamp (by omega), hG _ (by omega)]
    rw [e2]
  · have h' : ¬ x / nI 1000 = 9 := h
    simp only [h', if_false]
theorem zwk_cong {G G' : Nat → Int32} {st : Nat → Int32} {f r : Nat} (hG : ∀ j, j < 256 * f → G j = G' j) (hf : f < 6) (hr : r < 256) : ∀ (n k : Nat) (b : Bool) (v : Int32), (∀ i, k ≤ i → i < k + n → st (12 * f + i) / nI 1000 = nI 9 → ∃ a, a < f ∧ za (st (12 * f + i)) = nI a) → zwk G st f r n k b v = zwk G' st f r n k b v
  | 0, _, _, _, _ => by simp [zwk]
  | n + 1, k, true, v, h => by
    rw [zwk, zwk]
    exact zwk_cong hG hf hr n (k + 1) false v (fun i h1 h2 => h i (by omega) (by omega))
  | n + 1, k, false, v, h => by
    rw [zwk, zwk, zaf_cong hG hf hr (h k (by omega) (by omega)), zwk_cong hG hf hr n (k + 1) _ v (fun i h1 h2 => h i (by omega) (by omega)), zwk_cong hG hf hr n (k + 1) false _ (fun i h1 h2 => h i (by omega) (by omega))]
theorem zwk_cong0 {G G' : Nat → Int32} {st : Nat → Int32} {f r n : Nat} (hG : ∀ j, j < 256 * f → G j = G' j) (hf : f < 6) (hr : r < 256) (hv : zval st f n) (v : Int32) : zwk G st f r n 0 false v = zwk G' st f r n 0 false v := zwk_cong hG hf hr n 0 false v (fun i _ h2 => hv i (by omega))

theorem w_X2_put__fieldLink_RX2_9_WordsBeside_World_gives_I__36404f : (.fieldLink RX2 9 "WordsBeside$World" "gives" "[I" : Cond) ∈ wsX2_put := by decide +kernel
theorem w_X2_put__initialized_RX3_7f12e8 : (.initialized RX3 : Cond) ∈ wsX2_put := by decide +kernel
theorem w_X2_put__static_yX3_isFunction_d3d570 : (.static yX3_isFunction : Cond) ∈ wsX2_put := by decide +kernel
theorem w_X2_put__static_yX3_isRun_0d8319 : (.static yX3_isRun : Cond) ∈ wsX2_put := by decide +kernel
theorem in_X2_put_X2 : ∀ w ∈ wsX20, w ∈ wsX2_put := fun _ h => List.mem_cons_of_mem _ (List.mem_append_right _ h)
set_option maxHeartbeats 4000000 in
set_option maxRecDepth 100000 in
theorem c_X2_put (l : Launch) (D : va_G) (cI cZ cW cC : ClassId) (w g : Nat) (G : Nat → Int32) (f r : Nat) (hf : f < 6) (hr : r < 256) (x : Int32) (sz : Nat) : zq_mu l D cI cZ cW cC yX2_put wsX2_put ({ frames := 1, cells := 0, slots := 0, locals := 20 } : Room) [.ref w, .int (nI f), .int (nI r), .int x] [(w, .inr (2, [.ref g])), (g, .inl (cI, 1536, .inl G))] sz (fun v w1 => v = none ∧ w1 = [(w, .inr (2, [.ref g])), (g, .inl (cI, 1536, .inl (upd G (256 * f + r) x)))]) 0 0 := by
  refine zq_muV (own := RX2) (by decide) rfl rfl (Nat.le_of_ble_eq_true rfl) ?_
  intro p e s m below meth c Q A ls hsz hF hin hA hP hK hD hS hl ret
  obtain ⟨hx, hb, hml, hown, hts⟩ := hF
  have hl : lv_has ls 4 [(0, .ref w), (1, .int (nI f)), (2, .int (nI r)), (3, .int x)] := hl
  refine lv_iload_n hx hb dX2_put_0 rfl (lv_at hl 1 rfl) ?_
  refine zq_cN (rest := []) ⟨hx, hb, hml, hown, hts⟩ (zq_ro_mono (c_X3_isFunction l D cI cZ cW cC (nI f)) (fun v h => h.resolve_right (fun q => q.2 (zr_nI hf)))) ⟨va_cnB (own := RX2) (index := 22) (host := RX3) 1 hts gX2_put_X3_isFunction_n22 rfl rfl rfl hK.2.2.2.1 (hts _ w_X2_put__initialized_RX3_7f12e8) (by decide +kernel) ⟨Nat.le_of_ble_eq_true rfl, Nat.le_of_ble_eq_true rfl⟩, (hts _ w_X2_put__static_yX3_isFunction_d3d570), trivial⟩ hK (fun k q h => by simp at h) rfl hl.1 rfl (Nat.le_of_ble_eq_true rfl) dX2_put_1 ⟨Nat.le_of_ble_eq_true rfl, Nat.le_of_ble_eq_true rfl⟩ (fun v hv => ?_)
  obtain ⟨rfl, hyf⟩ := hv
  refine W.eq (g2 := F0 m 4 ls [.int (1 : Int32)]) rfl ?_
  refine lv_if_eq (tgt := 27) hx hb dX2_put_4 (by decide) (fun c4 => absurd c4 (by decide)) (fun c4 => ?_)
  refine lv_iload_n hx hb dX2_put_7 rfl (lv_at hl 2 rfl) ?_
  refine zq_cN (rest := []) ⟨hx, hb, hml, hown, hts⟩ (zq_ro_mono (c_X3_isRun l D cI cZ cW cC (nI r)) (fun v h => h.resolve_right (fun q => q.2 (zr_nI hr)))) ⟨va_cnB (own := RX2) (index := 26) (host := RX3) 1 hts gX2_put_X3_isRun_n26 rfl rfl rfl hK.2.2.2.2.1 (hts _ w_X2_put__initialized_RX3_7f12e8) (by decide +kernel) ⟨Nat.le_of_ble_eq_true rfl, Nat.le_of_ble_eq_true rfl⟩, (hts _ w_X2_put__static_yX3_isRun_0d8319), trivial⟩ hK (fun k q h => by simp at h) rfl hl.1 rfl (Nat.le_of_ble_eq_true rfl) dX2_put_8 ⟨Nat.le_of_ble_eq_true rfl, Nat.le_of_ble_eq_true rfl⟩ (fun v hv => ?_)
  obtain ⟨rfl, hyr⟩ := hv
  refine W.eq (g2 := F0 m 11 ls [.int (1 : Int32)]) rfl ?_
  refine lv_if_eq (tgt := 27) hx hb dX2_put_11 (by decide) (fun c11 => absurd c11 (by decide)) (fun c11 => ?_)
  refine lv_aload_n hx hb dX2_put_14 rfl (lv_at hl 0 rfl) ?_
  refine zq_get hx hb hts in_X2_put_X2 hown hK hP 0 rfl rfl 0 (by decide) (hts _ w_X2_put__fieldLink_RX2_9_WordsBeside_World_gives_I__36404f) rfl dX2_put_15 ?_
  refine lv_iload_n hx hb dX2_put_18 rfl (lv_at hl 1 rfl) ?_
  refine lv_sipush (v := (nI 256)) hx hb dX2_put_19 (by decide) ?_
  refine lv_imul hx hb dX2_put_22 ?_
  refine lv_iload_n hx hb dX2_put_23 rfl (lv_at hl 2 rfl) ?_
  refine lv_iadd hx hb dX2_put_24 ?_
  refine lv_iload_n hx hb dX2_put_25 rfl (lv_at hl 3 rfl) ?_
  refine zq_ist hx hb hK hP hD hS 1 rfl (256 * f + r) (by simp only [pk_mul, nI_add] <;> (congr 1; omega)) (by omega) (by decide) dX2_put_26 (fun H locs hP hD hS => ?_)
  have hP : va_P D vwCl [(w, .inr (2, [.ref g])), (g, .inl (cI, 1536, .inl (upd G (256 * f + r) x)))] H := hP
  have hD : va_D A [(w, .inr (2, [.ref g])), (g, .inl (cI, 1536, .inl (upd G (256 * f + r) x)))] := hD
  exact ret _ _ _ _ _ ⟨rfl, rfl⟩ hP hD hS dX2_put_27
theorem w_X1_empty__fieldLink_RX1_15_WordsBeside_Code_lengths_I__c3572a : (.fieldLink RX1 15 "WordsBeside$Code" "lengths" "[I" : Cond) ∈ wsX1_empty := by decide +kernel
theorem w_X1_empty__initialized_RX3_7f12e8 : (.initialized RX3 : Cond) ∈ wsX1_empty := by decide +kernel
theorem w_X1_empty__static_yX3_isFunction_d3d570 : (.static yX3_isFunction : Cond) ∈ wsX1_empty := by decide +kernel
theorem in_X1_empty_X1 : ∀ w ∈ wsX10, w ∈ wsX1_empty := fun _ h => List.mem_cons_of_mem _ (List.mem_append_right _ h)
set_option maxHeartbeats 4000000 in
set_option maxRecDepth 100000 in
theorem c_X1_empty (l : Launch) (D : va_G) (cI cZ cW cC : ClassId) (cd ss sl : Nat) (st ln : Nat → Int32) (f : Nat) (hf : f < 6) (sz : Nat) : zq_mu l D cI cZ cW cC yX1_empty wsX1_empty ({ frames := 1, cells := 0, slots := 0, locals := 20 } : Room) [.ref cd, .int (nI f)] [(cd, .inr (1, [.ref ss, .ref sl])), (ss, .inl (cI, 72, .inl st)), (sl, .inl (cI, 6, .inl ln))] sz (fun v w1 => v = none ∧ w1 = [(cd, .inr (1, [.ref ss, .ref sl])), (ss, .inl (cI, 72, .inl st)), (sl, .inl (cI, 6, .inl (upd ln f 0)))]) 0 0 := by
  refine zq_muV (own := RX1) (by decide) rfl rfl (Nat.le_of_ble_eq_true rfl) ?_
  intro p e s m below meth c Q A ls hsz hF hin hA hP hK hD hS hl ret
  obtain ⟨hx, hb, hml, hown, hts⟩ := hF
  have hl : lv_has ls 2 [(0, .ref cd), (1, .int (nI f))] := hl
  refine lv_iload_n hx hb dX1_empty_0 rfl (lv_at hl 1 rfl) ?_
  refine zq_cN (rest := []) ⟨hx, hb, hml, hown, hts⟩ (zq_ro_mono (c_X3_isFunction l D cI cZ cW cC (nI f)) (fun v h => h.resolve_right (fun q => q.2 (zr_nI hf)))) ⟨va_cnB (own := RX1) (index := 18) (host := RX3) 1 hts gX1_empty_X3_isFunction_n18 rfl rfl rfl hK.2.1 (hts _ w_X1_empty__initialized_RX3_7f12e8) (by decide +kernel) ⟨Nat.le_of_ble_eq_true rfl, Nat.le_of_ble_eq_true rfl⟩, (hts _ w_X1_empty__static_yX3_isFunction_d3d570), trivial⟩ hK (fun k q h => by simp at h) rfl hl.1 rfl (Nat.le_of_ble_eq_true rfl) dX1_empty_1 ⟨Nat.le_of_ble_eq_true rfl, Nat.le_of_ble_eq_true rfl⟩ (fun v hv => ?_)
  obtain ⟨rfl, hyf⟩ := hv
  refine W.eq (g2 := F0 m 4 ls [.int (1 : Int32)]) rfl ?_
  refine lv_if_eq (tgt := 14) hx hb dX1_empty_4 (by decide) (fun c4 => absurd c4 (by decide)) (fun c4 => ?_)
  refine lv_aload_n hx hb dX1_empty_7 rfl (lv_at hl 0 rfl) ?_
  refine zq_get hx hb hts in_X1_empty_X1 hown hK hP 0 rfl rfl 1 (by decide) (hts _ w_X1_empty__fieldLink_RX1_15_WordsBeside_Code_lengths_I__c3572a) rfl dX1_empty_8 ?_
  refine lv_iload_n hx hb dX1_empty_11 rfl (lv_at hl 1 rfl) ?_
  refine lv_iconst (v := (0 : Int32)) hx hb dX1_empty_12 (by decide) ?_
  refine zq_ist hx hb hK hP hD hS 2 rfl f rfl (by omega) (by decide) dX1_empty_13 (fun H locs hP hD hS => ?_)
  have hP : va_P D vwCl [(cd, .inr (1, [.ref ss, .ref sl])), (ss, .inl (cI, 72, .inl st)), (sl, .inl (cI, 6, .inl (upd ln f (0 : Int32))))] H := hP
  have hD : va_D A [(cd, .inr (1, [.ref ss, .ref sl])), (ss, .inl (cI, 72, .inl st)), (sl, .inl (cI, 6, .inl (upd ln f (0 : Int32))))] := hD
  exact ret _ _ _ _ _ ⟨rfl, rfl⟩ hP hD hS dX1_empty_14
theorem w_X1_put__fieldLink_RX1_9_WordsBeside_Code_steps_I__23634e : (.fieldLink RX1 9 "WordsBeside$Code" "steps" "[I" : Cond) ∈ wsX1_put := by decide +kernel
theorem w_X1_put__initialized_RX3_7f12e8 : (.initialized RX3 : Cond) ∈ wsX1_put := by decide +kernel
theorem w_X1_put__static_yX3_isFunction_d3d570 : (.static yX3_isFunction : Cond) ∈ wsX1_put := by decide +kernel
theorem in_X1_put_X1 : ∀ w ∈ wsX10, w ∈ wsX1_put := fun _ h => List.mem_cons_of_mem _ (List.mem_append_right _ h)
set_option maxHeartbeats 4000000 in
set_option maxRecDepth 100000 in
theorem c_X1_put (l : Launch) (D : va_G) (cI cZ cW cC : ClassId) (cd ss sl : Nat) (st ln : Nat → Int32) (f : Nat) (hf : f < 6) (k : Nat) (hk : k < 12) (x : Int32) (sz : Nat) : zq_mu l D cI cZ cW cC yX1_put wsX1_put ({ frames := 1, cells := 0, slots := 0, locals := 20 } : Room) [.ref cd, .int (nI f), .int (nI k), .int x] [(cd, .inr (1, [.ref ss, .ref sl])), (ss, .inl (cI, 72, .inl st)), (sl, .inl (cI, 6, .inl ln))] sz (fun v w1 => v = none ∧ w1 = [(cd, .inr (1, [.ref ss, .ref sl])), (ss, .inl (cI, 72, .inl (upd st (12 * f + k) x))), (sl, .inl (cI, 6, .inl ln))]) 0 0 := by
  refine zq_muV (own := RX1) (by decide) rfl rfl (Nat.le_of_ble_eq_true rfl) ?_
  intro p e s m below meth c Q A ls hsz hF hin hA hP hK hD hS hl ret
  obtain ⟨hx, hb, hml, hown, hts⟩ := hF
  have hl : lv_has ls 4 [(0, .ref cd), (1, .int (nI f)), (2, .int (nI k)), (3, .int x)] := hl
  refine lv_iload_n hx hb dX1_put_0 rfl (lv_at hl 1 rfl) ?_
  refine zq_cN (rest := []) ⟨hx, hb, hml, hown, hts⟩ (zq_ro_mono (c_X3_isFunction l D cI cZ cW cC (nI f)) (fun v h => h.resolve_right (fun q => q.2 (zr_nI hf)))) ⟨va_cnB (own := RX1) (index := 18) (host := RX3) 1 hts gX1_put_X3_isFunction_n18 rfl rfl rfl hK.2.1 (hts _ w_X1_put__initialized_RX3_7f12e8) (by decide +kernel) ⟨Nat.le_of_ble_eq_true rfl, Nat.le_of_ble_eq_true rfl⟩, (hts _ w_X1_put__static_yX3_isFunction_d3d570), trivial⟩ hK (fun k q h => by simp at h) rfl hl.1 rfl (Nat.le_of_ble_eq_true rfl) dX1_put_1 ⟨Nat.le_of_ble_eq_true rfl, Nat.le_of_ble_eq_true rfl⟩ (fun v hv => ?_)
  obtain ⟨rfl, hyf⟩ := hv
  refine W.eq (g2 := F0 m 4 ls [.int (1 : Int32)]) rfl ?_
  refine lv_if_eq (tgt := 29) hx hb dX1_put_4 (by decide) (fun c4 => absurd c4 (by decide)) (fun c4 => ?_)
  refine lv_iload_n hx hb dX1_put_7 rfl (lv_at hl 2 rfl) ?_
  refine lv_if_lt (tgt := 29) hx hb dX1_put_8 (by decide) (fun c8 => absurd c8 (nI_pos (by omega))) (fun c8 => ?_)
  refine lv_iload_n hx hb dX1_put_11 rfl (lv_at hl 2 rfl) ?_
  refine lv_bipush (v := (nI 12)) hx hb dX1_put_12 (by decide) ?_
  refine lv_icmp_ge (tgt := 29) hx hb dX1_put_14 (by decide) (fun c14 => absurd c14 (nI_ge hk (by omega))) (fun c14 => ?_)
  refine lv_aload_n hx hb dX1_put_17 rfl (lv_at hl 0 rfl) ?_
  refine zq_get hx hb hts in_X1_put_X1 hown hK hP 0 rfl rfl 0 (by decide) (hts _ w_X1_put__fieldLink_RX1_9_WordsBeside_Code_steps_I__23634e) rfl dX1_put_18 ?_
  refine lv_iload_n hx hb dX1_put_21 rfl (lv_at hl 1 rfl) ?_
  refine lv_bipush (v := (nI 12)) hx hb dX1_put_22 (by decide) ?_
  refine lv_imul hx hb dX1_put_24 ?_
  refine lv_iload_n hx hb dX1_put_25 rfl (lv_at hl 2 rfl) ?_
  refine lv_iadd hx hb dX1_put_26 ?_
  refine lv_iload_n hx hb dX1_put_27 rfl (lv_at hl 3 rfl) ?_
  refine zq_ist hx hb hK hP hD hS 1 rfl (12 * f + k) (by simp only [pk_mul, nI_add] <;> (congr 1; omega)) (by omega) (by decide) dX1_put_28 (fun H locs hP hD hS => ?_)
  have hP : va_P D vwCl [(cd, .inr (1, [.ref ss, .ref sl])), (ss, .inl (cI, 72, .inl (upd st (12 * f + k) x))), (sl, .inl (cI, 6, .inl ln))] H := hP
  have hD : va_D A [(cd, .inr (1, [.ref ss, .ref sl])), (ss, .inl (cI, 72, .inl (upd st (12 * f + k) x))), (sl, .inl (cI, 6, .inl ln))] := hD
  exact ret _ _ _ _ _ ⟨rfl, rfl⟩ hP hD hS dX1_put_29
theorem w_X1_append__fieldLink_RX1_15_WordsBeside_Code_lengths_I__c3572a : (.fieldLink RX1 15 "WordsBeside$Code" "lengths" "[I" : Cond) ∈ wsX1_append := by decide +kernel
theorem w_X1_append__initialized_RX3_7f12e8 : (.initialized RX3 : Cond) ∈ wsX1_append := by decide +kernel
theorem w_X1_append__static_yX3_isFunction_d3d570 : (.static yX3_isFunction : Cond) ∈ wsX1_append := by decide +kernel
theorem in_X1_append_X1 : ∀ w ∈ wsX10, w ∈ wsX1_append := fun _ h => List.mem_cons_of_mem _ (List.mem_append_right _ h)
set_option maxHeartbeats 4000000 in
set_option maxRecDepth 100000 in
theorem c_X1_append (l : Launch) (D : va_G) (cI cZ cW cC : ClassId) (cd ss sl : Nat) (st ln : Nat → Int32) (f : Nat) (hf : f < 6) (n : Nat) (hn : n < 12) (hln : ln f = nI n) (x : Int32) (sz : Nat) : zq_mu l D cI cZ cW cC yX1_append wsX1_append ({ frames := 2, cells := 0, slots := 0, locals := 43 } : Room) [.ref cd, .int (nI f), .int x] [(cd, .inr (1, [.ref ss, .ref sl])), (ss, .inl (cI, 72, .inl st)), (sl, .inl (cI, 6, .inl ln))] sz (fun v w1 => v = none ∧ w1 = [(cd, .inr (1, [.ref ss, .ref sl])), (ss, .inl (cI, 72, .inl (upd st (12 * f + n) x))), (sl, .inl (cI, 6, .inl (upd ln f (nI (n + 1)))))]) 0 0 := by
  refine zq_muV (own := RX1) (by decide) rfl rfl (Nat.le_of_ble_eq_true rfl) ?_
  intro p e s m below meth c Q A ls hsz hF hin hA hP hK hD hS hl ret
  obtain ⟨hx, hb, hml, hown, hts⟩ := hF
  have hl : lv_has ls 3 [(0, .ref cd), (1, .int (nI f)), (2, .int x)] := hl
  refine lv_iload_n hx hb dX1_append_0 rfl (lv_at hl 1 rfl) ?_
  refine zq_cN (rest := []) ⟨hx, hb, hml, hown, hts⟩ (zq_ro_mono (c_X3_isFunction l D cI cZ cW cC (nI f)) (fun v h => h.resolve_right (fun q => q.2 (zr_nI hf)))) ⟨va_cnB (own := RX1) (index := 18) (host := RX3) 1 hts gX1_append_X3_isFunction_n18 rfl rfl rfl hK.2.1 (hts _ w_X1_append__initialized_RX3_7f12e8) (by decide +kernel) ⟨Nat.le_of_ble_eq_true rfl, Nat.le_of_ble_eq_true rfl⟩, (hts _ w_X1_append__static_yX3_isFunction_d3d570), trivial⟩ hK (fun k q h => by simp at h) rfl hl.1 rfl (Nat.le_of_ble_eq_true rfl) dX1_append_1 ⟨Nat.le_of_ble_eq_true rfl, Nat.le_of_ble_eq_true rfl⟩ (fun v hv => ?_)
  obtain ⟨rfl, hyf⟩ := hv
  refine W.eq (g2 := F0 m 4 ls [.int (1 : Int32)]) rfl ?_
  refine lv_if_eq (tgt := 42) hx hb dX1_append_4 (by decide) (fun c4 => absurd c4 (by decide)) (fun c4 => ?_)
  refine lv_aload_n hx hb dX1_append_7 rfl (lv_at hl 0 rfl) ?_
  refine zq_get hx hb hts in_X1_append_X1 hown hK hP 0 rfl rfl 1 (by decide) (hts _ w_X1_append__fieldLink_RX1_15_WordsBeside_Code_lengths_I__c3572a) rfl dX1_append_8 ?_
  refine lv_iload_n hx hb dX1_append_11 rfl (lv_at hl 1 rfl) ?_
  refine zq_ild hx hb hK hP 2 rfl f rfl (by omega) (by decide) dX1_append_12 ?_
  refine zq_te (y := (nI n)) hln ?_
  refine lv_bipush (v := (nI 12)) hx hb dX1_append_13 (by decide) ?_
  refine lv_icmp_ge (tgt := 42) hx hb dX1_append_15 (by decide) (fun c15 => absurd c15 (nI_ge hn (by omega))) (fun c15 => ?_)
  refine lv_aload_n hx hb dX1_append_18 rfl (lv_at hl 0 rfl) ?_
  refine zq_get hx hb hts in_X1_append_X1 hown hK hP 0 rfl rfl 1 (by decide) (hts _ w_X1_append__fieldLink_RX1_15_WordsBeside_Code_lengths_I__c3572a) rfl dX1_append_19 ?_
  refine lv_iload_n hx hb dX1_append_22 rfl (lv_at hl 1 rfl) ?_
  refine lv_dup2_11 hx hb dX1_append_23 rfl rfl ?_
  refine zq_ild hx hb hK hP 2 rfl f rfl (by omega) (by decide) dX1_append_24 ?_
  refine zq_te (y := (nI n)) hln ?_
  refine lv_iconst (v := (nI 1)) hx hb dX1_append_25 (by decide) ?_
  refine lv_iadd hx hb dX1_append_26 ?_
  refine zq_te (y := (nI (n + 1))) (nI_add _ _) ?_
  refine zq_ist hx hb hK hP hD hS 2 rfl f rfl (by omega) (by decide) dX1_append_27 (fun H locs hP hD hS => ?_)
  have hP : va_P D vwCl [(cd, .inr (1, [.ref ss, .ref sl])), (ss, .inl (cI, 72, .inl st)), (sl, .inl (cI, 6, .inl (upd ln f (nI (n + 1)))))] H := hP
  have hD : va_D A [(cd, .inr (1, [.ref ss, .ref sl])), (ss, .inl (cI, 72, .inl st)), (sl, .inl (cI, 6, .inl (upd ln f (nI (n + 1)))))] := hD
  refine lv_aload_n hx hb dX1_append_28 rfl (lv_at hl 0 rfl) ?_
  refine lv_iload_n hx hb dX1_append_29 rfl (lv_at hl 1 rfl) ?_
  refine lv_aload_n hx hb dX1_append_30 rfl (lv_at hl 0 rfl) ?_
  refine zq_get hx hb hts in_X1_append_X1 hown hK hP 0 rfl rfl 1 (by decide) (hts _ w_X1_append__fieldLink_RX1_15_WordsBeside_Code_lengths_I__c3572a) rfl dX1_append_31 ?_
  refine lv_iload_n hx hb dX1_append_34 rfl (lv_at hl 1 rfl) ?_
  refine zq_ild hx hb hK hP 2 rfl f rfl (by omega) (by decide) dX1_append_35 ?_
  refine zq_te (y := (nI (n + 1))) pk_us ?_
  refine lv_iconst (v := (nI 1)) hx hb dX1_append_36 (by decide) ?_
  refine lv_isub hx hb dX1_append_37 ?_
  refine zq_te (y := (nI n)) (pk_sub (by omega)) ?_
  refine lv_iload_n hx hb dX1_append_38 rfl (lv_at hl 2 rfl) ?_
  refine zq_cM (rest := []) ⟨hx, hb, hml, hown, hts⟩ (c_X1_put l D cI cZ cW cC cd ss sl st (upd ln f (nI (n + 1))) f hf n hn x _) (cwV 3 hts gX1_append_X1_put rfl rfl rfl (by decide +kernel) ⟨Nat.le_of_ble_eq_true rfl, Nat.le_of_ble_eq_true rfl⟩) hK hP hD hS hA 1 0 rfl rfl rfl hl.1 rfl (Nat.le_of_ble_eq_true rfl) dX1_append_39 ⟨Nat.le_of_ble_eq_true rfl, Nat.le_of_ble_eq_true rfl⟩ (fun v w1 H locs hv hP hD hS => ?_)
  obtain ⟨rfl, rfl⟩ := hv
  have hP : va_P D vwCl [(cd, .inr (1, [.ref ss, .ref sl])), (ss, .inl (cI, 72, .inl (upd st (12 * f + n) x))), (sl, .inl (cI, 6, .inl (upd ln f (nI (n + 1)))))] H := hP
  have hD : va_D A [(cd, .inr (1, [.ref ss, .ref sl])), (ss, .inl (cI, 72, .inl (upd st (12 * f + n) x))), (sl, .inl (cI, 6, .inl (upd ln f (nI (n + 1)))))] := hD
  refine W.eq (g2 := F0 m 42 ls []) rfl ?_
  exact ret _ _ _ _ _ ⟨rfl, rfl⟩ hP hD hS dX1_append_42
set_option maxHeartbeats 4000000 in
set_option maxRecDepth 100000 in
theorem c_X1_runAll (l : Launch) (D : va_G) (cI cZ cW cC : ClassId) (cd ss sl : Nat) (st ln : Nat → Int32) (f : Nat) (hf : f < 6) (n : Nat) (hn : n ≤ 12) (hln : ln f = nI n) (hv : zval st f n) (w g : Nat) (G : Nat → Int32) (sz : Nat) : zq_mu l D cI cZ cW cC yX1_runAll wsX1_runAll ({ frames := 3, cells := 0, slots := 0, locals := 75 } : Room) [.ref cd, .int (nI f), .ref w] [(cd, .inr (1, [.ref ss, .ref sl])), (ss, .inl (cI, 72, .inl st)), (sl, .inl (cI, 6, .inl ln)), (w, .inr (2, [.ref g])), (g, .inl (cI, 1536, .inl G))] sz (fun v w1 => v = none ∧ ∃ G2 : Nat → Int32, w1 = [(cd, .inr (1, [.ref ss, .ref sl])), (ss, .inl (cI, 72, .inl st)), (sl, .inl (cI, 6, .inl ln)), (w, .inr (2, [.ref g])), (g, .inl (cI, 1536, .inl G2))] ∧ ∀ j, G2 j = if 256 * f ≤ j ∧ j < 256 * f + 256 then zwk G st f (j - 256 * f) n 0 false 0 else G j) 0 0 := by
  refine zq_muV (own := RX1) (by decide) rfl rfl (Nat.le_of_ble_eq_true rfl) ?_
  intro p e s m below meth c Q A ls hsz hF hin hA hP hK hD hS hl ret
  obtain ⟨hx, hb, hml, hown, hts⟩ := hF
  have hl : lv_has ls 4 [(0, .ref cd), (1, .int (nI f)), (2, .ref w)] := hl
  refine lv_iconst (v := (0 : Int32)) hx hb dX1_runAll_0 (by decide) ?_
  refine lv_istore_n (lv' := [(3, .int (nI 0)), (0, .ref cd), (1, .int (nI f)), (2, .ref w)]) hx hb dX1_runAll_1 rfl hl (by decide) rfl (fun ls hl => ?_)
  have loop2 : ∀ (fu : Nat) (k : Nat) (Gk : Nat → Int32) (H : Heap) (locs : List Loc) (ls : Array Slot), (256 - k) < fu → (k ≤ 256) → (∀ j, Gk j = if 256 * f ≤ j ∧ j < 256 * f + k then zwk G st f (j - 256 * f) n 0 false 0 else G j) → va_P D vwCl [(cd, .inr (1, [.ref ss, .ref sl])), (ss, .inl (cI, 72, .inl st)), (sl, .inl (cI, 6, .inl ln)), (w, .inr (2, [.ref g])), (g, .inl (cI, 1536, .inl Gk))] H → va_D A [(cd, .inr (1, [.ref ss, .ref sl])), (ss, .inl (cI, 72, .inl st)), (sl, .inl (cI, 6, .inl ln)), (w, .inr (2, [.ref g])), (g, .inl (cI, 1536, .inl Gk))] → va_S A s.heap H locs → lv_has ls 4 [(0, .ref cd), (1, .int (nI f)), (2, .ref w), (3, .int (nI k))] → W p l e ({ frames := 3, cells := 0, slots := 0, locals := 75 } : Room) s m ([.ref cd, .int (nI f), .ref w] : List Value).toArray below meth c H locs 0 0 Q (F0 m 2 ls []) := by
    intro fu
    induction fu with
    | zero => intro _ _ _ _ _ hmu; exact absurd hmu (Nat.not_lt_zero _)
    | succ fu ih =>
      intro k Gk H locs ls hmu hk hG hP hD hS hl
      refine lv_iload_n hx hb dX1_runAll_2 rfl (lv_at hl 3 rfl) ?_
      refine lv_sipush (v := (nI 256)) hx hb dX1_runAll_3 (by decide) ?_
      refine lv_icmp_ge (tgt := 28) hx hb dX1_runAll_6 (by decide) (fun c6 => ?_) (fun c6 => ?_)
      · have h6 := zle c6
        exact ret _ _ _ _ _ ⟨rfl, Gk, rfl, fun j => by rw [hG j, show k = 256 by omega]⟩ hP hD hS dX1_runAll_28
      · have h6 := znle c6
        refine lv_aload_n hx hb dX1_runAll_9 rfl (lv_at hl 2 rfl) ?_
        refine lv_iload_n hx hb dX1_runAll_10 rfl (lv_at hl 1 rfl) ?_
        refine lv_iload_n hx hb dX1_runAll_11 rfl (lv_at hl 3 rfl) ?_
        refine lv_aload_n hx hb dX1_runAll_12 rfl (lv_at hl 0 rfl) ?_
        refine lv_iload_n hx hb dX1_runAll_13 rfl (lv_at hl 1 rfl) ?_
        refine lv_iload_n hx hb dX1_runAll_14 rfl (lv_at hl 3 rfl) ?_
        refine lv_aload_n hx hb dX1_runAll_15 rfl (lv_at hl 2 rfl) ?_
        refine zq_cV (rest := [.int (nI k), .int (nI f), .ref w]) ⟨hx, hb, hml, hown, hts⟩ (c_X1_goThrough l D cI cZ cW cC cd ss sl st ln f hf n hn hln w g Gk k (by omega)) (cwV 3 hts gX1_runAll_X1_goThrough rfl rfl rfl (by decide +kernel) ⟨Nat.le_of_ble_eq_true rfl, Nat.le_of_ble_eq_true rfl⟩) hK hP 1 0 rfl rfl rfl hl.1 rfl (Nat.le_of_ble_eq_true rfl) dX1_runAll_16 ⟨Nat.le_of_ble_eq_true rfl, Nat.le_of_ble_eq_true rfl⟩ (fun v hv => ?_)
        obtain rfl := hv
        refine W.eq (g2 := F0 m 19 ls [.int (zwk Gk st f k n 0 false 0), .int (nI k), .int (nI f), .ref w]) rfl ?_
        refine zq_cQ (rest := []) (X := [(cd, .inr (1, [.ref ss, .ref sl])), (ss, .inl (cI, 72, .inl st)), (sl, .inl (cI, 6, .inl ln)), (w, .inr (2, [.ref g])), (g, .inl (cI, 1536, .inl Gk))]) (pl := []) (wr := [(cd, .inr (1, [.ref ss, .ref sl])), (ss, .inl (cI, 72, .inl st)), (sl, .inl (cI, 6, .inl ln))]) ⟨hx, hb, hml, hown, hts⟩ (c_X2_put l D cI cZ cW cC w g Gk f k hf (by omega) (zwk Gk st f k n 0 false 0) _) (cwV 3 hts gX1_runAll_X2_put rfl rfl rfl (by decide +kernel) ⟨Nat.le_of_ble_eq_true rfl, Nat.le_of_ble_eq_true rfl⟩) hK hP hD hS hA [3, 4] [0, 1, 2] rfl rfl rfl rfl (by decide) 2 0 rfl rfl rfl hl.1 rfl (Nat.le_of_ble_eq_true rfl) dX1_runAll_19 ⟨Nat.le_of_ble_eq_true rfl, Nat.le_of_ble_eq_true rfl⟩ (fun v w1 H locs hv hP hD hS => ?_)
        obtain ⟨rfl, rfl⟩ := hv
        have hP : va_P D vwCl [(cd, .inr (1, [.ref ss, .ref sl])), (ss, .inl (cI, 72, .inl st)), (sl, .inl (cI, 6, .inl ln)), (w, .inr (2, [.ref g])), (g, .inl (cI, 1536, .inl (upd Gk (256 * f + k) (zwk Gk st f k n 0 false 0))))] H := hP
        have hD : va_D A [(cd, .inr (1, [.ref ss, .ref sl])), (ss, .inl (cI, 72, .inl st)), (sl, .inl (cI, 6, .inl ln)), (w, .inr (2, [.ref g])), (g, .inl (cI, 1536, .inl (upd Gk (256 * f + k) (zwk Gk st f k n 0 false 0))))] := hD
        refine W.eq (g2 := F0 m 22 ls []) rfl ?_
        refine lv_iinc (v := (nI (k + 1))) (lv' := [(3, .int (nI (k + 1))), (0, .ref cd), (1, .int (nI f)), (2, .ref w)]) hx hb dX1_runAll_22 hl (k := 3) rfl ((nI_succ _).symm) (by decide) rfl (fun ls hl => ?_)
        refine lv_goto (tgt := 2) hx hb dX1_runAll_25 (by decide) ?_
        exact ih (k + 1) (upd Gk (256 * f + k) (zwk Gk st f k n 0 false 0)) _ _ ls (by omega) (by omega) (fun j => by
                  have e1 : zwk Gk st f k n 0 false 0 = zwk G st f k n 0 false 0 := zwk_cong0 (fun i hi => by rw [hG i, if_neg (by omega)]) hf (by omega) hv 0
                  by_cases hj : j = 256 * f + k
                  · rw [hj, pk_us, if_pos (by omega), e1, show 256 * f + k - 256 * f = k by omega]
                  · rw [pk_un hj, hG j]
                    by_cases h2 : 256 * f ≤ j ∧ j < 256 * f + k
                    · rw [if_pos h2, if_pos (by omega)]
                    · rw [if_neg h2, if_neg (by omega)]) hP hD hS (lv_sub hl [1, 2, 3, 0] rfl)
  exact loop2 (256 + 1) 0 G _ _ ls (by omega) (by omega) (fun j => (if_neg (by omega)).symm) hP hD hS (lv_sub hl [1, 2, 3, 0] rfl)
theorem w_X1_init__arrayClass_int_d160d5 : (.arrayClass .int : Cond) ∈ wsX1_init := by decide +kernel
theorem w_X1_init__code_objectInit_0xb1_1_none_9febdb : (.code objectInit ⟨#[0xb1]⟩ 1 none : Cond) ∈ wsX1_init := by decide +kernel
theorem w_X1_init__fieldLink_RX1_15_WordsBeside_Code_lengths_I__c3572a : (.fieldLink RX1 15 "WordsBeside$Code" "lengths" "[I" : Cond) ∈ wsX1_init := by decide +kernel
theorem w_X1_init__fieldLink_RX1_9_WordsBeside_Code_steps_I__23634e : (.fieldLink RX1 9 "WordsBeside$Code" "steps" "[I" : Cond) ∈ wsX1_init := by decide +kernel
theorem w_X1_init__instanceMethod_objectInit_fba9d5 : (.instanceMethod objectInit : Cond) ∈ wsX1_init := by decide +kernel
theorem w_X1_init__methodLink_RX1_3_objectInit_00c12a : (.methodLink RX1 3 objectInit : Cond) ∈ wsX1_init := by decide +kernel
theorem in_X1_init_X1 : ∀ w ∈ wsX10, w ∈ wsX1_init := fun _ h => List.mem_cons_of_mem _ (List.mem_append_right _ h)
set_option maxHeartbeats 4000000 in
set_option maxRecDepth 100000 in
theorem c_X1_init (l : Launch) (D : va_G) (cI cZ cW cC : ClassId) (cd : Nat) (sz : Nat) : zq_mu l D cI cZ cW cC yX1_init wsX1_init ({ frames := 1, cells := 2, slots := 78, locals := 21 } : Room) [.ref cd] [(cd, .inr (1, [.null, .null]))] sz (fun v w1 => v = none ∧ ∃ ss sl : Nat, w1 = [(cd, .inr (1, [.ref ss, .ref sl])), (ss, .inl (cI, 72, .inl (fun _ => 0))), (sl, .inl (cI, 6, .inl (fun _ => 0)))]) 2 78 := by
  refine zq_muV (own := RX1) (by decide) rfl rfl (Nat.le_of_ble_eq_true rfl) ?_
  intro p e s m below meth c Q A ls hsz hF hin hA hP hK hD hS hl ret
  obtain ⟨hx, hb, hml, hown, hts⟩ := hF
  have hl : lv_has ls 1 [(0, .ref cd)] := hl
  refine lv_aload_n hx hb dX1_init_0 rfl (lv_at hl 0 rfl) ?_
  refine W.objInit hx hb hown (hts _ w_X1_init__methodLink_RX1_3_objectInit_00c12a) (hts _ w_X1_init__instanceMethod_objectInit_fba9d5) (hts _ w_X1_init__code_objectInit_0xb1_1_none_9febdb) rfl (by rw [hml]; exact hl.1) rfl dX1_init_1 (Nat.le_of_ble_eq_true rfl) (Nat.le_of_ble_eq_true rfl) ?_
  refine W.eq (g2 := F0 m 4 ls []) rfl ?_
  refine lv_aload_n hx hb dX1_init_4 rfl (lv_at hl 0 rfl) ?_
  refine lv_bipush (v := (nI 72)) hx hb dX1_init_5 (by decide) ?_
  refine zq_newi hx hb (hts _ w_X1_init__arrayClass_int_d160d5) hK hP hD hS hA 72 rfl (by decide) (Nat.le_of_ble_eq_true rfl) (Nat.le_of_ble_eq_true rfl) dX1_init_7 (fun q7 H hP hD hS => ?_)
  have hP : va_P D vwCl [(cd, .inr (1, [.null, .null])), (q7, .inl (cI, 72, .inl (fun _ => 0)))] H := hP
  have hD : va_D A [(cd, .inr (1, [.null, .null])), (q7, .inl (cI, 72, .inl (fun _ => 0)))] := hD
  refine zq_putF hx hb hts in_X1_init_X1 tyX1 tyX1_ok nmX1 hown hK hP hD hS 0 rfl rfl 0 (by decide) (hts _ w_X1_init__fieldLink_RX1_9_WordsBeside_Code_steps_I__23634e) rfl hin rfl rfl rfl (Nat.le_of_ble_eq_true rfl) dX1_init_9 (fun H locs hP hD hS => ?_)
  have hP : va_P D vwCl [(cd, .inr (1, [.ref q7, .null])), (q7, .inl (cI, 72, .inl (fun _ => 0)))] H := hP
  have hD : va_D A [(cd, .inr (1, [.ref q7, .null])), (q7, .inl (cI, 72, .inl (fun _ => 0)))] := hD
  refine lv_aload_n hx hb dX1_init_12 rfl (lv_at hl 0 rfl) ?_
  refine lv_bipush (v := (nI 6)) hx hb dX1_init_13 (by decide) ?_
  refine zq_newi hx hb (hts _ w_X1_init__arrayClass_int_d160d5) hK hP hD hS hA 6 rfl (by decide) (Nat.le_of_ble_eq_true rfl) (Nat.le_of_ble_eq_true rfl) dX1_init_15 (fun q15 H hP hD hS => ?_)
  have hP : va_P D vwCl [(cd, .inr (1, [.ref q7, .null])), (q7, .inl (cI, 72, .inl (fun _ => 0))), (q15, .inl (cI, 6, .inl (fun _ => 0)))] H := hP
  have hD : va_D A [(cd, .inr (1, [.ref q7, .null])), (q7, .inl (cI, 72, .inl (fun _ => 0))), (q15, .inl (cI, 6, .inl (fun _ => 0)))] := hD
  refine zq_putF hx hb hts in_X1_init_X1 tyX1 tyX1_ok nmX1 hown hK hP hD hS 0 rfl rfl 1 (by decide) (hts _ w_X1_init__fieldLink_RX1_15_WordsBeside_Code_lengths_I__c3572a) rfl hin rfl rfl rfl (Nat.le_of_ble_eq_true rfl) dX1_init_17 (fun H locs hP hD hS => ?_)
  have hP : va_P D vwCl [(cd, .inr (1, [.ref q7, .ref q15])), (q7, .inl (cI, 72, .inl (fun _ => 0))), (q15, .inl (cI, 6, .inl (fun _ => 0)))] H := hP
  have hD : va_D A [(cd, .inr (1, [.ref q7, .ref q15])), (q7, .inl (cI, 72, .inl (fun _ => 0))), (q15, .inl (cI, 6, .inl (fun _ => 0)))] := hD
  exact ret _ _ _ _ _ ⟨rfl, _, _, rfl⟩ hP hD hS dX1_init_20
theorem w_X2_init__arrayClass_int_d160d5 : (.arrayClass .int : Cond) ∈ wsX2_init := by decide +kernel
theorem w_X2_init__code_objectInit_0xb1_1_none_9febdb : (.code objectInit ⟨#[0xb1]⟩ 1 none : Cond) ∈ wsX2_init := by decide +kernel
theorem w_X2_init__fieldLink_RX2_9_WordsBeside_World_gives_I__36404f : (.fieldLink RX2 9 "WordsBeside$World" "gives" "[I" : Cond) ∈ wsX2_init := by decide +kernel
theorem w_X2_init__instanceMethod_objectInit_fba9d5 : (.instanceMethod objectInit : Cond) ∈ wsX2_init := by decide +kernel
theorem w_X2_init__methodLink_RX2_3_objectInit_148f03 : (.methodLink RX2 3 objectInit : Cond) ∈ wsX2_init := by decide +kernel
theorem in_X2_init_X2 : ∀ w ∈ wsX20, w ∈ wsX2_init := fun _ h => List.mem_cons_of_mem _ (List.mem_append_right _ h)
set_option maxHeartbeats 4000000 in
set_option maxRecDepth 100000 in
theorem c_X2_init (l : Launch) (D : va_G) (cI cZ cW cC : ClassId) (w : Nat) (sz : Nat) : zq_mu l D cI cZ cW cC yX2_init wsX2_init ({ frames := 1, cells := 1, slots := 1536, locals := 21 } : Room) [.ref w] [(w, .inr (2, [.null]))] sz (fun v w1 => v = none ∧ ∃ g : Nat, w1 = [(w, .inr (2, [.ref g])), (g, .inl (cI, 1536, .inl (fun _ => 0)))]) 1 1536 := by
  refine zq_muV (own := RX2) (by decide) rfl rfl (Nat.le_of_ble_eq_true rfl) ?_
  intro p e s m below meth c Q A ls hsz hF hin hA hP hK hD hS hl ret
  obtain ⟨hx, hb, hml, hown, hts⟩ := hF
  have hl : lv_has ls 1 [(0, .ref w)] := hl
  refine lv_aload_n hx hb dX2_init_0 rfl (lv_at hl 0 rfl) ?_
  refine W.objInit hx hb hown (hts _ w_X2_init__methodLink_RX2_3_objectInit_148f03) (hts _ w_X2_init__instanceMethod_objectInit_fba9d5) (hts _ w_X2_init__code_objectInit_0xb1_1_none_9febdb) rfl (by rw [hml]; exact hl.1) rfl dX2_init_1 (Nat.le_of_ble_eq_true rfl) (Nat.le_of_ble_eq_true rfl) ?_
  refine W.eq (g2 := F0 m 4 ls []) rfl ?_
  refine lv_aload_n hx hb dX2_init_4 rfl (lv_at hl 0 rfl) ?_
  refine lv_sipush (v := (nI 1536)) hx hb dX2_init_5 (by decide) ?_
  refine zq_newi hx hb (hts _ w_X2_init__arrayClass_int_d160d5) hK hP hD hS hA 1536 rfl (by decide) (Nat.le_of_ble_eq_true rfl) (Nat.le_of_ble_eq_true rfl) dX2_init_8 (fun q8 H hP hD hS => ?_)
  have hP : va_P D vwCl [(w, .inr (2, [.null])), (q8, .inl (cI, 1536, .inl (fun _ => 0)))] H := hP
  have hD : va_D A [(w, .inr (2, [.null])), (q8, .inl (cI, 1536, .inl (fun _ => 0)))] := hD
  refine zq_putF hx hb hts in_X2_init_X2 tyX2 tyX2_ok nmX2 hown hK hP hD hS 0 rfl rfl 0 (by decide) (hts _ w_X2_init__fieldLink_RX2_9_WordsBeside_World_gives_I__36404f) rfl hin rfl rfl rfl (Nat.le_of_ble_eq_true rfl) dX2_init_10 (fun H locs hP hD hS => ?_)
  have hP : va_P D vwCl [(w, .inr (2, [.ref q8])), (q8, .inl (cI, 1536, .inl (fun _ => 0)))] H := hP
  have hD : va_D A [(w, .inr (2, [.ref q8])), (q8, .inl (cI, 1536, .inl (fun _ => 0)))] := hD
  exact ret _ _ _ _ _ ⟨rfl, _, rfl⟩ hP hD hS dX2_init_13
theorem w_X0_init__code_objectInit_0xb1_1_none_9febdb : (.code objectInit ⟨#[0xb1]⟩ 1 none : Cond) ∈ wsX0_init := by decide +kernel
theorem w_X0_init__fieldLink_RX0_15_WordsBeside_Claim_kind_I__8744c5 : (.fieldLink RX0 15 "WordsBeside$Claim" "kind" "I" : Cond) ∈ wsX0_init := by decide +kernel
theorem w_X0_init__fieldLink_RX0_18_WordsBeside_Claim_p_I__01826a : (.fieldLink RX0 18 "WordsBeside$Claim" "p" "I" : Cond) ∈ wsX0_init := by decide +kernel
theorem w_X0_init__fieldLink_RX0_21_WordsBeside_Claim_q_I__6ecc41 : (.fieldLink RX0 21 "WordsBeside$Claim" "q" "I" : Cond) ∈ wsX0_init := by decide +kernel
theorem w_X0_init__fieldLink_RX0_24_WordsBeside_Claim_born_I__51e486 : (.fieldLink RX0 24 "WordsBeside$Claim" "born" "I" : Cond) ∈ wsX0_init := by decide +kernel
theorem w_X0_init__fieldLink_RX0_27_WordsBeside_Claim_lastHeld_I__a6aa0f : (.fieldLink RX0 27 "WordsBeside$Claim" "lastHeld" "I" : Cond) ∈ wsX0_init := by decide +kernel
theorem w_X0_init__fieldLink_RX0_30_WordsBeside_Claim_marked_Z__a3d833 : (.fieldLink RX0 30 "WordsBeside$Claim" "marked" "Z" : Cond) ∈ wsX0_init := by decide +kernel
theorem w_X0_init__fieldLink_RX0_9_WordsBeside_Claim_function_I__8f8278 : (.fieldLink RX0 9 "WordsBeside$Claim" "function" "I" : Cond) ∈ wsX0_init := by decide +kernel
theorem w_X0_init__instanceMethod_objectInit_fba9d5 : (.instanceMethod objectInit : Cond) ∈ wsX0_init := by decide +kernel
theorem w_X0_init__methodLink_RX0_3_objectInit_86c094 : (.methodLink RX0 3 objectInit : Cond) ∈ wsX0_init := by decide +kernel
theorem in_X0_init_X0 : ∀ w ∈ wsX00, w ∈ wsX0_init := fun _ h => List.mem_cons_of_mem _ (List.mem_append_right _ h)
set_option maxHeartbeats 4000000 in
set_option maxRecDepth 100000 in
theorem c_X0_init (l : Launch) (D : va_G) (cI cZ cW cC : ClassId) (co : Nat) (fn kd p1 q1 bn : Int32) (sz : Nat) : zq_mu l D cI cZ cW cC yX0_init wsX0_init ({ frames := 1, cells := 0, slots := 0, locals := 21 } : Room) [.ref co, .int fn, .int kd, .int p1, .int q1, .int bn] [(co, .inr (0, [.int 0, .int 0, .int 0, .int 0, .int 0, .int 0, .int 0]))] sz (fun v w1 => v = none ∧ w1 = [(co, .inr (0, [.int fn, .int kd, .int p1, .int q1, .int bn, .int (-1), .int 0]))]) 0 0 := by
  refine zq_muV (own := RX0) (by decide) rfl rfl (Nat.le_of_ble_eq_true rfl) ?_
  intro p e s m below meth c Q A ls hsz hF hin hA hP hK hD hS hl ret
  obtain ⟨hx, hb, hml, hown, hts⟩ := hF
  have hl : lv_has ls 6 [(0, .ref co), (1, .int fn), (2, .int kd), (3, .int p1), (4, .int q1), (5, .int bn)] := hl
  refine lv_aload_n hx hb dX0_init_0 rfl (lv_at hl 0 rfl) ?_
  refine W.objInit hx hb hown (hts _ w_X0_init__methodLink_RX0_3_objectInit_86c094) (hts _ w_X0_init__instanceMethod_objectInit_fba9d5) (hts _ w_X0_init__code_objectInit_0xb1_1_none_9febdb) rfl (by rw [hml]; exact hl.1) rfl dX0_init_1 (Nat.le_of_ble_eq_true rfl) (Nat.le_of_ble_eq_true rfl) ?_
  refine W.eq (g2 := F0 m 4 ls []) rfl ?_
  refine lv_aload_n hx hb dX0_init_4 rfl (lv_at hl 0 rfl) ?_
  refine lv_iload_n hx hb dX0_init_5 rfl (lv_at hl 1 rfl) ?_
  refine zq_putF hx hb hts in_X0_init_X0 tyX0 tyX0_ok nmX0 hown hK hP hD hS 0 rfl rfl 0 (by decide) (hts _ w_X0_init__fieldLink_RX0_9_WordsBeside_Claim_function_I__8f8278) rfl hin rfl rfl rfl (Nat.le_of_ble_eq_true rfl) dX0_init_6 (fun H locs hP hD hS => ?_)
  have hP : va_P D vwCl [(co, .inr (0, [.int fn, .int 0, .int 0, .int 0, .int 0, .int 0, .int 0]))] H := hP
  have hD : va_D A [(co, .inr (0, [.int fn, .int 0, .int 0, .int 0, .int 0, .int 0, .int 0]))] := hD
  refine lv_aload_n hx hb dX0_init_9 rfl (lv_at hl 0 rfl) ?_
  refine lv_iload_n hx hb dX0_init_10 rfl (lv_at hl 2 rfl) ?_
  refine zq_putF hx hb hts in_X0_init_X0 tyX0 tyX0_ok nmX0 hown hK hP hD hS 0 rfl rfl 1 (by decide) (hts _ w_X0_init__fieldLink_RX0_15_WordsBeside_Claim_kind_I__8744c5) rfl hin rfl rfl rfl (Nat.le_of_ble_eq_true rfl) dX0_init_11 (fun H locs hP hD hS => ?_)
  have hP : va_P D vwCl [(co, .inr (0, [.int fn, .int kd, .int 0, .int 0, .int 0, .int 0, .int 0]))] H := hP
  have hD : va_D A [(co, .inr (0, [.int fn, .int kd, .int 0, .int 0, .int 0, .int 0, .int 0]))] := hD
  refine lv_aload_n hx hb dX0_init_14 rfl (lv_at hl 0 rfl) ?_
  refine lv_iload_n hx hb dX0_init_15 rfl (lv_at hl 3 rfl) ?_
  refine zq_put hx hb hts in_X0_init_X0 tyX0 tyX0_ok nmX0 hown hK hP hD hS 0 rfl rfl 2 (by decide) (hts _ w_X0_init__fieldLink_RX0_18_WordsBeside_Claim_p_I__01826a) rfl rfl rfl (Nat.le_of_ble_eq_true rfl) dX0_init_16 (fun H locs hP hD hS => ?_)
  have hP : va_P D vwCl [(co, .inr (0, [.int fn, .int kd, .int p1, .int 0, .int 0, .int 0, .int 0]))] H := hP
  have hD : va_D A [(co, .inr (0, [.int fn, .int kd, .int p1, .int 0, .int 0, .int 0, .int 0]))] := hD
  refine lv_aload_n hx hb dX0_init_19 rfl (lv_at hl 0 rfl) ?_
  refine lv_iload hx hb dX0_init_20 (lv_at hl 4 rfl) ?_
  refine zq_put hx hb hts in_X0_init_X0 tyX0 tyX0_ok nmX0 hown hK hP hD hS 0 rfl rfl 3 (by decide) (hts _ w_X0_init__fieldLink_RX0_21_WordsBeside_Claim_q_I__6ecc41) rfl rfl rfl (Nat.le_of_ble_eq_true rfl) dX0_init_22 (fun H locs hP hD hS => ?_)
  have hP : va_P D vwCl [(co, .inr (0, [.int fn, .int kd, .int p1, .int q1, .int 0, .int 0, .int 0]))] H := hP
  have hD : va_D A [(co, .inr (0, [.int fn, .int kd, .int p1, .int q1, .int 0, .int 0, .int 0]))] := hD
  refine lv_aload_n hx hb dX0_init_25 rfl (lv_at hl 0 rfl) ?_
  refine lv_iload hx hb dX0_init_26 (lv_at hl 5 rfl) ?_
  refine zq_putF hx hb hts in_X0_init_X0 tyX0 tyX0_ok nmX0 hown hK hP hD hS 0 rfl rfl 4 (by decide) (hts _ w_X0_init__fieldLink_RX0_24_WordsBeside_Claim_born_I__51e486) rfl hin rfl rfl rfl (Nat.le_of_ble_eq_true rfl) dX0_init_28 (fun H locs hP hD hS => ?_)
  have hP : va_P D vwCl [(co, .inr (0, [.int fn, .int kd, .int p1, .int q1, .int bn, .int 0, .int 0]))] H := hP
  have hD : va_D A [(co, .inr (0, [.int fn, .int kd, .int p1, .int q1, .int bn, .int 0, .int 0]))] := hD
  refine lv_aload_n hx hb dX0_init_31 rfl (lv_at hl 0 rfl) ?_
  refine lv_iconst (v := (-1 : Int32)) hx hb dX0_init_32 (by decide) ?_
  refine zq_put hx hb hts in_X0_init_X0 tyX0 tyX0_ok nmX0 hown hK hP hD hS 0 rfl rfl 5 (by decide) (hts _ w_X0_init__fieldLink_RX0_27_WordsBeside_Claim_lastHeld_I__a6aa0f) rfl rfl rfl (Nat.le_of_ble_eq_true rfl) dX0_init_33 (fun H locs hP hD hS => ?_)
  have hP : va_P D vwCl [(co, .inr (0, [.int fn, .int kd, .int p1, .int q1, .int bn, .int (-1 : Int32), .int 0]))] H := hP
  have hD : va_D A [(co, .inr (0, [.int fn, .int kd, .int p1, .int q1, .int bn, .int (-1 : Int32), .int 0]))] := hD
  refine lv_aload_n hx hb dX0_init_36 rfl (lv_at hl 0 rfl) ?_
  refine lv_iconst (v := (0 : Int32)) hx hb dX0_init_37 (by decide) ?_
  refine zq_put hx hb hts in_X0_init_X0 tyX0 tyX0_ok nmX0 hown hK hP hD hS 0 rfl rfl 6 (by decide) (hts _ w_X0_init__fieldLink_RX0_30_WordsBeside_Claim_marked_Z__a3d833) rfl rfl rfl (Nat.le_of_ble_eq_true rfl) dX0_init_38 (fun H locs hP hD hS => ?_)
  have hP : va_P D vwCl [(co, .inr (0, [.int fn, .int kd, .int p1, .int q1, .int bn, .int (-1 : Int32), .int (0 : Int32)]))] H := hP
  have hD : va_D A [(co, .inr (0, [.int fn, .int kd, .int p1, .int q1, .int bn, .int (-1 : Int32), .int (0 : Int32)]))] := hD
  exact ret _ _ _ _ _ ⟨rfl, rfl⟩ hP hD hS dX0_init_41
theorem w_X2_copy__classLink_RX2_10_RX2_5231ba : (.classLink RX2 10 RX2 : Cond) ∈ wsX2_copy := by decide +kernel
theorem w_X2_copy__fieldLink_RX2_9_WordsBeside_World_gives_I__36404f : (.fieldLink RX2 9 "WordsBeside$World" "gives" "[I" : Cond) ∈ wsX2_copy := by decide +kernel
theorem w_X2_copy__initialized_java_lang_System__4260ff : (.initialized "java/lang/System" : Cond) ∈ wsX2_copy := by decide +kernel
theorem w_X2_copy__initialized_RX2_aeeb22 : (.initialized RX2 : Cond) ∈ wsX2_copy := by decide +kernel
theorem w_X2_copy__instanceMethod_yX2_init_ec8cce : (.instanceMethod yX2_init : Cond) ∈ wsX2_copy := by decide +kernel
theorem w_X2_copy__instantiable_RX2_1_ac440c : (.instantiable RX2 1 : Cond) ∈ wsX2_copy := by decide +kernel
theorem w_X2_copy__methodLink_RX2_15_yX2_init_8aacae : (.methodLink RX2 15 yX2_init : Cond) ∈ wsX2_copy := by decide +kernel
theorem w_X2_copy__methodLink_RX2_16_arraycopyName_90233c : (.methodLink RX2 16 arraycopyName : Cond) ∈ wsX2_copy := by decide +kernel
theorem w_X2_copy__native_arraycopyName_a648c8 : (.native arraycopyName : Cond) ∈ wsX2_copy := by decide +kernel
theorem w_X2_copy__static_arraycopyName_410d49 : (.static arraycopyName : Cond) ∈ wsX2_copy := by decide +kernel
theorem in_X2_copy_X2 : ∀ w ∈ wsX20, w ∈ wsX2_copy := fun _ h => List.mem_cons_of_mem _ (List.mem_append_right _ h)
set_option maxHeartbeats 4000000 in
set_option maxRecDepth 100000 in
theorem c_X2_copy (l : Launch) (D : va_G) (cI cZ cW cC : ClassId) (w g : Nat) (G : Nat → Int32) (sz : Nat) : zq_mu l D cI cZ cW cC yX2_copy wsX2_copy ({ frames := 2, cells := 2, slots := 1537, locals := 60 } : Room) [.ref w] [(w, .inr (2, [.ref g])), (g, .inl (cI, 1536, .inl G))] sz (fun v w1 => ∃ (w2 g2 : Nat) (G2 : Nat → Int32), v = some (.ref w2) ∧ w1 = [(w, .inr (2, [.ref g])), (g, .inl (cI, 1536, .inl G)), (w2, .inr (2, [.ref g2])), (g2, .inl (cI, 1536, .inl G2))] ∧ ∀ j, j < 1536 → G2 j = G j) 2 1537 := by
  refine zq_muA (own := RX2) (by decide) rfl rfl (Nat.le_of_ble_eq_true rfl) ?_
  intro p e s m below meth c Q A ls hsz hF hin hA hP hK hD hS hl ret
  obtain ⟨hx, hb, hml, hown, hts⟩ := hF
  have hl : lv_has ls 2 [(0, .ref w)] := hl
  refine va_new (ci := 2) (fs := [.null]) (C := RX2) (T := TX2) (N := 1) hx hb hts in_X2_copy_X2 tyX2 tyX2_ok hown (hts _ w_X2_copy__classLink_RX2_10_RX2_5231ba) (hts _ w_X2_copy__instantiable_RX2_1_ac440c) (hts _ w_X2_copy__initialized_RX2_aeeb22) hK.1 hP hD hS hA rfl (fun j hj => by rcases (show j = 0 by omega) with rfl <;> rfl) (Nat.le_of_ble_eq_true rfl) (Nat.le_of_ble_eq_true rfl) dX2_copy_0 (fun q0 H hP hD hS => ?_)
  have hP : va_P D vwCl [(w, .inr (2, [.ref g])), (g, .inl (cI, 1536, .inl G)), (q0, .inr (2, [.null]))] H := hP
  have hD : va_D A [(w, .inr (2, [.ref g])), (g, .inl (cI, 1536, .inl G)), (q0, .inr (2, [.null]))] := hD
  refine lv_dup hx hb dX2_copy_3 rfl ?_
  refine zq_cI (rest := [.ref q0]) (X := [(w, .inr (2, [.ref g])), (g, .inl (cI, 1536, .inl G)), (q0, .inr (2, [.null]))]) (pl := []) (wr := [(w, .inr (2, [.ref g])), (g, .inl (cI, 1536, .inl G))]) ⟨hx, hb, hml, hown, hts⟩ (c_X2_init l D cI cZ cW cC q0 _) (cwI 0 hts gX2_copy_X2_init rfl rfl rfl (hts _ w_X2_copy__initialized_RX2_aeeb22) (hts _ w_X2_copy__methodLink_RX2_15_yX2_init_8aacae) (hts _ w_X2_copy__instanceMethod_yX2_init_ec8cce) rfl (by decide +kernel) ⟨Nat.le_of_ble_eq_true rfl, Nat.le_of_ble_eq_true rfl⟩) hK hP hD hS hA [2] [0, 1] rfl rfl rfl rfl (by decide) rfl hl.1 rfl (Nat.le_of_ble_eq_true rfl) dX2_copy_4 ⟨Nat.le_of_ble_eq_true rfl, Nat.le_of_ble_eq_true rfl⟩ (fun v w1 H locs hv hP hD hS => ?_)
  obtain ⟨rfl, a0, rfl⟩ := hv
  have hP : va_P D vwCl [(w, .inr (2, [.ref g])), (g, .inl (cI, 1536, .inl G)), (q0, .inr (2, [.ref a0])), (a0, .inl (cI, 1536, .inl (fun _ => 0)))] H := hP
  have hD : va_D A [(w, .inr (2, [.ref g])), (g, .inl (cI, 1536, .inl G)), (q0, .inr (2, [.ref a0])), (a0, .inl (cI, 1536, .inl (fun _ => 0)))] := hD
  refine W.eq (g2 := F0 m 7 ls [.ref q0]) rfl ?_
  refine lv_astore_n (lv' := [(1, .ref q0), (0, .ref w)]) hx hb dX2_copy_7 rfl hl (by decide) rfl (fun ls hl => ?_)
  refine lv_aload_n hx hb dX2_copy_8 rfl (lv_at hl 1 rfl) ?_
  refine zq_get hx hb hts in_X2_copy_X2 hown hK hP 0 rfl rfl 0 (by decide) (hts _ w_X2_copy__fieldLink_RX2_9_WordsBeside_World_gives_I__36404f) rfl dX2_copy_9 ?_
  refine lv_iconst (v := (0 : Int32)) hx hb dX2_copy_12 (by decide) ?_
  refine lv_aload_n hx hb dX2_copy_13 rfl (lv_at hl 0 rfl) ?_
  refine zq_get hx hb hts in_X2_copy_X2 hown hK hP 2 rfl rfl 0 (by decide) (hts _ w_X2_copy__fieldLink_RX2_9_WordsBeside_World_gives_I__36404f) rfl dX2_copy_14 ?_
  refine lv_iconst (v := (0 : Int32)) hx hb dX2_copy_17 (by decide) ?_
  refine lv_aload_n hx hb dX2_copy_18 rfl (lv_at hl 1 rfl) ?_
  refine zq_get hx hb hts in_X2_copy_X2 hown hK hP 0 rfl rfl 0 (by decide) (hts _ w_X2_copy__fieldLink_RX2_9_WordsBeside_World_gives_I__36404f) rfl dX2_copy_19 ?_
  refine va_alen hx hb hK.1 hP 1 0 rfl rfl (v := (nI 1536)) rfl dX2_copy_22 ?_
  refine va_copyi (rest := []) hx hb (hml.trans hl.1.symm) hown (hts _ w_X2_copy__methodLink_RX2_16_arraycopyName_90233c) (hts _ w_X2_copy__native_arraycopyName_a648c8) (hts _ w_X2_copy__static_arraycopyName_410d49) (hts _ w_X2_copy__initialized_java_lang_System__4260ff) hK.1 hP hD hS 1 3 0 0 rfl rfl rfl rfl rfl (by decide) (by decide) (by decide) (by decide) (by decide) (fun _ _ => rfl) (Nat.le_of_ble_eq_true rfl) (by decide +kernel) dX2_copy_23 (fun H locs hP hD hS => ?_)
  have hP : va_P D vwCl [(w, .inr (2, [.ref g])), (g, .inl (cI, 1536, .inl G)), (q0, .inr (2, [.ref a0])), (a0, .inl (cI, 1536, .inl (va_cpy G (fun _ => 0) 0 0 1536)))] H := hP
  have hD : va_D A [(w, .inr (2, [.ref g])), (g, .inl (cI, 1536, .inl G)), (q0, .inr (2, [.ref a0])), (a0, .inl (cI, 1536, .inl (va_cpy G (fun _ => 0) 0 0 1536)))] := hD
  refine lv_aload_n hx hb dX2_copy_26 rfl (lv_at hl 0 rfl) ?_
  exact ret _ _ _ _ _ _ ⟨_, _, _, rfl, rfl, fun j hj => sb_cpy0 hj⟩ hP hD hS dX2_copy_27
end
section
/-! the reference: its world, reading methods -/
abbrev mW (cI cZ : ClassId) (ad : Nat → Nat) (ln st gv oF kF fF sF bF mF hF : Nat → Int32) (kp cm m1 m2 : Int32) : va_W := [(ad 0, .inr (4, [.ref (ad 1), .ref (ad 2), .int kp, .ref (ad 3), .int cm, .ref (ad 4), .ref (ad 5), .ref (ad 6), .ref (ad 7), .ref (ad 8), .ref (ad 9), .int m1, .int m2, .ref (ad 10)])), (ad 1, .inl (cI, 6, .inl ln)), (ad 2, .inl (cI, 72, .inl st)), (ad 3, .inl (cI, 49152, .inl gv)), (ad 4, .inl (cI, 40, .inl oF)), (ad 5, .inl (cI, 40, .inl kF)), (ad 6, .inl (cI, 40, .inl fF)), (ad 7, .inl (cI, 40, .inl sF)), (ad 8, .inl (cI, 40, .inl bF)), (ad 9, .inl (cZ, 40, .inl mF)), (ad 10, .inl (cI, 40, .inl hF))]
def zG (gv : Nat → Int32) (t : Nat) : Nat → Int32 := fun j => gv (1536 * t + j)
theorem zr_le {n : Nat} {x : Int32} (hn : n + 1 < 2 ^ 31 := by decide) : ((0 : Int32) ≤ x ∧ x ≤ nI n) ↔ zr (n + 1) x := by
  constructor
  · rintro ⟨h0, h1⟩
    obtain ⟨j, hj, rfl⟩ := nI_of (Int32.not_lt.mpr h0)
    exact ⟨j, Nat.lt_succ_of_le (zle h1 hj (by omega)), rfl⟩
  · rintro ⟨j, hj, rfl⟩
    exact ⟨nI_pos' (by omega), nI_le (by omega) (by omega)⟩
theorem zpm_lt {u b : Nat} (hu : u < 2 ^ 30) (hb : b < 2 ^ 30) : nI u - 1 < nI b ↔ u ≤ b := by
  rw [Int32.lt_iff_toInt_lt, nI_toInt (by omega), show (1 : Int32) = nI 1 from rfl, pk_sub_toInt (by omega) (by omega)]
  omega
theorem zpm_le {u j : Nat} (hu : u < 2 ^ 30) (hj : j < 2 ^ 31) : nI j ≤ nI u - 1 ↔ j < u := by
  rw [Int32.le_iff_toInt_le, nI_toInt hj, show (1 : Int32) = nI 1 from rfl, pk_sub_toInt (by omega) (by omega)]
  omega
theorem zr_pm {n : Nat} {x : Int32} (hn : n < 2 ^ 30) : ((0 : Int32) ≤ x ∧ x ≤ nI n - 1) ↔ zr n x := by
  constructor
  · rintro ⟨h0, h1⟩
    obtain ⟨j, hj, rfl⟩ := nI_of (Int32.not_lt.mpr h0)
    exact ⟨j, (zpm_le hn hj).mp h1, rfl⟩
  · rintro ⟨j, hj, rfl⟩
    exact ⟨nI_pos' (by omega), (zpm_le hn (by omega)).mpr hj⟩
noncomputable def zrun (G : Nat → Int32) (f x y : Int32) : Int32 := by
  classical
  exact if zr 6 f ∧ zr 16 x ∧ zr 16 y then G (256 * f.toNatClampNeg + (16 * x.toNatClampNeg + y.toNatClampNeg)) else zNO
theorem zrun_in {G : Nat → Int32} {f x y : Nat} (hf : f < 6) (hx : x < 16) (hy : y < 16) : zrun G (nI f) (nI x) (nI y) = G (256 * f + (16 * x + y)) := by
  unfold zrun
  rw [if_pos ⟨zr_nI hf, zr_nI hx, zr_nI hy⟩, nI_clamp (by omega), nI_clamp (by omega), nI_clamp (by omega)]
theorem zrun_no {G : Nat → Int32} {f x y : Int32} (h : ¬ (zr 6 f ∧ zr 16 x ∧ zr 16 y)) : zrun G f x y = zNO := by
  unfold zrun
  rw [if_neg h]
theorem zrun_cong {G G' : Nat → Int32} {f x y : Int32} (h : ∀ j, j < 1536 → G j = G' j) : zrun G f x y = zrun G' f x y := by
  by_cases q : zr 6 f ∧ zr 16 x ∧ zr 16 y
  · obtain ⟨⟨a, ha, rfl⟩, ⟨b, hb, rfl⟩, ⟨d, hd, rfl⟩⟩ := q
    rw [zrun_in ha hb hd, zrun_in ha hb hd, h _ (by omega)]
  · rw [zrun_no q, zrun_no q]
noncomputable def zwas (Gs : Nat → Nat → Int32) (k : Nat) (t f x y : Int32) : Int32 := by
  classical
  exact if zr (k + 1) t then zrun (Gs t.toNatClampNeg) f x y else zNO
theorem zwas_in {Gs : Nat → Nat → Int32} {k t : Nat} {f x y : Int32} (ht : t < k + 1) (hk : k < 2 ^ 30) : zwas Gs k (nI t) f x y = zrun (Gs t) f x y := by
  unfold zwas
  rw [if_pos (zr_nI ht), nI_clamp (by omega)]
theorem zwas_no {Gs : Nat → Nat → Int32} {k : Nat} {t f x y : Int32} (h : ¬ zr (k + 1) t) : zwas Gs k t f x y = zNO := by
  unfold zwas
  rw [if_neg h]
/-- the claims as they must be -/
def zHC (fo bo : Nat → Nat) (oF kF fF bF : Nat → Int32) (n k : Nat) : Prop := ∀ i, i < n → oF i = nI (fo i) ∧ fo i < 6 ∧ zr 8 (kF i) ∧ (kF i = 3 → 0 < fF i ∧ fF i ≤ 1000) ∧ (kF i = 5 → zr 256 (fF i)) ∧ (kF i = 7 → zr 6 (fF i)) ∧ bF i = nI (bo i) ∧ bo i ≤ k
def zdn (G : Nat → Int32) (fo : Nat → Nat) (kF fF sF : Nat → Int32) (i : Nat) : Nat → Bool := zden G (fo i) (kF i) (fF i) (sF i)
/-- the last of the states below u, from b on, in which it is held -/
def zlk (hd : Nat → Bool) (b : Nat) : Nat → Int32
  | 0 => -1
  | u + 1 => if b ≤ u then (if hd u then nI u else zlk hd b u) else -1
def zstd (held : Bool) (lk : Int32) : Int32 := if held then 0 else if lk = -1 then 1 else 2

set_option maxHeartbeats 4000000 in
set_option maxRecDepth 100000 in
theorem c_X4_in (l : Launch) (D : va_G) (cI cZ cW cC : ClassId) (x lo hi : Int32) : zq_ro l D cI cZ cW cC yX4_in wsX4_in ({ frames := 0, cells := 0, slots := 0, locals := 0 } : Room) [.int x, .int lo, .int hi] [] (fun v => (v = some (.int 1) ∧ lo ≤ x ∧ x ≤ hi) ∨ (v = some (.int 0) ∧ ¬ (lo ≤ x ∧ x ≤ hi))) := by
  refine zq_roZ (own := RX4) (by decide) rfl rfl (Nat.le_of_ble_eq_true rfl) ?_
  intro p e s m below meth c Q ls hF hP hK hl ret
  obtain ⟨hx, hb, hml, hown, hts⟩ := hF
  have hl : lv_has ls 3 [(0, .int x), (1, .int lo), (2, .int hi)] := hl
  refine lv_iload_n hx hb dX4_in_0 rfl (lv_at hl 0 rfl) ?_
  refine lv_iload_n hx hb dX4_in_1 rfl (lv_at hl 1 rfl) ?_
  refine lv_icmp_lt (tgt := 14) hx hb dX4_in_2 (by decide) (fun c2 => ?_) (fun c2 => ?_)
  · refine lv_iconst (v := (0 : Int32)) hx hb dX4_in_14 (by decide) ?_
    exact ret _ _ _ (Or.inl rfl) (Or.inr ⟨rfl, fun q => absurd q.1 (Int32.not_le.mpr c2)⟩) dX4_in_15
  · refine lv_iload_n hx hb dX4_in_5 rfl (lv_at hl 0 rfl) ?_
    refine lv_iload_n hx hb dX4_in_6 rfl (lv_at hl 2 rfl) ?_
    refine lv_icmp_gt (tgt := 14) hx hb dX4_in_7 (by decide) (fun c7 => ?_) (fun c7 => ?_)
    · refine lv_iconst (v := (0 : Int32)) hx hb dX4_in_14 (by decide) ?_
      exact ret _ _ _ (Or.inl rfl) (Or.inr ⟨rfl, fun q => absurd q.2 (Int32.not_le.mpr c7)⟩) dX4_in_15
    · refine lv_iconst (v := (1 : Int32)) hx hb dX4_in_10 (by decide) ?_
      refine lv_goto (tgt := 15) hx hb dX4_in_11 (by decide) ?_
      exact ret _ _ _ (Or.inr rfl) (Or.inl ⟨rfl, Int32.not_lt.mp c2, Int32.not_lt.mp c7⟩) dX4_in_15
theorem cz_X4_in (l : Launch) (D : va_G) (cI cZ cW cC : ClassId) (x : Int32) (n : Nat) (hn : n + 1 < 2 ^ 31) : zq_ro l D cI cZ cW cC yX4_in wsX4_in ({ frames := 0, cells := 0, slots := 0, locals := 0 } : Room) [.int x, .int 0, .int (nI n)] [] (fun v => (v = some (.int 1) ∧ zr (n + 1) x) ∨ (v = some (.int 0) ∧ ¬ zr (n + 1) x)) := zq_ro_mono (c_X4_in l D cI cZ cW cC x 0 (nI n)) (fun v h => h.imp (fun q => ⟨q.1, (zr_le hn).mp q.2⟩) (fun q => ⟨q.1, fun z => q.2 ((zr_le hn).mpr z)⟩))
set_option maxHeartbeats 4000000 in
set_option maxRecDepth 100000 in
theorem c_X4_isFunction (l : Launch) (D : va_G) (cI cZ cW cC : ClassId) (x : Int32) : zq_ro l D cI cZ cW cC yX4_isFunction wsX4_isFunction ({ frames := 1, cells := 0, slots := 0, locals := 22 } : Room) [.int x] [] (fun v => (v = some (.int 1) ∧ zr 6 x) ∨ (v = some (.int 0) ∧ ¬ zr 6 x)) := by
  refine zq_roZ (own := RX4) (by decide) rfl rfl (Nat.le_of_ble_eq_true rfl) ?_
  intro p e s m below meth c Q ls hF hP hK hl ret
  obtain ⟨hx, hb, hml, hown, hts⟩ := hF
  have hl : lv_has ls 1 [(0, .int x)] := hl
  refine lv_iload_n hx hb dX4_isFunction_0 rfl (lv_at hl 0 rfl) ?_
  refine lv_iconst (v := (0 : Int32)) hx hb dX4_isFunction_1 (by decide) ?_
  refine lv_iconst (v := (nI 5)) hx hb dX4_isFunction_2 (by decide) ?_
  refine zq_cS (rest := []) ⟨hx, hb, hml, hown, hts⟩ (cz_X4_in l D cI cZ cW cC x 5 (by omega)) (va_cwS 3 hts gX4_isFunction_X4_in rfl rfl rfl (by decide +kernel) ⟨Nat.le_of_ble_eq_true rfl, Nat.le_of_ble_eq_true rfl⟩) hK (fun k q h => by simp at h) rfl hl.1 rfl (Nat.le_of_ble_eq_true rfl) dX4_isFunction_3 ⟨Nat.le_of_ble_eq_true rfl, Nat.le_of_ble_eq_true rfl⟩ (fun v hv => ?_)
  rcases hv with ⟨rfl, hyi⟩ | ⟨rfl, hyi⟩
  · refine W.eq (g2 := F0 m 6 ls [.int (1 : Int32)]) rfl ?_
    exact ret _ _ _ (Or.inr rfl) (Or.inl ⟨rfl, hyi⟩) dX4_isFunction_6
  · refine W.eq (g2 := F0 m 6 ls [.int (0 : Int32)]) rfl ?_
    exact ret _ _ _ (Or.inl rfl) (Or.inr ⟨rfl, hyi⟩) dX4_isFunction_6
set_option maxHeartbeats 4000000 in
set_option maxRecDepth 100000 in
theorem c_X4_at (l : Launch) (D : va_G) (cI cZ cW cC : ClassId) (t f r : Nat) : zq_ro l D cI cZ cW cC yX4_at wsX4_at ({ frames := 0, cells := 0, slots := 0, locals := 0 } : Room) [.int (nI t), .int (nI f), .int (nI r)] [] (fun v => v = some (.int (nI (1536 * t + (256 * f + r))))) := by
  refine zq_roI (own := RX4) (by decide) rfl rfl (Nat.le_of_ble_eq_true rfl) ?_
  intro p e s m below meth c Q ls hF hP hK hl ret
  obtain ⟨hx, hb, hml, hown, hts⟩ := hF
  have hl : lv_has ls 3 [(0, .int (nI t)), (1, .int (nI f)), (2, .int (nI r))] := hl
  refine lv_sipush (v := (nI 256)) hx hb dX4_at_0 (by decide) ?_
  refine lv_bipush (v := (nI 6)) hx hb dX4_at_3 (by decide) ?_
  refine lv_iload_n hx hb dX4_at_5 rfl (lv_at hl 0 rfl) ?_
  refine lv_imul hx hb dX4_at_6 ?_
  refine lv_iload_n hx hb dX4_at_7 rfl (lv_at hl 1 rfl) ?_
  refine lv_iadd hx hb dX4_at_8 ?_
  refine lv_imul hx hb dX4_at_9 ?_
  refine lv_iload_n hx hb dX4_at_10 rfl (lv_at hl 2 rfl) ?_
  refine lv_iadd hx hb dX4_at_11 ?_
  exact ret _ _ _ (by simp only [pk_mul, nI_add]; congr 3; omega) dX4_at_12
theorem w_X4_give__fieldLink_RX4_17_WordsBesideModel_gives_I__d93a8a : (.fieldLink RX4 17 "WordsBesideModel" "gives" "[I" : Cond) ∈ wsX4_give := by decide +kernel
theorem in_X4_give_X4 : ∀ w ∈ wsX40, w ∈ wsX4_give := fun _ h => List.mem_cons_of_mem _ (List.mem_append_right _ h)
set_option maxHeartbeats 4000000 in
set_option maxRecDepth 100000 in
theorem c_X4_give (l : Launch) (D : va_G) (cI cZ cW cC : ClassId) (ad : Nat → Nat) (ln st gv oF kF fF sF bF mF hF : Nat → Int32) (kp cm m1 m2 : Int32) (t f r : Nat) (ht : t < 32) (hf : f < 6) (hr : r < 256) : zq_ro l D cI cZ cW cC yX4_give wsX4_give ({ frames := 1, cells := 0, slots := 0, locals := 22 } : Room) [.ref (ad 0), .int (nI t), .int (nI f), .int (nI r)] (mW cI cZ ad ln st gv oF kF fF sF bF mF hF kp cm m1 m2) (fun v => v = some (.int (zG gv t (256 * f + r)))) := by
  refine zq_roI (own := RX4) (by decide) rfl rfl (Nat.le_of_ble_eq_true rfl) ?_
  intro p e s m below meth c Q ls hF hP hK hl ret
  obtain ⟨hx, hb, hml, hown, hts⟩ := hF
  have hl : lv_has ls 4 [(0, .ref (ad 0)), (1, .int (nI t)), (2, .int (nI f)), (3, .int (nI r))] := hl
  refine lv_aload_n hx hb dX4_give_0 rfl (lv_at hl 0 rfl) ?_
  refine zq_get hx hb hts in_X4_give_X4 hown hK hP 0 rfl rfl 3 (by decide) (hts _ w_X4_give__fieldLink_RX4_17_WordsBesideModel_gives_I__d93a8a) rfl dX4_give_1 ?_
  refine lv_iload_n hx hb dX4_give_4 rfl (lv_at hl 1 rfl) ?_
  refine lv_iload_n hx hb dX4_give_5 rfl (lv_at hl 2 rfl) ?_
  refine lv_iload_n hx hb dX4_give_6 rfl (lv_at hl 3 rfl) ?_
  refine zq_cS (rest := [.ref (ad 3)]) ⟨hx, hb, hml, hown, hts⟩ (c_X4_at l D cI cZ cW cC t f r) (va_cwS 3 hts gX4_give_X4_at rfl rfl rfl (by decide +kernel) ⟨Nat.le_of_ble_eq_true rfl, Nat.le_of_ble_eq_true rfl⟩) hK (fun k q h => by simp at h) rfl hl.1 rfl (Nat.le_of_ble_eq_true rfl) dX4_give_7 ⟨Nat.le_of_ble_eq_true rfl, Nat.le_of_ble_eq_true rfl⟩ (fun v hv => ?_)
  obtain rfl := hv
  refine W.eq (g2 := F0 m 10 ls [.int (nI (1536 * t + (256 * f + r))), .ref (ad 3)]) rfl ?_
  refine zq_ild hx hb hK hP 3 rfl (1536 * t + (256 * f + r)) rfl (by omega) (by decide) dX4_give_10 ?_
  exact ret _ _ _ rfl dX4_give_11
set_option maxHeartbeats 4000000 in
set_option maxRecDepth 100000 in
theorem c_X4_isRun (l : Launch) (D : va_G) (cI cZ cW cC : ClassId) (f x y : Int32) : zq_ro l D cI cZ cW cC yX4_isRun wsX4_isRun ({ frames := 2, cells := 0, slots := 0, locals := 42 } : Room) [.int f, .int x, .int y] [] (fun v => (v = some (.int 1) ∧ zr 6 f ∧ zr 16 x ∧ zr 16 y) ∨ (v = some (.int 0) ∧ ¬ (zr 6 f ∧ zr 16 x ∧ zr 16 y))) := by
  refine zq_roZ (own := RX4) (by decide) rfl rfl (Nat.le_of_ble_eq_true rfl) ?_
  intro p e s m below meth c Q ls hF hP hK hl ret
  obtain ⟨hx, hb, hml, hown, hts⟩ := hF
  have hl : lv_has ls 3 [(0, .int f), (1, .int x), (2, .int y)] := hl
  refine lv_iload_n hx hb dX4_isRun_0 rfl (lv_at hl 0 rfl) ?_
  refine zq_cS (rest := []) ⟨hx, hb, hml, hown, hts⟩ (c_X4_isFunction l D cI cZ cW cC f) (va_cwS 1 hts gX4_isRun_X4_isFunction rfl rfl rfl (by decide +kernel) ⟨Nat.le_of_ble_eq_true rfl, Nat.le_of_ble_eq_true rfl⟩) hK (fun k q h => by simp at h) rfl hl.1 rfl (Nat.le_of_ble_eq_true rfl) dX4_isRun_1 ⟨Nat.le_of_ble_eq_true rfl, Nat.le_of_ble_eq_true rfl⟩ (fun v hv => ?_)
  rcases hv with ⟨rfl, hyf⟩ | ⟨rfl, hyf⟩
  · refine W.eq (g2 := F0 m 4 ls [.int (1 : Int32)]) rfl ?_
    refine lv_if_eq (tgt := 31) hx hb dX4_isRun_4 (by decide) (fun c4 => absurd c4 (by decide)) (fun c4 => ?_)
    refine lv_iload_n hx hb dX4_isRun_7 rfl (lv_at hl 1 rfl) ?_
    refine lv_iconst (v := (0 : Int32)) hx hb dX4_isRun_8 (by decide) ?_
    refine lv_bipush (v := (nI 15)) hx hb dX4_isRun_9 (by decide) ?_
    refine zq_cS (rest := []) ⟨hx, hb, hml, hown, hts⟩ (cz_X4_in l D cI cZ cW cC x 15 (by omega)) (va_cwS 3 hts gX4_isRun_X4_in rfl rfl rfl (by decide +kernel) ⟨Nat.le_of_ble_eq_true rfl, Nat.le_of_ble_eq_true rfl⟩) hK (fun k q h => by simp at h) rfl hl.1 rfl (Nat.le_of_ble_eq_true rfl) dX4_isRun_11 ⟨Nat.le_of_ble_eq_true rfl, Nat.le_of_ble_eq_true rfl⟩ (fun v hv => ?_)
    rcases hv with ⟨rfl, hyx⟩ | ⟨rfl, hyx⟩
    · refine W.eq (g2 := F0 m 14 ls [.int (1 : Int32)]) rfl ?_
      refine lv_if_eq (tgt := 31) hx hb dX4_isRun_14 (by decide) (fun c14 => absurd c14 (by decide)) (fun c14 => ?_)
      refine lv_iload_n hx hb dX4_isRun_17 rfl (lv_at hl 2 rfl) ?_
      refine lv_iconst (v := (0 : Int32)) hx hb dX4_isRun_18 (by decide) ?_
      refine lv_bipush (v := (nI 15)) hx hb dX4_isRun_19 (by decide) ?_
      refine zq_cS (rest := []) ⟨hx, hb, hml, hown, hts⟩ (cz_X4_in l D cI cZ cW cC y 15 (by omega)) (va_cwS 3 hts gX4_isRun_X4_in rfl rfl rfl (by decide +kernel) ⟨Nat.le_of_ble_eq_true rfl, Nat.le_of_ble_eq_true rfl⟩) hK (fun k q h => by simp at h) rfl hl.1 rfl (Nat.le_of_ble_eq_true rfl) dX4_isRun_21 ⟨Nat.le_of_ble_eq_true rfl, Nat.le_of_ble_eq_true rfl⟩ (fun v hv => ?_)
      rcases hv with ⟨rfl, hyy⟩ | ⟨rfl, hyy⟩
      · refine W.eq (g2 := F0 m 24 ls [.int (1 : Int32)]) rfl ?_
        refine lv_if_eq (tgt := 31) hx hb dX4_isRun_24 (by decide) (fun c24 => absurd c24 (by decide)) (fun c24 => ?_)
        refine lv_iconst (v := (1 : Int32)) hx hb dX4_isRun_27 (by decide) ?_
        refine lv_goto (tgt := 32) hx hb dX4_isRun_28 (by decide) ?_
        exact ret _ _ _ (Or.inr rfl) (by first | exact Or.inl ⟨rfl, hyf, hyx, hyy⟩ | exact Or.inr ⟨rfl, fun q => hyf q.1⟩ | exact Or.inr ⟨rfl, fun q => hyx q.2.1⟩ | exact Or.inr ⟨rfl, fun q => hyy q.2.2⟩ | fail "open") dX4_isRun_32
      · refine W.eq (g2 := F0 m 24 ls [.int (0 : Int32)]) rfl ?_
        refine lv_if_eq (tgt := 31) hx hb dX4_isRun_24 (by decide) (fun c24 => ?_) (fun c24 => absurd c24 (by decide))
        refine lv_iconst (v := (0 : Int32)) hx hb dX4_isRun_31 (by decide) ?_
        exact ret _ _ _ (Or.inl rfl) (by first | exact Or.inl ⟨rfl, hyf, hyx, hyy⟩ | exact Or.inr ⟨rfl, fun q => hyf q.1⟩ | exact Or.inr ⟨rfl, fun q => hyx q.2.1⟩ | exact Or.inr ⟨rfl, fun q => hyy q.2.2⟩ | fail "open") dX4_isRun_32
    · refine W.eq (g2 := F0 m 14 ls [.int (0 : Int32)]) rfl ?_
      refine lv_if_eq (tgt := 31) hx hb dX4_isRun_14 (by decide) (fun c14 => ?_) (fun c14 => absurd c14 (by decide))
      refine lv_iconst (v := (0 : Int32)) hx hb dX4_isRun_31 (by decide) ?_
      exact ret _ _ _ (Or.inl rfl) (by first | exact Or.inl ⟨rfl, hyf, hyx, hyy⟩ | exact Or.inr ⟨rfl, fun q => hyf q.1⟩ | exact Or.inr ⟨rfl, fun q => hyx q.2.1⟩ | exact Or.inr ⟨rfl, fun q => hyy q.2.2⟩ | fail "open") dX4_isRun_32
  · refine W.eq (g2 := F0 m 4 ls [.int (0 : Int32)]) rfl ?_
    refine lv_if_eq (tgt := 31) hx hb dX4_isRun_4 (by decide) (fun c4 => ?_) (fun c4 => absurd c4 (by decide))
    refine lv_iconst (v := (0 : Int32)) hx hb dX4_isRun_31 (by decide) ?_
    exact ret _ _ _ (Or.inl rfl) (by first | exact Or.inl ⟨rfl, hyf, hyx, hyy⟩ | exact Or.inr ⟨rfl, fun q => hyf q.1⟩ | exact Or.inr ⟨rfl, fun q => hyx q.2.1⟩ | exact Or.inr ⟨rfl, fun q => hyy q.2.2⟩ | fail "open") dX4_isRun_32
theorem w_X4_run__constant_RX4_64_2147483648__c0c951 : (.constant RX4 64 (-2147483648) : Cond) ∈ wsX4_run := by decide +kernel
set_option maxHeartbeats 4000000 in
set_option maxRecDepth 100000 in
theorem c_X4_run (l : Launch) (D : va_G) (cI cZ cW cC : ClassId) (ad : Nat → Nat) (ln st gv oF kF fF sF bF mF hF : Nat → Int32) (kp cm m1 m2 : Int32) (f x y : Int32) : zq_ro l D cI cZ cW cC yX4_run wsX4_run ({ frames := 3, cells := 0, slots := 0, locals := 64 } : Room) [.ref (ad 0), .int f, .int x, .int y] (mW cI cZ ad ln st gv oF kF fF sF bF mF hF kp cm m1 m2) (fun v => v = some (.int (zrun (zG gv 31) f x y))) := by
  refine zq_roI (own := RX4) (by decide) rfl rfl (Nat.le_of_ble_eq_true rfl) ?_
  intro p e s m below meth c Q ls hF hP hK hl ret
  obtain ⟨hx, hb, hml, hown, hts⟩ := hF
  have hl : lv_has ls 4 [(0, .ref (ad 0)), (1, .int f), (2, .int x), (3, .int y)] := hl
  refine lv_iload_n hx hb dX4_run_0 rfl (lv_at hl 1 rfl) ?_
  refine lv_iload_n hx hb dX4_run_1 rfl (lv_at hl 2 rfl) ?_
  refine lv_iload_n hx hb dX4_run_2 rfl (lv_at hl 3 rfl) ?_
  refine zq_cS (rest := []) ⟨hx, hb, hml, hown, hts⟩ (c_X4_isRun l D cI cZ cW cC f x y) (va_cwS 3 hts gX4_run_X4_isRun rfl rfl rfl (by decide +kernel) ⟨Nat.le_of_ble_eq_true rfl, Nat.le_of_ble_eq_true rfl⟩) hK (fun k q h => by simp at h) rfl hl.1 rfl (Nat.le_of_ble_eq_true rfl) dX4_run_3 ⟨Nat.le_of_ble_eq_true rfl, Nat.le_of_ble_eq_true rfl⟩ (fun v hv => ?_)
  rcases hv with ⟨rfl, ⟨a1, ha1, rfl⟩, ⟨b1, hb1, rfl⟩, ⟨d1, hd1, rfl⟩⟩ | ⟨rfl, hyr⟩
  · refine W.eq (g2 := F0 m 6 ls [.int (1 : Int32)]) rfl ?_
    refine lv_if_eq (tgt := 25) hx hb dX4_run_6 (by decide) (fun c6 => absurd c6 (by decide)) (fun c6 => ?_)
    refine lv_aload_n hx hb dX4_run_9 rfl (lv_at hl 0 rfl) ?_
    refine lv_bipush (v := (nI 31)) hx hb dX4_run_10 (by decide) ?_
    refine lv_iload_n hx hb dX4_run_12 rfl (lv_at hl 1 rfl) ?_
    refine lv_bipush (v := (nI 16)) hx hb dX4_run_13 (by decide) ?_
    refine lv_iload_n hx hb dX4_run_15 rfl (lv_at hl 2 rfl) ?_
    refine lv_imul hx hb dX4_run_16 ?_
    refine lv_iload_n hx hb dX4_run_17 rfl (lv_at hl 3 rfl) ?_
    refine lv_iadd hx hb dX4_run_18 ?_
    refine zq_te (y := (nI (16 * b1 + d1))) (by simp only [pk_mul, nI_add] <;> (congr 1; omega)) ?_
    refine zq_cV (rest := []) ⟨hx, hb, hml, hown, hts⟩ (c_X4_give l D cI cZ cW cC ad ln st gv oF kF fF sF bF mF hF kp cm m1 m2 31 a1 (16 * b1 + d1) (by omega) (by omega) (by omega)) (cwV 3 hts gX4_run_X4_give rfl rfl rfl (by decide +kernel) ⟨Nat.le_of_ble_eq_true rfl, Nat.le_of_ble_eq_true rfl⟩) hK hP 4 0 rfl rfl rfl hl.1 rfl (Nat.le_of_ble_eq_true rfl) dX4_run_19 ⟨Nat.le_of_ble_eq_true rfl, Nat.le_of_ble_eq_true rfl⟩ (fun v hv => ?_)
    obtain rfl := hv
    refine W.eq (g2 := F0 m 22 ls [.int (zG gv 31 (256 * a1 + (16 * b1 + d1)))]) rfl ?_
    refine lv_goto (tgt := 27) hx hb dX4_run_22 (by decide) ?_
    exact ret _ _ _ (by rw [zrun_in ha1 hb1 hd1]) dX4_run_27
  · refine W.eq (g2 := F0 m 6 ls [.int (0 : Int32)]) rfl ?_
    refine lv_if_eq (tgt := 25) hx hb dX4_run_6 (by decide) (fun c6 => ?_) (fun c6 => absurd c6 (by decide))
    refine lv_ldc (v := (-2147483648 : Int32)) hx hb hown (hts _ w_X4_run__constant_RX4_64_2147483648__c0c951) dX4_run_25 ?_
    exact ret _ _ _ (by rw [zrun_no hyr]) dX4_run_27
theorem w_X4_was__constant_RX4_64_2147483648__c0c951 : (.constant RX4 64 (-2147483648) : Cond) ∈ wsX4_was := by decide +kernel
theorem w_X4_was__fieldLink_RX4_75_WordsBesideModel_kept_I__b97d2f : (.fieldLink RX4 75 "WordsBesideModel" "kept" "I" : Cond) ∈ wsX4_was := by decide +kernel
theorem in_X4_was_X4 : ∀ w ∈ wsX40, w ∈ wsX4_was := fun _ h => List.mem_cons_of_mem _ (List.mem_append_right _ h)
set_option maxHeartbeats 4000000 in
set_option maxRecDepth 100000 in
theorem c_X4_was (l : Launch) (D : va_G) (cI cZ cW cC : ClassId) (ad : Nat → Nat) (ln st gv oF kF fF sF bF mF hF : Nat → Int32) (kp cm m1 m2 : Int32) (k : Nat) (hk : k ≤ 30) (ek : kp = nI k) (t f x y : Int32) : zq_ro l D cI cZ cW cC yX4_was wsX4_was ({ frames := 3, cells := 0, slots := 0, locals := 64 } : Room) [.ref (ad 0), .int t, .int f, .int x, .int y] (mW cI cZ ad ln st gv oF kF fF sF bF mF hF kp cm m1 m2) (fun v => v = some (.int (zwas (zG gv) k t f x y))) := by
  refine zq_roI (own := RX4) (by decide) rfl rfl (Nat.le_of_ble_eq_true rfl) ?_
  intro p e s m below meth c Q ls hF hP hK hl ret
  obtain ⟨hx, hb, hml, hown, hts⟩ := hF
  have hl : lv_has ls 5 [(0, .ref (ad 0)), (1, .int t), (2, .int f), (3, .int x), (4, .int y)] := hl
  subst ek
  refine lv_iload_n hx hb dX4_was_0 rfl (lv_at hl 1 rfl) ?_
  refine lv_iconst (v := (0 : Int32)) hx hb dX4_was_1 (by decide) ?_
  refine lv_aload_n hx hb dX4_was_2 rfl (lv_at hl 0 rfl) ?_
  refine zq_get hx hb hts in_X4_was_X4 hown hK hP 0 rfl rfl 2 (by decide) (hts _ w_X4_was__fieldLink_RX4_75_WordsBesideModel_kept_I__b97d2f) rfl dX4_was_3 ?_
  refine zq_cS (rest := []) ⟨hx, hb, hml, hown, hts⟩ (cz_X4_in l D cI cZ cW cC t k (by omega)) (va_cwS 3 hts gX4_was_X4_in rfl rfl rfl (by decide +kernel) ⟨Nat.le_of_ble_eq_true rfl, Nat.le_of_ble_eq_true rfl⟩) hK (fun k q h => by simp at h) rfl hl.1 rfl (Nat.le_of_ble_eq_true rfl) dX4_was_6 ⟨Nat.le_of_ble_eq_true rfl, Nat.le_of_ble_eq_true rfl⟩ (fun v hv => ?_)
  rcases hv with ⟨rfl, ⟨t1, ht1, rfl⟩⟩ | ⟨rfl, hyt⟩
  · refine W.eq (g2 := F0 m 9 ls [.int (1 : Int32)]) rfl ?_
    refine lv_if_eq (tgt := 38) hx hb dX4_was_9 (by decide) (fun c9 => absurd c9 (by decide)) (fun c9 => ?_)
    refine lv_iload_n hx hb dX4_was_12 rfl (lv_at hl 2 rfl) ?_
    refine lv_iload_n hx hb dX4_was_13 rfl (lv_at hl 3 rfl) ?_
    refine lv_iload hx hb dX4_was_14 (lv_at hl 4 rfl) ?_
    refine zq_cS (rest := []) ⟨hx, hb, hml, hown, hts⟩ (c_X4_isRun l D cI cZ cW cC f x y) (va_cwS 3 hts gX4_was_X4_isRun rfl rfl rfl (by decide +kernel) ⟨Nat.le_of_ble_eq_true rfl, Nat.le_of_ble_eq_true rfl⟩) hK (fun k q h => by simp at h) rfl hl.1 rfl (Nat.le_of_ble_eq_true rfl) dX4_was_16 ⟨Nat.le_of_ble_eq_true rfl, Nat.le_of_ble_eq_true rfl⟩ (fun v hv => ?_)
    rcases hv with ⟨rfl, ⟨a1, ha1, rfl⟩, ⟨b1, hb1, rfl⟩, ⟨d1, hd1, rfl⟩⟩ | ⟨rfl, hyr⟩
    · refine W.eq (g2 := F0 m 19 ls [.int (1 : Int32)]) rfl ?_
      refine lv_if_eq (tgt := 38) hx hb dX4_was_19 (by decide) (fun c19 => absurd c19 (by decide)) (fun c19 => ?_)
      refine lv_aload_n hx hb dX4_was_22 rfl (lv_at hl 0 rfl) ?_
      refine lv_iload_n hx hb dX4_was_23 rfl (lv_at hl 1 rfl) ?_
      refine lv_iload_n hx hb dX4_was_24 rfl (lv_at hl 2 rfl) ?_
      refine lv_bipush (v := (nI 16)) hx hb dX4_was_25 (by decide) ?_
      refine lv_iload_n hx hb dX4_was_27 rfl (lv_at hl 3 rfl) ?_
      refine lv_imul hx hb dX4_was_28 ?_
      refine lv_iload hx hb dX4_was_29 (lv_at hl 4 rfl) ?_
      refine lv_iadd hx hb dX4_was_31 ?_
      refine zq_te (y := (nI (16 * b1 + d1))) (by simp only [pk_mul, nI_add] <;> (congr 1; omega)) ?_
      refine zq_cV (rest := []) ⟨hx, hb, hml, hown, hts⟩ (c_X4_give l D cI cZ cW cC ad ln st gv oF kF fF sF bF mF hF (nI k) cm m1 m2 t1 a1 (16 * b1 + d1) (by omega) (by omega) (by omega)) (cwV 3 hts gX4_was_X4_give rfl rfl rfl (by decide +kernel) ⟨Nat.le_of_ble_eq_true rfl, Nat.le_of_ble_eq_true rfl⟩) hK hP 4 0 rfl rfl rfl hl.1 rfl (Nat.le_of_ble_eq_true rfl) dX4_was_32 ⟨Nat.le_of_ble_eq_true rfl, Nat.le_of_ble_eq_true rfl⟩ (fun v hv => ?_)
      obtain rfl := hv
      refine W.eq (g2 := F0 m 35 ls [.int (zG gv t1 (256 * a1 + (16 * b1 + d1)))]) rfl ?_
      refine lv_goto (tgt := 40) hx hb dX4_was_35 (by decide) ?_
      exact ret _ _ _ (by first | rw [zwas_in (by omega) (by omega), zrun_in ha1 hb1 hd1] | rw [zwas_in (by omega) (by omega), zrun_no hyr] | rw [zwas_no hyt] | fail "open") dX4_was_40
    · refine W.eq (g2 := F0 m 19 ls [.int (0 : Int32)]) rfl ?_
      refine lv_if_eq (tgt := 38) hx hb dX4_was_19 (by decide) (fun c19 => ?_) (fun c19 => absurd c19 (by decide))
      refine lv_ldc (v := (-2147483648 : Int32)) hx hb hown (hts _ w_X4_was__constant_RX4_64_2147483648__c0c951) dX4_was_38 ?_
      exact ret _ _ _ (by first | rw [zwas_in (by omega) (by omega), zrun_in ha1 hb1 hd1] | rw [zwas_in (by omega) (by omega), zrun_no hyr] | rw [zwas_no hyt] | fail "open") dX4_was_40
  · refine W.eq (g2 := F0 m 9 ls [.int (0 : Int32)]) rfl ?_
    refine lv_if_eq (tgt := 38) hx hb dX4_was_9 (by decide) (fun c9 => ?_) (fun c9 => absurd c9 (by decide))
    refine lv_ldc (v := (-2147483648 : Int32)) hx hb hown (hts _ w_X4_was__constant_RX4_64_2147483648__c0c951) dX4_was_38 ?_
    exact ret _ _ _ (by first | rw [zwas_in (by omega) (by omega), zrun_in ha1 hb1 hd1] | rw [zwas_in (by omega) (by omega), zrun_no hyr] | rw [zwas_no hyt] | fail "open") dX4_was_40
theorem w_X4_isClaim__fieldLink_RX4_79_WordsBesideModel_claims_I__a0b76b : (.fieldLink RX4 79 "WordsBesideModel" "claims" "I" : Cond) ∈ wsX4_isClaim := by decide +kernel
theorem in_X4_isClaim_X4 : ∀ w ∈ wsX40, w ∈ wsX4_isClaim := fun _ h => List.mem_cons_of_mem _ (List.mem_append_right _ h)
set_option maxHeartbeats 4000000 in
set_option maxRecDepth 100000 in
theorem c_X4_isClaim (l : Launch) (D : va_G) (cI cZ cW cC : ClassId) (ad : Nat → Nat) (ln st gv oF kF fF sF bF mF hF : Nat → Int32) (kp cm m1 m2 : Int32) (n : Nat) (hn : n ≤ 40) (en : cm = nI n) (x : Int32) : zq_ro l D cI cZ cW cC yX4_isClaim wsX4_isClaim ({ frames := 1, cells := 0, slots := 0, locals := 22 } : Room) [.ref (ad 0), .int x] (mW cI cZ ad ln st gv oF kF fF sF bF mF hF kp cm m1 m2) (fun v => (v = some (.int 1) ∧ zr n x) ∨ (v = some (.int 0) ∧ ¬ zr n x)) := by
  refine zq_roZ (own := RX4) (by decide) rfl rfl (Nat.le_of_ble_eq_true rfl) ?_
  intro p e s m below meth c Q ls hF hP hK hl ret
  obtain ⟨hx, hb, hml, hown, hts⟩ := hF
  have hl : lv_has ls 2 [(0, .ref (ad 0)), (1, .int x)] := hl
  subst en
  refine lv_iload_n hx hb dX4_isClaim_0 rfl (lv_at hl 1 rfl) ?_
  refine lv_iconst (v := (0 : Int32)) hx hb dX4_isClaim_1 (by decide) ?_
  refine lv_aload_n hx hb dX4_isClaim_2 rfl (lv_at hl 0 rfl) ?_
  refine zq_get hx hb hts in_X4_isClaim_X4 hown hK hP 0 rfl rfl 4 (by decide) (hts _ w_X4_isClaim__fieldLink_RX4_79_WordsBesideModel_claims_I__a0b76b) rfl dX4_isClaim_3 ?_
  refine lv_iconst (v := (1 : Int32)) hx hb dX4_isClaim_6 (by decide) ?_
  refine lv_isub hx hb dX4_isClaim_7 ?_
  refine zq_cS (rest := []) ⟨hx, hb, hml, hown, hts⟩ (c_X4_in l D cI cZ cW cC x 0 (nI n - 1)) (va_cwS 3 hts gX4_isClaim_X4_in rfl rfl rfl (by decide +kernel) ⟨Nat.le_of_ble_eq_true rfl, Nat.le_of_ble_eq_true rfl⟩) hK (fun k q h => by simp at h) rfl hl.1 rfl (Nat.le_of_ble_eq_true rfl) dX4_isClaim_8 ⟨Nat.le_of_ble_eq_true rfl, Nat.le_of_ble_eq_true rfl⟩ (fun v hv => ?_)
  rcases hv with ⟨rfl, hyi⟩ | ⟨rfl, hyi⟩
  · refine W.eq (g2 := F0 m 11 ls [.int (1 : Int32)]) rfl ?_
    exact ret _ _ _ (Or.inr rfl) (Or.inl ⟨rfl, (zr_pm (by omega)).mp hyi⟩) dX4_isClaim_11
  · refine W.eq (g2 := F0 m 11 ls [.int (0 : Int32)]) rfl ?_
    exact ret _ _ _ (Or.inl rfl) (Or.inr ⟨rfl, fun q => hyi ((zr_pm (by omega)).mpr q)⟩) dX4_isClaim_11
end
section
/-! the reference: claims -/
theorem zk7 {x : Int32} (h : zr 8 x) (h0 : ¬ x = 0) (h1 : ¬ x = 1) (h2 : ¬ x = 2) (h3 : ¬ x = 3) (h4 : ¬ x = 4) (h5 : ¬ x = 5) (h6 : ¬ x = 6) : x = 7 := by
  obtain ⟨j, hj, rfl⟩ := h
  have : j = 0 ∨ j = 1 ∨ j = 2 ∨ j = 3 ∨ j = 4 ∨ j = 5 ∨ j = 6 ∨ j = 7 := by omega
  rcases this with rfl | rfl | rfl | rfl | rfl | rfl | rfl | rfl
  · exact absurd rfl h0
  · exact absurd rfl h1
  · exact absurd rfl h2
  · exact absurd rfl h3
  · exact absurd rfl h4
  · exact absurd rfl h5
  · exact absurd rfl h6
  · rfl
theorem zgp_in {G : Nat → Int32} {a r : Nat} (ha : a < 6) : zgp G (nI a) r = G (256 * a + r) := by
  unfold zgp
  rw [nI_clamp (by omega), if_pos ⟨ha, nI_pos (by omega)⟩]
theorem zn16_y {G : Nat → Int32} {f r : Nat} (h : r + 16 < 256) : zn16 G f r = G (256 * f + (r + 16)) := if_pos h
theorem zn16_n {G : Nat → Int32} {f r : Nat} (h : 256 ≤ r + 16) : zn16 G f r = zNO := if_neg (by omega)
theorem zct_b {d : Nat → Bool} {k : Nat} (h : (if d k then (1 : Int32) else 0) = 0) : d k = false := by
  rcases hh : d k with _ | _
  · rfl
  · rw [hh] at h; exact absurd h (by decide)
theorem zct_a {d : Nat → Bool} {k : Nat} (h : ¬ (if d k then (1 : Int32) else 0) = 0) : d k = true := by
  rcases hh : d k with _ | _
  · rw [hh] at h; exact absurd rfl h
  · rfl
theorem zct_bb {b : Bool} (h : (if b then (1 : Int32) else 0) = 0) : b = false := by
  cases b
  · rfl
  · exact absurd h (by decide)
theorem zct_aa {b : Bool} (h : ¬ (if b then (1 : Int32) else 0) = 0) : b = true := by
  cases b
  · exact absurd rfl h
  · rfl
theorem zheld_ct {d : Nat → Bool} (h : nI (fb_ct d 256) = 0) : zheld d = true := by
  unfold zheld
  rw [decide_eq_true_eq]
  exact zeq (h.trans nI_0.symm) (by have := fb_ct_le d 256; omega)
theorem zheld_cn {d : Nat → Bool} (h : ¬ nI (fb_ct d 256) = 0) : zheld d = false := by
  unfold zheld
  rw [decide_eq_false_iff_not]
  intro q
  rw [q] at h
  exact h rfl
theorem zheld_le {d : Nat → Bool} (h : nI (fb_ct d 256) ≤ 0) : zheld d = true := by
  have h1 := fb_ct_le d 256
  have h2 : fb_ct d 256 ≤ 0 := zle (show nI (fb_ct d 256) ≤ nI 0 from h)
  unfold zheld
  rw [decide_eq_true_eq]
  omega
theorem zheld_nle {d : Nat → Bool} (h : ¬ nI (fb_ct d 256) ≤ 0) : zheld d = false := by
  unfold zheld
  rw [decide_eq_false_iff_not]
  intro q
  rw [q] at h
  exact h (by decide)
noncomputable def ztold (n : Nat) (cl wh : Int32) (sd har fn kd p q lk mk : Nat → Int32) : Int32 := by
  classical
  exact if zr n cl then (if wh = 0 then sd cl.toNatClampNeg else if wh = 1 then fn cl.toNatClampNeg else if wh = 2 then kd cl.toNatClampNeg else if wh = 3 then p cl.toNatClampNeg else if wh = 4 then q cl.toNatClampNeg else if wh = 5 then har cl.toNatClampNeg
    else if wh = 6 then (if sd cl.toNatClampNeg = 2 then lk cl.toNatClampNeg + 1 else -1) else if wh = 7 then (if mk cl.toNatClampNeg = 0 then 0 else 1) else zNO) else zNO
theorem ztold_no {n : Nat} {cl wh : Int32} {sd har fn kd p q lk mk : Nat → Int32} (h : ¬ zr n cl) : ztold n cl wh sd har fn kd p q lk mk = zNO := by
  unfold ztold
  rw [if_neg h]
theorem ztold_in {n i : Nat} {wh : Int32} {sd har fn kd p q lk mk : Nat → Int32} (h : i < n) (hn : n ≤ 40) : ztold n (nI i) wh sd har fn kd p q lk mk = (if wh = 0 then sd i else if wh = 1 then fn i else if wh = 2 then kd i else if wh = 3 then p i else if wh = 4 then q i else if wh = 5 then har i else if wh = 6 then (if sd i = 2 then lk i + 1 else -1) else if wh = 7 then (if mk i = 0 then 0 else 1) else zNO) := by
  unfold ztold
  rw [if_pos (zr_nI h), nI_clamp (by omega)]
noncomputable def zdnd (n : Nat) (cl : Int32) (d : Nat → Nat → Bool) : Int32 := by
  classical
  exact if zr n cl then (if fa_first (d cl.toNatClampNeg) 256 < 256 then nI (fa_first (d cl.toNatClampNeg) 256) else -1) else -1
theorem zdnd_no {n : Nat} {cl : Int32} {d : Nat → Nat → Bool} (h : ¬ zr n cl) : zdnd n cl d = -1 := by
  unfold zdnd
  rw [if_neg h]
theorem zdnd_in {n i : Nat} {d : Nat → Nat → Bool} (h : i < n) (hn : n ≤ 40) : zdnd n (nI i) d = if fa_first (d i) 256 < 256 then nI (fa_first (d i) 256) else -1 := by
  unfold zdnd
  rw [if_pos (zr_nI h), nI_clamp (by omega)]
def zhas (fo : Nat → Nat) (f : Nat) (P : Nat → Bool) : Nat → Bool := fun i => decide (fo i = f) && P i

theorem w_X4_denies__constant_RX4_64_2147483648__c0c951 : (.constant RX4 64 (-2147483648) : Cond) ∈ wsX4_denies := by decide +kernel
theorem w_X4_denies__fieldLink_RX4_20_WordsBesideModel_of_I__9fac8e : (.fieldLink RX4 20 "WordsBesideModel" "of" "[I" : Cond) ∈ wsX4_denies := by decide +kernel
theorem w_X4_denies__fieldLink_RX4_23_WordsBesideModel_kind_I__cf4f2c : (.fieldLink RX4 23 "WordsBesideModel" "kind" "[I" : Cond) ∈ wsX4_denies := by decide +kernel
theorem w_X4_denies__fieldLink_RX4_26_WordsBesideModel_first_I__de9671 : (.fieldLink RX4 26 "WordsBesideModel" "first" "[I" : Cond) ∈ wsX4_denies := by decide +kernel
theorem w_X4_denies__fieldLink_RX4_29_WordsBesideModel_second_I__491129 : (.fieldLink RX4 29 "WordsBesideModel" "second" "[I" : Cond) ∈ wsX4_denies := by decide +kernel
theorem in_X4_denies_X4 : ∀ w ∈ wsX40, w ∈ wsX4_denies := fun _ h => List.mem_cons_of_mem _ (List.mem_append_right _ h)
set_option maxHeartbeats 4000000 in
set_option maxRecDepth 100000 in
theorem c_X4_denies (l : Launch) (D : va_G) (cI cZ cW cC : ClassId) (ad : Nat → Nat) (ln st gv oF kF fF sF bF mF hF : Nat → Int32) (kp cm m1 m2 : Int32) (fo bo : Nat → Nat) (n k : Nat) (hn : n ≤ 40) (hk : k ≤ 30) (HC : zHC fo bo oF kF fF bF n k) (i t r : Nat) (hi : i < n) (ht : t < 32) (hr : r < 256) : zq_ro l D cI cZ cW cC yX4_denies wsX4_denies ({ frames := 2, cells := 0, slots := 0, locals := 45 } : Room) [.ref (ad 0), .int (nI i), .int (nI t), .int (nI r)] (mW cI cZ ad ln st gv oF kF fF sF bF mF hF kp cm m1 m2) (fun v => v = some (.int (if zdn (zG gv t) fo kF fF sF i r then 1 else 0))) := by
  refine zq_roZ (own := RX4) (by decide) rfl rfl (Nat.le_of_ble_eq_true rfl) ?_
  intro p e s m below meth c Q ls hF hP hK hl ret
  obtain ⟨hx, hb, hml, hown, hts⟩ := hF
  have hl : lv_has ls 8 [(0, .ref (ad 0)), (1, .int (nI i)), (2, .int (nI t)), (3, .int (nI r))] := hl
  obtain ⟨ho, hf, hk8, h3, h5, h7, hbb, hbk⟩ := HC i hi
  refine lv_aload_n hx hb dX4_denies_0 rfl (lv_at hl 0 rfl) ?_
  refine lv_iload_n hx hb dX4_denies_1 rfl (lv_at hl 2 rfl) ?_
  refine lv_aload_n hx hb dX4_denies_2 rfl (lv_at hl 0 rfl) ?_
  refine zq_get hx hb hts in_X4_denies_X4 hown hK hP 0 rfl rfl 5 (by decide) (hts _ w_X4_denies__fieldLink_RX4_20_WordsBesideModel_of_I__9fac8e) rfl dX4_denies_3 ?_
  refine lv_iload_n hx hb dX4_denies_6 rfl (lv_at hl 1 rfl) ?_
  refine zq_ild hx hb hK hP 4 rfl i rfl (by omega) (by decide) dX4_denies_7 ?_
  refine zq_te (y := (nI (fo i))) ho ?_
  refine lv_iload_n hx hb dX4_denies_8 rfl (lv_at hl 3 rfl) ?_
  refine zq_cV (rest := []) ⟨hx, hb, hml, hown, hts⟩ (c_X4_give l D cI cZ cW cC ad ln st gv oF kF fF sF bF mF hF kp cm m1 m2 t (fo i) r (by omega) (by omega) (by omega)) (cwV 3 hts gX4_denies_X4_give rfl rfl rfl (by decide +kernel) ⟨Nat.le_of_ble_eq_true rfl, Nat.le_of_ble_eq_true rfl⟩) hK hP 4 0 rfl rfl rfl hl.1 rfl (Nat.le_of_ble_eq_true rfl) dX4_denies_9 ⟨Nat.le_of_ble_eq_true rfl, Nat.le_of_ble_eq_true rfl⟩ (fun v hv => ?_)
  obtain rfl := hv
  refine W.eq (g2 := F0 m 12 ls [.int (zG gv t (256 * (fo i) + r))]) rfl ?_
  refine lv_istore (lv' := [(4, .int (zG gv t (256 * (fo i) + r))), (0, .ref (ad 0)), (1, .int (nI i)), (2, .int (nI t)), (3, .int (nI r))]) hx hb dX4_denies_12 hl (by decide) rfl (fun ls hl => ?_)
  refine lv_iload hx hb dX4_denies_14 (lv_at hl 0 rfl) ?_
  refine lv_ldc (v := (-2147483648 : Int32)) hx hb hown (hts _ w_X4_denies__constant_RX4_64_2147483648__c0c951) dX4_denies_16 ?_
  refine lv_icmp_ne (tgt := 25) hx hb dX4_denies_18 (by decide) (fun c18 => ?_) (fun c18 => ?_)
  · refine lv_iconst (v := (0 : Int32)) hx hb dX4_denies_25 (by decide) ?_
    refine lv_istore (lv' := [(5, .int (0 : Int32)), (4, .int (zG gv t (256 * (fo i) + r))), (0, .ref (ad 0)), (1, .int (nI i)), (2, .int (nI t)), (3, .int (nI r))]) hx hb dX4_denies_26 hl (by decide) rfl (fun ls hl => ?_)
    refine lv_aload_n hx hb dX4_denies_28 rfl (lv_at hl 2 rfl) ?_
    refine zq_get hx hb hts in_X4_denies_X4 hown hK hP 0 rfl rfl 7 (by decide) (hts _ w_X4_denies__fieldLink_RX4_26_WordsBesideModel_first_I__de9671) rfl dX4_denies_29 ?_
    refine lv_iload_n hx hb dX4_denies_32 rfl (lv_at hl 3 rfl) ?_
    refine zq_ild hx hb hK hP 6 rfl i rfl (by omega) (by decide) dX4_denies_33 ?_
    refine lv_istore (lv' := [(6, .int (fF i)), (5, .int (0 : Int32)), (4, .int (zG gv t (256 * (fo i) + r))), (0, .ref (ad 0)), (1, .int (nI i)), (2, .int (nI t)), (3, .int (nI r))]) hx hb dX4_denies_34 hl (by decide) rfl (fun ls hl => ?_)
    refine lv_aload_n hx hb dX4_denies_36 rfl (lv_at hl 3 rfl) ?_
    refine zq_get hx hb hts in_X4_denies_X4 hown hK hP 0 rfl rfl 6 (by decide) (hts _ w_X4_denies__fieldLink_RX4_23_WordsBesideModel_kind_I__cf4f2c) rfl dX4_denies_37 ?_
    refine lv_iload_n hx hb dX4_denies_40 rfl (lv_at hl 4 rfl) ?_
    refine zq_ild hx hb hK hP 5 rfl i rfl (by omega) (by decide) dX4_denies_41 ?_
    by_cases k42_0 : (kF i) = (0 : Int32)
    · refine lv_tableIn (tgt := 84) hx hb dX4_denies_42 (by rw [k42_0]; decide) (by rw [k42_0]; decide) (by rw [k42_0]; rfl) (by decide) ?_
      refine lv_iload hx hb dX4_denies_84 (lv_at hl 1 rfl) ?_
      refine lv_if_ne (tgt := 111) hx hb dX4_denies_86 (by decide) (fun c86 => absurd c86 (by decide)) (fun c86 => ?_)
      refine lv_iload hx hb dX4_denies_89 (lv_at hl 2 rfl) ?_
      refine lv_iload hx hb dX4_denies_91 (lv_at hl 0 rfl) ?_
      refine lv_icmp_lt (tgt := 107) hx hb dX4_denies_93 (by decide) (fun c93 => ?_) (fun c93 => ?_)
      · refine lv_iconst (v := (1 : Int32)) hx hb dX4_denies_107 (by decide) ?_
        refine lv_goto (tgt := 112) hx hb dX4_denies_108 (by decide) ?_
        exact ret _ _ _ (Or.inr rfl) (by simp [zdn, zden, c18, k42_0, c93, Int32.not_le.mpr c93]) dX4_denies_112
      · refine lv_iload hx hb dX4_denies_96 (lv_at hl 2 rfl) ?_
        refine lv_aload_n hx hb dX4_denies_98 rfl (lv_at hl 3 rfl) ?_
        refine zq_get hx hb hts in_X4_denies_X4 hown hK hP 0 rfl rfl 8 (by decide) (hts _ w_X4_denies__fieldLink_RX4_29_WordsBesideModel_second_I__491129) rfl dX4_denies_99 ?_
        refine lv_iload_n hx hb dX4_denies_102 rfl (lv_at hl 4 rfl) ?_
        refine zq_ild hx hb hK hP 7 rfl i rfl (by omega) (by decide) dX4_denies_103 ?_
        refine lv_icmp_le (tgt := 111) hx hb dX4_denies_104 (by decide) (fun c104 => ?_) (fun c104 => ?_)
        · refine lv_iconst (v := (0 : Int32)) hx hb dX4_denies_111 (by decide) ?_
          exact ret _ _ _ (Or.inl rfl) (by simp [zdn, zden, c18, k42_0, c93, Int32.not_lt.mp c93, c104, Int32.not_lt.mpr c104]) dX4_denies_112
        · refine lv_iconst (v := (1 : Int32)) hx hb dX4_denies_107 (by decide) ?_
          refine lv_goto (tgt := 112) hx hb dX4_denies_108 (by decide) ?_
          exact ret _ _ _ (Or.inr rfl) (by simp [zdn, zden, c18, k42_0, c93, Int32.not_lt.mp c93, c104, Int32.not_le.mp c104]) dX4_denies_112
    · by_cases k42_1 : (kF i) = (1 : Int32)
      · refine lv_tableIn (tgt := 113) hx hb dX4_denies_42 (by rw [k42_1]; decide) (by rw [k42_1]; decide) (by rw [k42_1]; rfl) (by decide) ?_
        refine lv_iload hx hb dX4_denies_113 (lv_at hl 1 rfl) ?_
        exact ret _ _ _ (Or.inl rfl) (by simp [zdn, zden, c18, k42_1]) dX4_denies_115
      · by_cases k42_2 : (kF i) = (2 : Int32)
        · refine lv_tableIn (tgt := 116) hx hb dX4_denies_42 (by rw [k42_2]; decide) (by rw [k42_2]; decide) (by rw [k42_2]; rfl) (by decide) ?_
          refine lv_iload_n hx hb dX4_denies_116 rfl (lv_at hl 6 rfl) ?_
          refine lv_bipush (v := (nI 16)) hx hb dX4_denies_117 (by decide) ?_
          refine lv_iadd hx hb dX4_denies_119 ?_
          refine zq_te (y := (nI (r + 16))) (nI_add _ _) ?_
          refine lv_sipush (v := (nI 256)) hx hb dX4_denies_120 (by decide) ?_
          refine lv_icmp_ge (tgt := 144) hx hb dX4_denies_123 (by decide) (fun c123 => ?_) (fun c123 => ?_)
          · have h123 := zle c123
            refine lv_ldc (v := (-2147483648 : Int32)) hx hb hown (hts _ w_X4_denies__constant_RX4_64_2147483648__c0c951) dX4_denies_144 ?_
            refine lv_istore (lv' := [(7, .int (-2147483648 : Int32)), (6, .int (fF i)), (5, .int (0 : Int32)), (4, .int (zG gv t (256 * (fo i) + r))), (0, .ref (ad 0)), (1, .int (nI i)), (2, .int (nI t)), (3, .int (nI r))]) hx hb dX4_denies_146 hl (by decide) rfl (fun ls hl => ?_)
            refine lv_iload hx hb dX4_denies_148 (lv_at hl 2 rfl) ?_
            refine lv_if_ne (tgt := 171) hx hb dX4_denies_150 (by decide) (fun c150 => absurd c150 (by decide)) (fun c150 => ?_)
            refine lv_iload hx hb dX4_denies_153 (lv_at hl 0 rfl) ?_
            refine lv_ldc (v := (-2147483648 : Int32)) hx hb hown (hts _ w_X4_denies__constant_RX4_64_2147483648__c0c951) dX4_denies_155 ?_
            refine lv_icmp_eq (tgt := 171) hx hb dX4_denies_157 (by decide) (fun c157 => ?_) (fun c157 => absurd c157 (by decide))
            refine lv_iconst (v := (0 : Int32)) hx hb dX4_denies_171 (by decide) ?_
            exact ret _ _ _ (Or.inl rfl) (by simp [zdn, zden, c18, k42_2, zn16_n h123]) dX4_denies_172
          · have h123 := znle c123
            refine lv_aload_n hx hb dX4_denies_126 rfl (lv_at hl 3 rfl) ?_
            refine lv_iload_n hx hb dX4_denies_127 rfl (lv_at hl 5 rfl) ?_
            refine lv_aload_n hx hb dX4_denies_128 rfl (lv_at hl 3 rfl) ?_
            refine zq_get hx hb hts in_X4_denies_X4 hown hK hP 0 rfl rfl 5 (by decide) (hts _ w_X4_denies__fieldLink_RX4_20_WordsBesideModel_of_I__9fac8e) rfl dX4_denies_129 ?_
            refine lv_iload_n hx hb dX4_denies_132 rfl (lv_at hl 4 rfl) ?_
            refine zq_ild hx hb hK hP 4 rfl i rfl (by omega) (by decide) dX4_denies_133 ?_
            refine zq_te (y := (nI (fo i))) ho ?_
            refine lv_iload_n hx hb dX4_denies_134 rfl (lv_at hl 6 rfl) ?_
            refine lv_bipush (v := (nI 16)) hx hb dX4_denies_135 (by decide) ?_
            refine lv_iadd hx hb dX4_denies_137 ?_
            refine zq_te (y := (nI (r + 16))) (nI_add _ _) ?_
            refine zq_cV (rest := []) ⟨hx, hb, hml, hown, hts⟩ (c_X4_give l D cI cZ cW cC ad ln st gv oF kF fF sF bF mF hF kp cm m1 m2 t (fo i) (r + 16) (by omega) (by omega) (by omega)) (cwV 3 hts gX4_denies_X4_give rfl rfl rfl (by decide +kernel) ⟨Nat.le_of_ble_eq_true rfl, Nat.le_of_ble_eq_true rfl⟩) hK hP 4 0 rfl rfl rfl hl.1 rfl (Nat.le_of_ble_eq_true rfl) dX4_denies_138 ⟨Nat.le_of_ble_eq_true rfl, Nat.le_of_ble_eq_true rfl⟩ (fun v hv => ?_)
            obtain rfl := hv
            refine W.eq (g2 := F0 m 141 ls [.int (zG gv t (256 * (fo i) + (r + 16)))]) rfl ?_
            refine lv_goto (tgt := 146) hx hb dX4_denies_141 (by decide) ?_
            refine lv_istore (lv' := [(7, .int (zG gv t (256 * (fo i) + (r + 16)))), (6, .int (fF i)), (5, .int (0 : Int32)), (4, .int (zG gv t (256 * (fo i) + r))), (0, .ref (ad 0)), (1, .int (nI i)), (2, .int (nI t)), (3, .int (nI r))]) hx hb dX4_denies_146 hl (by decide) rfl (fun ls hl => ?_)
            refine lv_iload hx hb dX4_denies_148 (lv_at hl 2 rfl) ?_
            refine lv_if_ne (tgt := 171) hx hb dX4_denies_150 (by decide) (fun c150 => absurd c150 (by decide)) (fun c150 => ?_)
            refine lv_iload hx hb dX4_denies_153 (lv_at hl 0 rfl) ?_
            refine lv_ldc (v := (-2147483648 : Int32)) hx hb hown (hts _ w_X4_denies__constant_RX4_64_2147483648__c0c951) dX4_denies_155 ?_
            refine lv_icmp_eq (tgt := 171) hx hb dX4_denies_157 (by decide) (fun c157 => ?_) (fun c157 => ?_)
            · refine lv_iconst (v := (0 : Int32)) hx hb dX4_denies_171 (by decide) ?_
              exact ret _ _ _ (Or.inl rfl) (by simp [zdn, zden, c18, k42_2, c157, zn16_y h123]) dX4_denies_172
            · refine lv_iload hx hb dX4_denies_160 (lv_at hl 0 rfl) ?_
              refine lv_iload hx hb dX4_denies_162 (lv_at hl 3 rfl) ?_
              refine lv_icmp_ge (tgt := 171) hx hb dX4_denies_164 (by decide) (fun c164 => ?_) (fun c164 => ?_)
              · refine lv_iconst (v := (0 : Int32)) hx hb dX4_denies_171 (by decide) ?_
                exact ret _ _ _ (Or.inl rfl) (by simp [zdn, zden, c18, k42_2, c157, c164, Int32.not_lt.mpr c164, zn16_y h123]) dX4_denies_172
              · refine lv_iconst (v := (1 : Int32)) hx hb dX4_denies_167 (by decide) ?_
                refine lv_goto (tgt := 172) hx hb dX4_denies_168 (by decide) ?_
                exact ret _ _ _ (Or.inr rfl) (by simp [zdn, zden, c18, k42_2, c157, c164, Int32.not_le.mp c164, zn16_y h123]) dX4_denies_172
        · by_cases k42_3 : (kF i) = (3 : Int32)
          · refine lv_tableIn (tgt := 173) hx hb dX4_denies_42 (by rw [k42_3]; decide) (by rw [k42_3]; decide) (by rw [k42_3]; rfl) (by decide) ?_
            refine lv_iload hx hb dX4_denies_173 (lv_at hl 1 rfl) ?_
            refine lv_if_ne (tgt := 190) hx hb dX4_denies_175 (by decide) (fun c175 => absurd c175 (by decide)) (fun c175 => ?_)
            refine lv_iload hx hb dX4_denies_178 (lv_at hl 2 rfl) ?_
            refine lv_iload hx hb dX4_denies_180 (lv_at hl 0 rfl) ?_
            refine lv_irem hx hb dX4_denies_182 (fun h => absurd (h3 k42_3).1 (by rw [h]; decide)) ?_
            refine lv_if_eq (tgt := 190) hx hb dX4_denies_183 (by decide) (fun c183 => ?_) (fun c183 => ?_)
            · refine lv_iconst (v := (0 : Int32)) hx hb dX4_denies_190 (by decide) ?_
              exact ret _ _ _ (Or.inl rfl) (by simp [zdn, zden, c18, k42_3, c183, (h3 k42_3).1]) dX4_denies_191
            · refine lv_iconst (v := (1 : Int32)) hx hb dX4_denies_186 (by decide) ?_
              refine lv_goto (tgt := 191) hx hb dX4_denies_187 (by decide) ?_
              exact ret _ _ _ (Or.inr rfl) (by simp [zdn, zden, c18, k42_3, c183, (h3 k42_3).1]) dX4_denies_191
          · by_cases k42_4 : (kF i) = (4 : Int32)
            · refine lv_tableIn (tgt := 192) hx hb dX4_denies_42 (by rw [k42_4]; decide) (by rw [k42_4]; decide) (by rw [k42_4]; rfl) (by decide) ?_
              refine lv_iload hx hb dX4_denies_192 (lv_at hl 2 rfl) ?_
              refine lv_aload_n hx hb dX4_denies_194 rfl (lv_at hl 3 rfl) ?_
              refine lv_iload_n hx hb dX4_denies_195 rfl (lv_at hl 5 rfl) ?_
              refine lv_aload_n hx hb dX4_denies_196 rfl (lv_at hl 3 rfl) ?_
              refine zq_get hx hb hts in_X4_denies_X4 hown hK hP 0 rfl rfl 5 (by decide) (hts _ w_X4_denies__fieldLink_RX4_20_WordsBesideModel_of_I__9fac8e) rfl dX4_denies_197 ?_
              refine lv_iload_n hx hb dX4_denies_200 rfl (lv_at hl 4 rfl) ?_
              refine zq_ild hx hb hK hP 4 rfl i rfl (by omega) (by decide) dX4_denies_201 ?_
              refine zq_te (y := (nI (fo i))) ho ?_
              refine lv_iload_n hx hb dX4_denies_202 rfl (lv_at hl 6 rfl) ?_
              refine lv_bipush (v := (nI 16)) hx hb dX4_denies_203 (by decide) ?_
              refine lv_irem hx hb dX4_denies_205 (by decide) ?_
              refine zq_te (y := (nI (r % 16))) (pk_rem (by omega) (by omega) (by omega)) ?_
              refine lv_bipush (v := (nI 16)) hx hb dX4_denies_206 (by decide) ?_
              refine lv_imul hx hb dX4_denies_208 ?_
              refine zq_te (y := (nI (r % 16 * 16))) (pk_mul _ _) ?_
              refine lv_iload_n hx hb dX4_denies_209 rfl (lv_at hl 6 rfl) ?_
              refine lv_bipush (v := (nI 16)) hx hb dX4_denies_210 (by decide) ?_
              refine lv_idiv hx hb dX4_denies_212 (by decide) ?_
              refine zq_te (y := (nI (r / 16))) (pk_div (by omega) (by omega) (by omega)) ?_
              refine lv_iadd hx hb dX4_denies_213 ?_
              refine zq_te (y := (nI (r % 16 * 16 + r / 16))) (nI_add _ _) ?_
              refine zq_cV (rest := [.int (zG gv t (256 * (fo i) + r))]) ⟨hx, hb, hml, hown, hts⟩ (c_X4_give l D cI cZ cW cC ad ln st gv oF kF fF sF bF mF hF kp cm m1 m2 t (fo i) (r % 16 * 16 + r / 16) (by omega) (by omega) (by omega)) (cwV 3 hts gX4_denies_X4_give rfl rfl rfl (by decide +kernel) ⟨Nat.le_of_ble_eq_true rfl, Nat.le_of_ble_eq_true rfl⟩) hK hP 4 0 rfl rfl rfl hl.1 rfl (Nat.le_of_ble_eq_true rfl) dX4_denies_214 ⟨Nat.le_of_ble_eq_true rfl, Nat.le_of_ble_eq_true rfl⟩ (fun v hv => ?_)
              obtain rfl := hv
              refine W.eq (g2 := F0 m 217 ls [.int (zG gv t (256 * (fo i) + (r % 16 * 16 + r / 16))), .int (zG gv t (256 * (fo i) + r))]) rfl ?_
              refine lv_icmp_eq (tgt := 224) hx hb dX4_denies_217 (by decide) (fun c217 => ?_) (fun c217 => ?_)
              · refine lv_iconst (v := (0 : Int32)) hx hb dX4_denies_224 (by decide) ?_
                exact ret _ _ _ (Or.inl rfl) (by simp [zdn, zden, k42_4, c217]) dX4_denies_225
              · refine lv_iconst (v := (1 : Int32)) hx hb dX4_denies_220 (by decide) ?_
                refine lv_goto (tgt := 225) hx hb dX4_denies_221 (by decide) ?_
                exact ret _ _ _ (Or.inr rfl) (by simp [zdn, zden, k42_4, c217]) dX4_denies_225
            · by_cases k42_5 : (kF i) = (5 : Int32)
              · refine lv_tableIn (tgt := 226) hx hb dX4_denies_42 (by rw [k42_5]; decide) (by rw [k42_5]; decide) (by rw [k42_5]; rfl) (by decide) ?_
                refine lv_iload_n hx hb dX4_denies_226 rfl (lv_at hl 6 rfl) ?_
                refine lv_iload hx hb dX4_denies_227 (lv_at hl 0 rfl) ?_
                refine lv_icmp_ne (tgt := 247) hx hb dX4_denies_229 (by decide) (fun c229 => ?_) (fun c229 => ?_)
                · refine lv_iconst (v := (0 : Int32)) hx hb dX4_denies_247 (by decide) ?_
                  exact ret _ _ _ (Or.inl rfl) (by simp [zdn, zden, k42_5, c229]) dX4_denies_248
                · refine lv_iload hx hb dX4_denies_232 (lv_at hl 2 rfl) ?_
                  refine lv_aload_n hx hb dX4_denies_234 rfl (lv_at hl 3 rfl) ?_
                  refine zq_get hx hb hts in_X4_denies_X4 hown hK hP 0 rfl rfl 8 (by decide) (hts _ w_X4_denies__fieldLink_RX4_29_WordsBesideModel_second_I__491129) rfl dX4_denies_235 ?_
                  refine lv_iload_n hx hb dX4_denies_238 rfl (lv_at hl 4 rfl) ?_
                  refine zq_ild hx hb hK hP 7 rfl i rfl (by omega) (by decide) dX4_denies_239 ?_
                  refine lv_icmp_eq (tgt := 247) hx hb dX4_denies_240 (by decide) (fun c240 => ?_) (fun c240 => ?_)
                  · refine lv_iconst (v := (0 : Int32)) hx hb dX4_denies_247 (by decide) ?_
                    exact ret _ _ _ (Or.inl rfl) (by simp [zdn, zden, k42_5, c229, c240]) dX4_denies_248
                  · refine lv_iconst (v := (1 : Int32)) hx hb dX4_denies_243 (by decide) ?_
                    refine lv_goto (tgt := 248) hx hb dX4_denies_244 (by decide) ?_
                    exact ret _ _ _ (Or.inr rfl) (by simp [zdn, zden, k42_5, c229, c240]) dX4_denies_248
              · by_cases k42_6 : (kF i) = (6 : Int32)
                · refine lv_tableIn (tgt := 249) hx hb dX4_denies_42 (by rw [k42_6]; decide) (by rw [k42_6]; decide) (by rw [k42_6]; rfl) (by decide) ?_
                  refine lv_iload hx hb dX4_denies_249 (lv_at hl 1 rfl) ?_
                  refine lv_iload_n hx hb dX4_denies_251 rfl (lv_at hl 6 rfl) ?_
                  refine lv_bipush (v := (nI 16)) hx hb dX4_denies_252 (by decide) ?_
                  refine lv_idiv hx hb dX4_denies_254 (by decide) ?_
                  refine zq_te (y := (nI (r / 16))) (pk_div (by omega) (by omega) (by omega)) ?_
                  refine lv_iload hx hb dX4_denies_255 (lv_at hl 0 rfl) ?_
                  refine lv_icmp_lt (tgt := 264) hx hb dX4_denies_257 (by decide) (fun c257 => ?_) (fun c257 => ?_)
                  · refine lv_iconst (v := (0 : Int32)) hx hb dX4_denies_264 (by decide) ?_
                    refine lv_icmp_eq (tgt := 272) hx hb dX4_denies_265 (by decide) (fun c265 => ?_) (fun c265 => absurd c265 (by decide))
                    refine lv_iconst (v := (0 : Int32)) hx hb dX4_denies_272 (by decide) ?_
                    exact ret _ _ _ (Or.inl rfl) (by simp [zdn, zden, c18, k42_6, c257, Int32.not_le.mpr c257]) dX4_denies_273
                  · refine lv_iconst (v := (1 : Int32)) hx hb dX4_denies_260 (by decide) ?_
                    refine lv_goto (tgt := 265) hx hb dX4_denies_261 (by decide) ?_
                    refine lv_icmp_eq (tgt := 272) hx hb dX4_denies_265 (by decide) (fun c265 => absurd c265 (by decide)) (fun c265 => ?_)
                    refine lv_iconst (v := (1 : Int32)) hx hb dX4_denies_268 (by decide) ?_
                    refine lv_goto (tgt := 273) hx hb dX4_denies_269 (by decide) ?_
                    exact ret _ _ _ (Or.inr rfl) (by simp [zdn, zden, c18, k42_6, c257, Int32.not_lt.mp c257]) dX4_denies_273
                · refine lv_tableOut (tgt := 274) hx hb dX4_denies_42 (by have k42_0T := lv_neT k42_0 (a := 0) rfl; have k42_1T := lv_neT k42_1 (a := 1) rfl; have k42_2T := lv_neT k42_2 (a := 2) rfl; have k42_3T := lv_neT k42_3 (a := 3) rfl; have k42_4T := lv_neT k42_4 (a := 4) rfl; have k42_5T := lv_neT k42_5 (a := 5) rfl; have k42_6T := lv_neT k42_6 (a := 6) rfl; omega) (by decide) ?_
                  have k7 := zk7 hk8 k42_0 k42_1 k42_2 k42_3 k42_4 k42_5 k42_6
                  obtain ⟨pn, hpn, ep⟩ := h7 k7
                  rw [ep] at hl
                  refine lv_iload hx hb dX4_denies_274 (lv_at hl 2 rfl) ?_
                  refine lv_aload_n hx hb dX4_denies_276 rfl (lv_at hl 3 rfl) ?_
                  refine lv_iload_n hx hb dX4_denies_277 rfl (lv_at hl 5 rfl) ?_
                  refine lv_iload hx hb dX4_denies_278 (lv_at hl 0 rfl) ?_
                  refine lv_iload_n hx hb dX4_denies_280 rfl (lv_at hl 6 rfl) ?_
                  refine zq_cV (rest := [.int (zG gv t (256 * (fo i) + r))]) ⟨hx, hb, hml, hown, hts⟩ (c_X4_give l D cI cZ cW cC ad ln st gv oF kF fF sF bF mF hF kp cm m1 m2 t pn r (by omega) (by omega) (by omega)) (cwV 3 hts gX4_denies_X4_give rfl rfl rfl (by decide +kernel) ⟨Nat.le_of_ble_eq_true rfl, Nat.le_of_ble_eq_true rfl⟩) hK hP 4 0 rfl rfl rfl hl.1 rfl (Nat.le_of_ble_eq_true rfl) dX4_denies_281 ⟨Nat.le_of_ble_eq_true rfl, Nat.le_of_ble_eq_true rfl⟩ (fun v hv => ?_)
                  obtain rfl := hv
                  refine W.eq (g2 := F0 m 284 ls [.int (zG gv t (256 * pn + r)), .int (zG gv t (256 * (fo i) + r))]) rfl ?_
                  refine lv_icmp_eq (tgt := 291) hx hb dX4_denies_284 (by decide) (fun c284 => ?_) (fun c284 => ?_)
                  · refine lv_iconst (v := (0 : Int32)) hx hb dX4_denies_291 (by decide) ?_
                    exact ret _ _ _ (Or.inl rfl) (by simp [zdn, zden, k7, ep, zgp_in hpn, c284]) dX4_denies_292
                  · refine lv_iconst (v := (1 : Int32)) hx hb dX4_denies_287 (by decide) ?_
                    refine lv_goto (tgt := 292) hx hb dX4_denies_288 (by decide) ?_
                    exact ret _ _ _ (Or.inr rfl) (by simp [zdn, zden, k7, ep, zgp_in hpn, c284]) dX4_denies_292
  · refine lv_iconst (v := (1 : Int32)) hx hb dX4_denies_21 (by decide) ?_
    refine lv_goto (tgt := 26) hx hb dX4_denies_22 (by decide) ?_
    refine lv_istore (lv' := [(5, .int (1 : Int32)), (4, .int (zG gv t (256 * (fo i) + r))), (0, .ref (ad 0)), (1, .int (nI i)), (2, .int (nI t)), (3, .int (nI r))]) hx hb dX4_denies_26 hl (by decide) rfl (fun ls hl => ?_)
    refine lv_aload_n hx hb dX4_denies_28 rfl (lv_at hl 2 rfl) ?_
    refine zq_get hx hb hts in_X4_denies_X4 hown hK hP 0 rfl rfl 7 (by decide) (hts _ w_X4_denies__fieldLink_RX4_26_WordsBesideModel_first_I__de9671) rfl dX4_denies_29 ?_
    refine lv_iload_n hx hb dX4_denies_32 rfl (lv_at hl 3 rfl) ?_
    refine zq_ild hx hb hK hP 6 rfl i rfl (by omega) (by decide) dX4_denies_33 ?_
    refine lv_istore (lv' := [(6, .int (fF i)), (5, .int (1 : Int32)), (4, .int (zG gv t (256 * (fo i) + r))), (0, .ref (ad 0)), (1, .int (nI i)), (2, .int (nI t)), (3, .int (nI r))]) hx hb dX4_denies_34 hl (by decide) rfl (fun ls hl => ?_)
    refine lv_aload_n hx hb dX4_denies_36 rfl (lv_at hl 3 rfl) ?_
    refine zq_get hx hb hts in_X4_denies_X4 hown hK hP 0 rfl rfl 6 (by decide) (hts _ w_X4_denies__fieldLink_RX4_23_WordsBesideModel_kind_I__cf4f2c) rfl dX4_denies_37 ?_
    refine lv_iload_n hx hb dX4_denies_40 rfl (lv_at hl 4 rfl) ?_
    refine zq_ild hx hb hK hP 5 rfl i rfl (by omega) (by decide) dX4_denies_41 ?_
    by_cases k42_0 : (kF i) = (0 : Int32)
    · refine lv_tableIn (tgt := 84) hx hb dX4_denies_42 (by rw [k42_0]; decide) (by rw [k42_0]; decide) (by rw [k42_0]; rfl) (by decide) ?_
      refine lv_iload hx hb dX4_denies_84 (lv_at hl 1 rfl) ?_
      refine lv_if_ne (tgt := 111) hx hb dX4_denies_86 (by decide) (fun c86 => ?_) (fun c86 => absurd c86 (by decide))
      refine lv_iconst (v := (0 : Int32)) hx hb dX4_denies_111 (by decide) ?_
      exact ret _ _ _ (Or.inl rfl) (by simp [zdn, zden, c18, k42_0]) dX4_denies_112
    · by_cases k42_1 : (kF i) = (1 : Int32)
      · refine lv_tableIn (tgt := 113) hx hb dX4_denies_42 (by rw [k42_1]; decide) (by rw [k42_1]; decide) (by rw [k42_1]; rfl) (by decide) ?_
        refine lv_iload hx hb dX4_denies_113 (lv_at hl 1 rfl) ?_
        exact ret _ _ _ (Or.inr rfl) (by simp [zdn, zden, c18, k42_1]) dX4_denies_115
      · by_cases k42_2 : (kF i) = (2 : Int32)
        · refine lv_tableIn (tgt := 116) hx hb dX4_denies_42 (by rw [k42_2]; decide) (by rw [k42_2]; decide) (by rw [k42_2]; rfl) (by decide) ?_
          refine lv_iload_n hx hb dX4_denies_116 rfl (lv_at hl 6 rfl) ?_
          refine lv_bipush (v := (nI 16)) hx hb dX4_denies_117 (by decide) ?_
          refine lv_iadd hx hb dX4_denies_119 ?_
          refine zq_te (y := (nI (r + 16))) (nI_add _ _) ?_
          refine lv_sipush (v := (nI 256)) hx hb dX4_denies_120 (by decide) ?_
          refine lv_icmp_ge (tgt := 144) hx hb dX4_denies_123 (by decide) (fun c123 => ?_) (fun c123 => ?_)
          · have h123 := zle c123
            refine lv_ldc (v := (-2147483648 : Int32)) hx hb hown (hts _ w_X4_denies__constant_RX4_64_2147483648__c0c951) dX4_denies_144 ?_
            refine lv_istore (lv' := [(7, .int (-2147483648 : Int32)), (6, .int (fF i)), (5, .int (1 : Int32)), (4, .int (zG gv t (256 * (fo i) + r))), (0, .ref (ad 0)), (1, .int (nI i)), (2, .int (nI t)), (3, .int (nI r))]) hx hb dX4_denies_146 hl (by decide) rfl (fun ls hl => ?_)
            refine lv_iload hx hb dX4_denies_148 (lv_at hl 2 rfl) ?_
            refine lv_if_ne (tgt := 171) hx hb dX4_denies_150 (by decide) (fun c150 => ?_) (fun c150 => absurd c150 (by decide))
            refine lv_iconst (v := (0 : Int32)) hx hb dX4_denies_171 (by decide) ?_
            exact ret _ _ _ (Or.inl rfl) (by simp [zdn, zden, c18, k42_2, zn16_n h123]) dX4_denies_172
          · have h123 := znle c123
            refine lv_aload_n hx hb dX4_denies_126 rfl (lv_at hl 3 rfl) ?_
            refine lv_iload_n hx hb dX4_denies_127 rfl (lv_at hl 5 rfl) ?_
            refine lv_aload_n hx hb dX4_denies_128 rfl (lv_at hl 3 rfl) ?_
            refine zq_get hx hb hts in_X4_denies_X4 hown hK hP 0 rfl rfl 5 (by decide) (hts _ w_X4_denies__fieldLink_RX4_20_WordsBesideModel_of_I__9fac8e) rfl dX4_denies_129 ?_
            refine lv_iload_n hx hb dX4_denies_132 rfl (lv_at hl 4 rfl) ?_
            refine zq_ild hx hb hK hP 4 rfl i rfl (by omega) (by decide) dX4_denies_133 ?_
            refine zq_te (y := (nI (fo i))) ho ?_
            refine lv_iload_n hx hb dX4_denies_134 rfl (lv_at hl 6 rfl) ?_
            refine lv_bipush (v := (nI 16)) hx hb dX4_denies_135 (by decide) ?_
            refine lv_iadd hx hb dX4_denies_137 ?_
            refine zq_te (y := (nI (r + 16))) (nI_add _ _) ?_
            refine zq_cV (rest := []) ⟨hx, hb, hml, hown, hts⟩ (c_X4_give l D cI cZ cW cC ad ln st gv oF kF fF sF bF mF hF kp cm m1 m2 t (fo i) (r + 16) (by omega) (by omega) (by omega)) (cwV 3 hts gX4_denies_X4_give rfl rfl rfl (by decide +kernel) ⟨Nat.le_of_ble_eq_true rfl, Nat.le_of_ble_eq_true rfl⟩) hK hP 4 0 rfl rfl rfl hl.1 rfl (Nat.le_of_ble_eq_true rfl) dX4_denies_138 ⟨Nat.le_of_ble_eq_true rfl, Nat.le_of_ble_eq_true rfl⟩ (fun v hv => ?_)
            obtain rfl := hv
            refine W.eq (g2 := F0 m 141 ls [.int (zG gv t (256 * (fo i) + (r + 16)))]) rfl ?_
            refine lv_goto (tgt := 146) hx hb dX4_denies_141 (by decide) ?_
            refine lv_istore (lv' := [(7, .int (zG gv t (256 * (fo i) + (r + 16)))), (6, .int (fF i)), (5, .int (1 : Int32)), (4, .int (zG gv t (256 * (fo i) + r))), (0, .ref (ad 0)), (1, .int (nI i)), (2, .int (nI t)), (3, .int (nI r))]) hx hb dX4_denies_146 hl (by decide) rfl (fun ls hl => ?_)
            refine lv_iload hx hb dX4_denies_148 (lv_at hl 2 rfl) ?_
            refine lv_if_ne (tgt := 171) hx hb dX4_denies_150 (by decide) (fun c150 => ?_) (fun c150 => absurd c150 (by decide))
            refine lv_iconst (v := (0 : Int32)) hx hb dX4_denies_171 (by decide) ?_
            exact ret _ _ _ (Or.inl rfl) (by simp [zdn, zden, c18, k42_2, zn16_y h123]) dX4_denies_172
        · by_cases k42_3 : (kF i) = (3 : Int32)
          · refine lv_tableIn (tgt := 173) hx hb dX4_denies_42 (by rw [k42_3]; decide) (by rw [k42_3]; decide) (by rw [k42_3]; rfl) (by decide) ?_
            refine lv_iload hx hb dX4_denies_173 (lv_at hl 1 rfl) ?_
            refine lv_if_ne (tgt := 190) hx hb dX4_denies_175 (by decide) (fun c175 => ?_) (fun c175 => absurd c175 (by decide))
            refine lv_iconst (v := (0 : Int32)) hx hb dX4_denies_190 (by decide) ?_
            exact ret _ _ _ (Or.inl rfl) (by simp [zdn, zden, c18, k42_3, (h3 k42_3).1]) dX4_denies_191
          · by_cases k42_4 : (kF i) = (4 : Int32)
            · refine lv_tableIn (tgt := 192) hx hb dX4_denies_42 (by rw [k42_4]; decide) (by rw [k42_4]; decide) (by rw [k42_4]; rfl) (by decide) ?_
              refine lv_iload hx hb dX4_denies_192 (lv_at hl 2 rfl) ?_
              refine lv_aload_n hx hb dX4_denies_194 rfl (lv_at hl 3 rfl) ?_
              refine lv_iload_n hx hb dX4_denies_195 rfl (lv_at hl 5 rfl) ?_
              refine lv_aload_n hx hb dX4_denies_196 rfl (lv_at hl 3 rfl) ?_
              refine zq_get hx hb hts in_X4_denies_X4 hown hK hP 0 rfl rfl 5 (by decide) (hts _ w_X4_denies__fieldLink_RX4_20_WordsBesideModel_of_I__9fac8e) rfl dX4_denies_197 ?_
              refine lv_iload_n hx hb dX4_denies_200 rfl (lv_at hl 4 rfl) ?_
              refine zq_ild hx hb hK hP 4 rfl i rfl (by omega) (by decide) dX4_denies_201 ?_
              refine zq_te (y := (nI (fo i))) ho ?_
              refine lv_iload_n hx hb dX4_denies_202 rfl (lv_at hl 6 rfl) ?_
              refine lv_bipush (v := (nI 16)) hx hb dX4_denies_203 (by decide) ?_
              refine lv_irem hx hb dX4_denies_205 (by decide) ?_
              refine zq_te (y := (nI (r % 16))) (pk_rem (by omega) (by omega) (by omega)) ?_
              refine lv_bipush (v := (nI 16)) hx hb dX4_denies_206 (by decide) ?_
              refine lv_imul hx hb dX4_denies_208 ?_
              refine zq_te (y := (nI (r % 16 * 16))) (pk_mul _ _) ?_
              refine lv_iload_n hx hb dX4_denies_209 rfl (lv_at hl 6 rfl) ?_
              refine lv_bipush (v := (nI 16)) hx hb dX4_denies_210 (by decide) ?_
              refine lv_idiv hx hb dX4_denies_212 (by decide) ?_
              refine zq_te (y := (nI (r / 16))) (pk_div (by omega) (by omega) (by omega)) ?_
              refine lv_iadd hx hb dX4_denies_213 ?_
              refine zq_te (y := (nI (r % 16 * 16 + r / 16))) (nI_add _ _) ?_
              refine zq_cV (rest := [.int (zG gv t (256 * (fo i) + r))]) ⟨hx, hb, hml, hown, hts⟩ (c_X4_give l D cI cZ cW cC ad ln st gv oF kF fF sF bF mF hF kp cm m1 m2 t (fo i) (r % 16 * 16 + r / 16) (by omega) (by omega) (by omega)) (cwV 3 hts gX4_denies_X4_give rfl rfl rfl (by decide +kernel) ⟨Nat.le_of_ble_eq_true rfl, Nat.le_of_ble_eq_true rfl⟩) hK hP 4 0 rfl rfl rfl hl.1 rfl (Nat.le_of_ble_eq_true rfl) dX4_denies_214 ⟨Nat.le_of_ble_eq_true rfl, Nat.le_of_ble_eq_true rfl⟩ (fun v hv => ?_)
              obtain rfl := hv
              refine W.eq (g2 := F0 m 217 ls [.int (zG gv t (256 * (fo i) + (r % 16 * 16 + r / 16))), .int (zG gv t (256 * (fo i) + r))]) rfl ?_
              refine lv_icmp_eq (tgt := 224) hx hb dX4_denies_217 (by decide) (fun c217 => ?_) (fun c217 => ?_)
              · refine lv_iconst (v := (0 : Int32)) hx hb dX4_denies_224 (by decide) ?_
                exact ret _ _ _ (Or.inl rfl) (by simp [zdn, zden, k42_4, c217]) dX4_denies_225
              · refine lv_iconst (v := (1 : Int32)) hx hb dX4_denies_220 (by decide) ?_
                refine lv_goto (tgt := 225) hx hb dX4_denies_221 (by decide) ?_
                exact ret _ _ _ (Or.inr rfl) (by simp [zdn, zden, k42_4, c217]) dX4_denies_225
            · by_cases k42_5 : (kF i) = (5 : Int32)
              · refine lv_tableIn (tgt := 226) hx hb dX4_denies_42 (by rw [k42_5]; decide) (by rw [k42_5]; decide) (by rw [k42_5]; rfl) (by decide) ?_
                refine lv_iload_n hx hb dX4_denies_226 rfl (lv_at hl 6 rfl) ?_
                refine lv_iload hx hb dX4_denies_227 (lv_at hl 0 rfl) ?_
                refine lv_icmp_ne (tgt := 247) hx hb dX4_denies_229 (by decide) (fun c229 => ?_) (fun c229 => ?_)
                · refine lv_iconst (v := (0 : Int32)) hx hb dX4_denies_247 (by decide) ?_
                  exact ret _ _ _ (Or.inl rfl) (by simp [zdn, zden, k42_5, c229]) dX4_denies_248
                · refine lv_iload hx hb dX4_denies_232 (lv_at hl 2 rfl) ?_
                  refine lv_aload_n hx hb dX4_denies_234 rfl (lv_at hl 3 rfl) ?_
                  refine zq_get hx hb hts in_X4_denies_X4 hown hK hP 0 rfl rfl 8 (by decide) (hts _ w_X4_denies__fieldLink_RX4_29_WordsBesideModel_second_I__491129) rfl dX4_denies_235 ?_
                  refine lv_iload_n hx hb dX4_denies_238 rfl (lv_at hl 4 rfl) ?_
                  refine zq_ild hx hb hK hP 7 rfl i rfl (by omega) (by decide) dX4_denies_239 ?_
                  refine lv_icmp_eq (tgt := 247) hx hb dX4_denies_240 (by decide) (fun c240 => ?_) (fun c240 => ?_)
                  · refine lv_iconst (v := (0 : Int32)) hx hb dX4_denies_247 (by decide) ?_
                    exact ret _ _ _ (Or.inl rfl) (by simp [zdn, zden, k42_5, c229, c240]) dX4_denies_248
                  · refine lv_iconst (v := (1 : Int32)) hx hb dX4_denies_243 (by decide) ?_
                    refine lv_goto (tgt := 248) hx hb dX4_denies_244 (by decide) ?_
                    exact ret _ _ _ (Or.inr rfl) (by simp [zdn, zden, k42_5, c229, c240]) dX4_denies_248
              · by_cases k42_6 : (kF i) = (6 : Int32)
                · refine lv_tableIn (tgt := 249) hx hb dX4_denies_42 (by rw [k42_6]; decide) (by rw [k42_6]; decide) (by rw [k42_6]; rfl) (by decide) ?_
                  refine lv_iload hx hb dX4_denies_249 (lv_at hl 1 rfl) ?_
                  refine lv_iload_n hx hb dX4_denies_251 rfl (lv_at hl 6 rfl) ?_
                  refine lv_bipush (v := (nI 16)) hx hb dX4_denies_252 (by decide) ?_
                  refine lv_idiv hx hb dX4_denies_254 (by decide) ?_
                  refine zq_te (y := (nI (r / 16))) (pk_div (by omega) (by omega) (by omega)) ?_
                  refine lv_iload hx hb dX4_denies_255 (lv_at hl 0 rfl) ?_
                  refine lv_icmp_lt (tgt := 264) hx hb dX4_denies_257 (by decide) (fun c257 => ?_) (fun c257 => ?_)
                  · refine lv_iconst (v := (0 : Int32)) hx hb dX4_denies_264 (by decide) ?_
                    refine lv_icmp_eq (tgt := 272) hx hb dX4_denies_265 (by decide) (fun c265 => absurd c265 (by decide)) (fun c265 => ?_)
                    refine lv_iconst (v := (1 : Int32)) hx hb dX4_denies_268 (by decide) ?_
                    refine lv_goto (tgt := 273) hx hb dX4_denies_269 (by decide) ?_
                    exact ret _ _ _ (Or.inr rfl) (by simp [zdn, zden, c18, k42_6, c257, Int32.not_le.mpr c257]) dX4_denies_273
                  · refine lv_iconst (v := (1 : Int32)) hx hb dX4_denies_260 (by decide) ?_
                    refine lv_goto (tgt := 265) hx hb dX4_denies_261 (by decide) ?_
                    refine lv_icmp_eq (tgt := 272) hx hb dX4_denies_265 (by decide) (fun c265 => ?_) (fun c265 => absurd c265 (by decide))
                    refine lv_iconst (v := (0 : Int32)) hx hb dX4_denies_272 (by decide) ?_
                    exact ret _ _ _ (Or.inl rfl) (by simp [zdn, zden, c18, k42_6, c257, Int32.not_lt.mp c257]) dX4_denies_273
                · refine lv_tableOut (tgt := 274) hx hb dX4_denies_42 (by have k42_0T := lv_neT k42_0 (a := 0) rfl; have k42_1T := lv_neT k42_1 (a := 1) rfl; have k42_2T := lv_neT k42_2 (a := 2) rfl; have k42_3T := lv_neT k42_3 (a := 3) rfl; have k42_4T := lv_neT k42_4 (a := 4) rfl; have k42_5T := lv_neT k42_5 (a := 5) rfl; have k42_6T := lv_neT k42_6 (a := 6) rfl; omega) (by decide) ?_
                  have k7 := zk7 hk8 k42_0 k42_1 k42_2 k42_3 k42_4 k42_5 k42_6
                  obtain ⟨pn, hpn, ep⟩ := h7 k7
                  rw [ep] at hl
                  refine lv_iload hx hb dX4_denies_274 (lv_at hl 2 rfl) ?_
                  refine lv_aload_n hx hb dX4_denies_276 rfl (lv_at hl 3 rfl) ?_
                  refine lv_iload_n hx hb dX4_denies_277 rfl (lv_at hl 5 rfl) ?_
                  refine lv_iload hx hb dX4_denies_278 (lv_at hl 0 rfl) ?_
                  refine lv_iload_n hx hb dX4_denies_280 rfl (lv_at hl 6 rfl) ?_
                  refine zq_cV (rest := [.int (zG gv t (256 * (fo i) + r))]) ⟨hx, hb, hml, hown, hts⟩ (c_X4_give l D cI cZ cW cC ad ln st gv oF kF fF sF bF mF hF kp cm m1 m2 t pn r (by omega) (by omega) (by omega)) (cwV 3 hts gX4_denies_X4_give rfl rfl rfl (by decide +kernel) ⟨Nat.le_of_ble_eq_true rfl, Nat.le_of_ble_eq_true rfl⟩) hK hP 4 0 rfl rfl rfl hl.1 rfl (Nat.le_of_ble_eq_true rfl) dX4_denies_281 ⟨Nat.le_of_ble_eq_true rfl, Nat.le_of_ble_eq_true rfl⟩ (fun v hv => ?_)
                  obtain rfl := hv
                  refine W.eq (g2 := F0 m 284 ls [.int (zG gv t (256 * pn + r)), .int (zG gv t (256 * (fo i) + r))]) rfl ?_
                  refine lv_icmp_eq (tgt := 291) hx hb dX4_denies_284 (by decide) (fun c284 => ?_) (fun c284 => ?_)
                  · refine lv_iconst (v := (0 : Int32)) hx hb dX4_denies_291 (by decide) ?_
                    exact ret _ _ _ (Or.inl rfl) (by simp [zdn, zden, k7, ep, zgp_in hpn, c284]) dX4_denies_292
                  · refine lv_iconst (v := (1 : Int32)) hx hb dX4_denies_287 (by decide) ?_
                    refine lv_goto (tgt := 292) hx hb dX4_denies_288 (by decide) ?_
                    exact ret _ _ _ (Or.inr rfl) (by simp [zdn, zden, k7, ep, zgp_in hpn, c284]) dX4_denies_292
set_option maxHeartbeats 4000000 in
set_option maxRecDepth 100000 in
theorem c_X4_harm (l : Launch) (D : va_G) (cI cZ cW cC : ClassId) (ad : Nat → Nat) (ln st gv oF kF fF sF bF mF hF : Nat → Int32) (kp cm m1 m2 : Int32) (fo bo : Nat → Nat) (n k : Nat) (hn : n ≤ 40) (hk : k ≤ 30) (HC : zHC fo bo oF kF fF bF n k) (i t : Nat) (hi : i < n) (ht : t < 32) : zq_ro l D cI cZ cW cC yX4_harm wsX4_harm ({ frames := 3, cells := 0, slots := 0, locals := 72 } : Room) [.ref (ad 0), .int (nI i), .int (nI t)] (mW cI cZ ad ln st gv oF kF fF sF bF mF hF kp cm m1 m2) (fun v => v = some (.int (nI (fb_ct (zdn (zG gv t) fo kF fF sF i) 256)))) := by
  refine zq_roI (own := RX4) (by decide) rfl rfl (Nat.le_of_ble_eq_true rfl) ?_
  intro p e s m below meth c Q ls hF hP hK hl ret
  obtain ⟨hx, hb, hml, hown, hts⟩ := hF
  have hl : lv_has ls 5 [(0, .ref (ad 0)), (1, .int (nI i)), (2, .int (nI t))] := hl
  refine lv_iconst (v := (0 : Int32)) hx hb dX4_harm_0 (by decide) ?_
  refine lv_istore_n (lv' := [(3, .int (nI 0)), (0, .ref (ad 0)), (1, .int (nI i)), (2, .int (nI t))]) hx hb dX4_harm_1 rfl hl (by decide) rfl (fun ls hl => ?_)
  refine lv_iconst (v := (0 : Int32)) hx hb dX4_harm_2 (by decide) ?_
  refine lv_istore (lv' := [(4, .int (nI 0)), (3, .int (nI 0)), (0, .ref (ad 0)), (1, .int (nI i)), (2, .int (nI t))]) hx hb dX4_harm_3 hl (by decide) rfl (fun ls hl => ?_)
  have loop5 : ∀ (fu : Nat) (j a : Nat) (ls : Array Slot), (256 - j) < fu → (j ≤ 256) → (a = fb_ct (zdn (zG gv t) fo kF fF sF i) j) → lv_has ls 5 [(0, .ref (ad 0)), (1, .int (nI i)), (2, .int (nI t)), (3, .int (nI a)), (4, .int (nI j))] → W p l e ({ frames := 3, cells := 0, slots := 0, locals := 72 } : Room) s m ([.ref (ad 0), .int (nI i), .int (nI t)] : List Value).toArray below meth c s.heap [] 0 0 Q (F0 m 5 ls []) := by
    intro fu
    induction fu with
    | zero => intro _ _ _ hmu; exact absurd hmu (Nat.not_lt_zero _)
    | succ fu ih =>
      intro j a ls hmu hj ea hl
      refine lv_iload hx hb dX4_harm_5 (lv_at hl 4 rfl) ?_
      refine lv_sipush (v := (nI 256)) hx hb dX4_harm_7 (by decide) ?_
      refine lv_icmp_ge (tgt := 38) hx hb dX4_harm_10 (by decide) (fun c10 => ?_) (fun c10 => ?_)
      · have h10 := zle c10
        refine lv_iload_n hx hb dX4_harm_38 rfl (lv_at hl 3 rfl) ?_
        exact ret _ _ _ (by rw [ea, show j = 256 by omega]) dX4_harm_39
      · have h10 := znle c10
        refine lv_iload_n hx hb dX4_harm_13 rfl (lv_at hl 3 rfl) ?_
        refine lv_aload_n hx hb dX4_harm_14 rfl (lv_at hl 0 rfl) ?_
        refine lv_iload_n hx hb dX4_harm_15 rfl (lv_at hl 1 rfl) ?_
        refine lv_iload_n hx hb dX4_harm_16 rfl (lv_at hl 2 rfl) ?_
        refine lv_iload hx hb dX4_harm_17 (lv_at hl 4 rfl) ?_
        refine zq_cV (rest := [.int (nI a)]) ⟨hx, hb, hml, hown, hts⟩ (c_X4_denies l D cI cZ cW cC ad ln st gv oF kF fF sF bF mF hF kp cm m1 m2 fo bo n k hn hk HC i t j (by omega) (by omega) (by omega)) (cwV 3 hts gX4_harm_X4_denies rfl rfl rfl (by decide +kernel) ⟨Nat.le_of_ble_eq_true rfl, Nat.le_of_ble_eq_true rfl⟩) hK hP 4 0 rfl rfl rfl hl.1 rfl (Nat.le_of_ble_eq_true rfl) dX4_harm_19 ⟨Nat.le_of_ble_eq_true rfl, Nat.le_of_ble_eq_true rfl⟩ (fun v hv => ?_)
        obtain rfl := hv
        refine W.eq (g2 := F0 m 22 ls [.int (if zdn (zG gv t) fo kF fF sF i j then (1 : Int32) else 0), .int (nI a)]) rfl ?_
        refine lv_if_eq (tgt := 29) hx hb dX4_harm_22 (by decide) (fun c22 => ?_) (fun c22 => ?_)
        · refine lv_iconst (v := (0 : Int32)) hx hb dX4_harm_29 (by decide) ?_
          refine lv_iadd hx hb dX4_harm_30 ?_
          refine zq_te (y := (nI a)) (Int32.add_zero _) ?_
          refine lv_istore_n (lv' := [(3, .int (nI a)), (0, .ref (ad 0)), (1, .int (nI i)), (2, .int (nI t)), (4, .int (nI j))]) hx hb dX4_harm_31 rfl hl (by decide) rfl (fun ls hl => ?_)
          refine lv_iinc (v := (nI (j + 1))) (lv' := [(4, .int (nI (j + 1))), (3, .int (nI a)), (0, .ref (ad 0)), (1, .int (nI i)), (2, .int (nI t))]) hx hb dX4_harm_32 hl (k := 4) rfl ((nI_succ _).symm) (by decide) rfl (fun ls hl => ?_)
          refine lv_goto (tgt := 5) hx hb dX4_harm_35 (by decide) ?_
          exact ih (j + 1) a ls (by omega) (by omega) (by rw [fb_ct_succ, ← ea, zct_b c22]; rfl) (lv_sub hl [2, 3, 4, 1, 0] rfl)
        · refine lv_iconst (v := (1 : Int32)) hx hb dX4_harm_25 (by decide) ?_
          refine lv_goto (tgt := 30) hx hb dX4_harm_26 (by decide) ?_
          refine lv_iadd hx hb dX4_harm_30 ?_
          refine zq_te (y := (nI (a + 1))) (nI_1 _) ?_
          refine lv_istore_n (lv' := [(3, .int (nI (a + 1))), (0, .ref (ad 0)), (1, .int (nI i)), (2, .int (nI t)), (4, .int (nI j))]) hx hb dX4_harm_31 rfl hl (by decide) rfl (fun ls hl => ?_)
          refine lv_iinc (v := (nI (j + 1))) (lv' := [(4, .int (nI (j + 1))), (3, .int (nI (a + 1))), (0, .ref (ad 0)), (1, .int (nI i)), (2, .int (nI t))]) hx hb dX4_harm_32 hl (k := 4) rfl ((nI_succ _).symm) (by decide) rfl (fun ls hl => ?_)
          refine lv_goto (tgt := 5) hx hb dX4_harm_35 (by decide) ?_
          exact ih (j + 1) (a + 1) ls (by omega) (by omega) (by rw [fb_ct_succ, ← ea, zct_a c22]; rfl) (lv_sub hl [2, 3, 4, 1, 0] rfl)
  exact loop5 (256 + 1) 0 0 ls (by omega) (by omega) rfl (lv_sub hl [2, 3, 4, 1, 0] rfl)
theorem w_X4_lastHeld__fieldLink_RX4_32_WordsBesideModel_base_I__b13283 : (.fieldLink RX4 32 "WordsBesideModel" "base" "[I" : Cond) ∈ wsX4_lastHeld := by decide +kernel
theorem w_X4_lastHeld__fieldLink_RX4_75_WordsBesideModel_kept_I__b97d2f : (.fieldLink RX4 75 "WordsBesideModel" "kept" "I" : Cond) ∈ wsX4_lastHeld := by decide +kernel
theorem in_X4_lastHeld_X4 : ∀ w ∈ wsX40, w ∈ wsX4_lastHeld := fun _ h => List.mem_cons_of_mem _ (List.mem_append_right _ h)
set_option maxHeartbeats 4000000 in
set_option maxRecDepth 100000 in
theorem c_X4_lastHeld (l : Launch) (D : va_G) (cI cZ cW cC : ClassId) (ad : Nat → Nat) (ln st gv oF kF fF sF bF mF hF : Nat → Int32) (kp cm m1 m2 : Int32) (fo bo : Nat → Nat) (n k : Nat) (hn : n ≤ 40) (hk : k ≤ 30) (HC : zHC fo bo oF kF fF bF n k) (ek : kp = nI k) (i : Nat) (hi : i < n) : zq_ro l D cI cZ cW cC yX4_lastHeld wsX4_lastHeld ({ frames := 4, cells := 0, slots := 0, locals := 96 } : Room) [.ref (ad 0), .int (nI i)] (mW cI cZ ad ln st gv oF kF fF sF bF mF hF kp cm m1 m2) (fun v => v = some (.int (zlk (fun t => zheld (zdn (zG gv t) fo kF fF sF i)) (bo i) (k + 1)))) := by
  refine zq_roI (own := RX4) (by decide) rfl rfl (Nat.le_of_ble_eq_true rfl) ?_
  intro p e s m below meth c Q ls hF hP hK hl ret
  obtain ⟨hx, hb, hml, hown, hts⟩ := hF
  have hl : lv_has ls 3 [(0, .ref (ad 0)), (1, .int (nI i))] := hl
  obtain ⟨ho, hf, hk8, h3, h5, h7, hbb, hbk⟩ := HC i hi
  subst ek
  refine lv_aload_n hx hb dX4_lastHeld_0 rfl (lv_at hl 0 rfl) ?_
  refine zq_get hx hb hts in_X4_lastHeld_X4 hown hK hP 0 rfl rfl 2 (by decide) (hts _ w_X4_lastHeld__fieldLink_RX4_75_WordsBesideModel_kept_I__b97d2f) rfl dX4_lastHeld_1 ?_
  refine lv_istore_n (lv' := [(2, .int (nI k)), (0, .ref (ad 0)), (1, .int (nI i))]) hx hb dX4_lastHeld_4 rfl hl (by decide) rfl (fun ls hl => ?_)
  have loop5 : ∀ (fu : Nat) (u : Nat) (x2 : Int32) (ls : Array Slot), (u) < fu → (u ≤ k + 1) → (x2 = nI u - 1) → (zlk (fun t => zheld (zdn (zG gv t) fo kF fF sF i)) (bo i) (k + 1) = zlk (fun t => zheld (zdn (zG gv t) fo kF fF sF i)) (bo i) u) → lv_has ls 3 [(0, .ref (ad 0)), (1, .int (nI i)), (2, .int x2)] → W p l e ({ frames := 4, cells := 0, slots := 0, locals := 96 } : Room) s m ([.ref (ad 0), .int (nI i)] : List Value).toArray below meth c s.heap [] 0 0 Q (F0 m 5 ls []) := by
    intro fu
    induction fu with
    | zero => intro _ _ _ hmu; exact absurd hmu (Nat.not_lt_zero _)
    | succ fu ih =>
      intro u x2 ls hmu hu ex2 hz hl
      refine lv_iload_n hx hb dX4_lastHeld_5 rfl (lv_at hl 2 rfl) ?_
      refine lv_aload_n hx hb dX4_lastHeld_6 rfl (lv_at hl 0 rfl) ?_
      refine zq_get hx hb hts in_X4_lastHeld_X4 hown hK hP 0 rfl rfl 9 (by decide) (hts _ w_X4_lastHeld__fieldLink_RX4_32_WordsBesideModel_base_I__b13283) rfl dX4_lastHeld_7 ?_
      refine lv_iload_n hx hb dX4_lastHeld_10 rfl (lv_at hl 1 rfl) ?_
      refine zq_ild hx hb hK hP 8 rfl i rfl (by omega) (by decide) dX4_lastHeld_11 ?_
      refine zq_te (y := (nI (bo i))) hbb ?_
      refine lv_icmp_lt (tgt := 30) hx hb dX4_lastHeld_12 (by decide) (fun c12 => ?_) (fun c12 => ?_)
      · have hub : u ≤ bo i := (zpm_lt (by omega) (by omega)).mp (ex2 ▸ c12)
        refine lv_iload_n hx hb dX4_lastHeld_30 rfl (lv_at hl 2 rfl) ?_
        refine lv_aload_n hx hb dX4_lastHeld_31 rfl (lv_at hl 0 rfl) ?_
        refine zq_get hx hb hts in_X4_lastHeld_X4 hown hK hP 0 rfl rfl 9 (by decide) (hts _ w_X4_lastHeld__fieldLink_RX4_32_WordsBesideModel_base_I__b13283) rfl dX4_lastHeld_32 ?_
        refine lv_iload_n hx hb dX4_lastHeld_35 rfl (lv_at hl 1 rfl) ?_
        refine zq_ild hx hb hK hP 8 rfl i rfl (by omega) (by decide) dX4_lastHeld_36 ?_
        refine zq_te (y := (nI (bo i))) hbb ?_
        refine lv_icmp_lt (tgt := 44) hx hb dX4_lastHeld_37 (by decide) (fun c37 => ?_) (fun c37 => absurd c12 c37)
        refine lv_iconst (v := (-1 : Int32)) hx hb dX4_lastHeld_44 (by decide) ?_
        exact ret _ _ _ (by rw [hz]; cases u with
      | zero => rfl
      | succ u => rw [zlk, if_neg (by omega)]) dX4_lastHeld_45
      · have hbu0 : bo i < u := Nat.not_le.mp fun q => c12 (by rw [ex2]; exact (zpm_lt (by omega) (by omega)).mpr q)
        obtain ⟨u2, rfl⟩ : ∃ q, u = q + 1 := ⟨u - 1, by omega⟩
        have hbu : bo i ≤ u2 := by omega
        rw [nI_pred] at ex2
        subst ex2
        refine lv_aload_n hx hb dX4_lastHeld_15 rfl (lv_at hl 0 rfl) ?_
        refine lv_iload_n hx hb dX4_lastHeld_16 rfl (lv_at hl 1 rfl) ?_
        refine lv_iload_n hx hb dX4_lastHeld_17 rfl (lv_at hl 2 rfl) ?_
        refine zq_cV (rest := []) ⟨hx, hb, hml, hown, hts⟩ (c_X4_harm l D cI cZ cW cC ad ln st gv oF kF fF sF bF mF hF (nI k) cm m1 m2 fo bo n k hn hk HC i u2 (by omega) (by omega)) (cwV 2 hts gX4_lastHeld_X4_harm rfl rfl rfl (by decide +kernel) ⟨Nat.le_of_ble_eq_true rfl, Nat.le_of_ble_eq_true rfl⟩) hK hP 4 0 rfl rfl rfl hl.1 rfl (Nat.le_of_ble_eq_true rfl) dX4_lastHeld_18 ⟨Nat.le_of_ble_eq_true rfl, Nat.le_of_ble_eq_true rfl⟩ (fun v hv => ?_)
        obtain rfl := hv
        refine W.eq (g2 := F0 m 21 ls [.int (nI (fb_ct (zdn (zG gv u2) fo kF fF sF i) 256))]) rfl ?_
        refine lv_if_le (tgt := 30) hx hb dX4_lastHeld_21 (by decide) (fun c21 => ?_) (fun c21 => ?_)
        · refine lv_iload_n hx hb dX4_lastHeld_30 rfl (lv_at hl 2 rfl) ?_
          refine lv_aload_n hx hb dX4_lastHeld_31 rfl (lv_at hl 0 rfl) ?_
          refine zq_get hx hb hts in_X4_lastHeld_X4 hown hK hP 0 rfl rfl 9 (by decide) (hts _ w_X4_lastHeld__fieldLink_RX4_32_WordsBesideModel_base_I__b13283) rfl dX4_lastHeld_32 ?_
          refine lv_iload_n hx hb dX4_lastHeld_35 rfl (lv_at hl 1 rfl) ?_
          refine zq_ild hx hb hK hP 8 rfl i rfl (by omega) (by decide) dX4_lastHeld_36 ?_
          refine zq_te (y := (nI (bo i))) hbb ?_
          refine lv_icmp_lt (tgt := 44) hx hb dX4_lastHeld_37 (by decide) (fun c37 => absurd (zlt c37) (by omega)) (fun c37 => ?_)
          refine lv_iload_n hx hb dX4_lastHeld_40 rfl (lv_at hl 2 rfl) ?_
          refine lv_goto (tgt := 45) hx hb dX4_lastHeld_41 (by decide) ?_
          exact ret _ _ _ (by rw [hz, zlk, if_pos hbu]; simp only [zheld_le c21]; rfl) dX4_lastHeld_45
        · refine lv_iinc (v := (nI u2 + (-1))) (lv' := [(2, .int (nI u2 + (-1))), (0, .ref (ad 0)), (1, .int (nI i))]) hx hb dX4_lastHeld_24 hl (k := 2) rfl (rfl) (by decide) rfl (fun ls hl => ?_)
          refine lv_goto (tgt := 5) hx hb dX4_lastHeld_27 (by decide) ?_
          exact ih u2 (nI u2 + (-1)) ls (by omega) (by omega) (by rw [Int32.sub_eq_add_neg]) (by rw [hz, zlk, if_pos hbu]; simp only [zheld_nle c21]; rfl) (lv_sub hl [1, 2, 0] rfl)
  exact loop5 ((k + 1) + 1) (k + 1) (nI k) ls (by omega) (by omega) (nI_pred _).symm rfl (lv_sub hl [1, 2, 0] rfl)
set_option maxHeartbeats 4000000 in
set_option maxRecDepth 100000 in
theorem c_X4_isHeld (l : Launch) (D : va_G) (cI cZ cW cC : ClassId) (ad : Nat → Nat) (ln st gv oF kF fF sF bF mF hF : Nat → Int32) (kp cm m1 m2 : Int32) (fo bo : Nat → Nat) (n k : Nat) (hn : n ≤ 40) (hk : k ≤ 30) (HC : zHC fo bo oF kF fF bF n k) (i : Nat) (hi : i < n) : zq_ro l D cI cZ cW cC yX4_isHeld wsX4_isHeld ({ frames := 4, cells := 0, slots := 0, locals := 96 } : Room) [.ref (ad 0), .int (nI i)] (mW cI cZ ad ln st gv oF kF fF sF bF mF hF kp cm m1 m2) (fun v => v = some (.int (if zheld (zdn (zG gv 31) fo kF fF sF i) then 1 else 0))) := by
  refine zq_roZ (own := RX4) (by decide) rfl rfl (Nat.le_of_ble_eq_true rfl) ?_
  intro p e s m below meth c Q ls hF hP hK hl ret
  obtain ⟨hx, hb, hml, hown, hts⟩ := hF
  have hl : lv_has ls 2 [(0, .ref (ad 0)), (1, .int (nI i))] := hl
  refine lv_aload_n hx hb dX4_isHeld_0 rfl (lv_at hl 0 rfl) ?_
  refine lv_iload_n hx hb dX4_isHeld_1 rfl (lv_at hl 1 rfl) ?_
  refine lv_bipush (v := (nI 31)) hx hb dX4_isHeld_2 (by decide) ?_
  refine zq_cV (rest := []) ⟨hx, hb, hml, hown, hts⟩ (c_X4_harm l D cI cZ cW cC ad ln st gv oF kF fF sF bF mF hF kp cm m1 m2 fo bo n k hn hk HC i 31 (by omega) (by omega)) (cwV 2 hts gX4_isHeld_X4_harm rfl rfl rfl (by decide +kernel) ⟨Nat.le_of_ble_eq_true rfl, Nat.le_of_ble_eq_true rfl⟩) hK hP 4 0 rfl rfl rfl hl.1 rfl (Nat.le_of_ble_eq_true rfl) dX4_isHeld_4 ⟨Nat.le_of_ble_eq_true rfl, Nat.le_of_ble_eq_true rfl⟩ (fun v hv => ?_)
  obtain rfl := hv
  refine W.eq (g2 := F0 m 7 ls [.int (nI (fb_ct (zdn (zG gv 31) fo kF fF sF i) 256))]) rfl ?_
  refine lv_if_ne (tgt := 14) hx hb dX4_isHeld_7 (by decide) (fun c7 => ?_) (fun c7 => ?_)
  · refine lv_iconst (v := (0 : Int32)) hx hb dX4_isHeld_14 (by decide) ?_
    exact ret _ _ _ (Or.inl rfl) (by rw [zheld_cn c7]; rfl) dX4_isHeld_15
  · refine lv_iconst (v := (1 : Int32)) hx hb dX4_isHeld_10 (by decide) ?_
    refine lv_goto (tgt := 15) hx hb dX4_isHeld_11 (by decide) ?_
    exact ret _ _ _ (Or.inr rfl) (by rw [zheld_ct c7]; rfl) dX4_isHeld_15
set_option maxHeartbeats 4000000 in
set_option maxRecDepth 100000 in
theorem c_X4_stateOf (l : Launch) (D : va_G) (cI cZ cW cC : ClassId) (ad : Nat → Nat) (ln st gv oF kF fF sF bF mF hF : Nat → Int32) (kp cm m1 m2 : Int32) (fo bo : Nat → Nat) (n k : Nat) (hn : n ≤ 40) (hk : k ≤ 30) (HC : zHC fo bo oF kF fF bF n k) (ek : kp = nI k) (i : Nat) (hi : i < n) : zq_ro l D cI cZ cW cC yX4_stateOf wsX4_stateOf ({ frames := 5, cells := 0, slots := 0, locals := 118 } : Room) [.ref (ad 0), .int (nI i)] (mW cI cZ ad ln st gv oF kF fF sF bF mF hF kp cm m1 m2) (fun v => v = some (.int (zstd (zheld (zdn (zG gv 31) fo kF fF sF i)) (zlk (fun t => zheld (zdn (zG gv t) fo kF fF sF i)) (bo i) (k + 1))))) := by
  refine zq_roI (own := RX4) (by decide) rfl rfl (Nat.le_of_ble_eq_true rfl) ?_
  intro p e s m below meth c Q ls hF hP hK hl ret
  obtain ⟨hx, hb, hml, hown, hts⟩ := hF
  have hl : lv_has ls 2 [(0, .ref (ad 0)), (1, .int (nI i))] := hl
  refine lv_aload_n hx hb dX4_stateOf_0 rfl (lv_at hl 0 rfl) ?_
  refine lv_iload_n hx hb dX4_stateOf_1 rfl (lv_at hl 1 rfl) ?_
  refine zq_cV (rest := []) ⟨hx, hb, hml, hown, hts⟩ (c_X4_isHeld l D cI cZ cW cC ad ln st gv oF kF fF sF bF mF hF kp cm m1 m2 fo bo n k hn hk HC i (by omega)) (cwV 1 hts gX4_stateOf_X4_isHeld rfl rfl rfl (by decide +kernel) ⟨Nat.le_of_ble_eq_true rfl, Nat.le_of_ble_eq_true rfl⟩) hK hP 4 0 rfl rfl rfl hl.1 rfl (Nat.le_of_ble_eq_true rfl) dX4_stateOf_2 ⟨Nat.le_of_ble_eq_true rfl, Nat.le_of_ble_eq_true rfl⟩ (fun v hv => ?_)
  obtain rfl := hv
  refine W.eq (g2 := F0 m 5 ls [.int (if zheld (zdn (zG gv 31) fo kF fF sF i) then (1 : Int32) else 0)]) rfl ?_
  refine lv_if_eq (tgt := 12) hx hb dX4_stateOf_5 (by decide) (fun c5 => ?_) (fun c5 => ?_)
  · refine lv_aload_n hx hb dX4_stateOf_12 rfl (lv_at hl 0 rfl) ?_
    refine lv_iload_n hx hb dX4_stateOf_13 rfl (lv_at hl 1 rfl) ?_
    refine zq_cV (rest := []) ⟨hx, hb, hml, hown, hts⟩ (c_X4_lastHeld l D cI cZ cW cC ad ln st gv oF kF fF sF bF mF hF kp cm m1 m2 fo bo n k hn hk HC ek i (by omega)) (cwV 1 hts gX4_stateOf_X4_lastHeld rfl rfl rfl (by decide +kernel) ⟨Nat.le_of_ble_eq_true rfl, Nat.le_of_ble_eq_true rfl⟩) hK hP 4 0 rfl rfl rfl hl.1 rfl (Nat.le_of_ble_eq_true rfl) dX4_stateOf_14 ⟨Nat.le_of_ble_eq_true rfl, Nat.le_of_ble_eq_true rfl⟩ (fun v hv => ?_)
    obtain rfl := hv
    refine W.eq (g2 := F0 m 17 ls [.int (zlk (fun t => zheld (zdn (zG gv t) fo kF fF sF i)) (bo i) (k + 1))]) rfl ?_
    refine lv_iconst (v := (-1 : Int32)) hx hb dX4_stateOf_17 (by decide) ?_
    refine lv_icmp_ne (tgt := 25) hx hb dX4_stateOf_18 (by decide) (fun c18 => ?_) (fun c18 => ?_)
    · refine lv_iconst (v := (2 : Int32)) hx hb dX4_stateOf_25 (by decide) ?_
      exact ret _ _ _ (by rw [zct_bb c5]; simp [zstd, c18]) dX4_stateOf_26
    · refine lv_iconst (v := (1 : Int32)) hx hb dX4_stateOf_21 (by decide) ?_
      refine lv_goto (tgt := 26) hx hb dX4_stateOf_22 (by decide) ?_
      exact ret _ _ _ (by rw [zct_bb c5]; simp [zstd, c18]) dX4_stateOf_26
  · refine lv_iconst (v := (0 : Int32)) hx hb dX4_stateOf_8 (by decide) ?_
    refine lv_goto (tgt := 26) hx hb dX4_stateOf_9 (by decide) ?_
    exact ret _ _ _ (by rw [zct_aa c5]; rfl) dX4_stateOf_26
theorem w_X4_told__constant_RX4_64_2147483648__c0c951 : (.constant RX4 64 (-2147483648) : Cond) ∈ wsX4_told := by decide +kernel
theorem w_X4_told__fieldLink_RX4_20_WordsBesideModel_of_I__9fac8e : (.fieldLink RX4 20 "WordsBesideModel" "of" "[I" : Cond) ∈ wsX4_told := by decide +kernel
theorem w_X4_told__fieldLink_RX4_23_WordsBesideModel_kind_I__cf4f2c : (.fieldLink RX4 23 "WordsBesideModel" "kind" "[I" : Cond) ∈ wsX4_told := by decide +kernel
theorem w_X4_told__fieldLink_RX4_26_WordsBesideModel_first_I__de9671 : (.fieldLink RX4 26 "WordsBesideModel" "first" "[I" : Cond) ∈ wsX4_told := by decide +kernel
theorem w_X4_told__fieldLink_RX4_29_WordsBesideModel_second_I__491129 : (.fieldLink RX4 29 "WordsBesideModel" "second" "[I" : Cond) ∈ wsX4_told := by decide +kernel
theorem w_X4_told__fieldLink_RX4_35_WordsBesideModel_isMarked_Z__f949ba : (.fieldLink RX4 35 "WordsBesideModel" "isMarked" "[Z" : Cond) ∈ wsX4_told := by decide +kernel
theorem in_X4_told_X4 : ∀ w ∈ wsX40, w ∈ wsX4_told := fun _ h => List.mem_cons_of_mem _ (List.mem_append_right _ h)
set_option maxHeartbeats 4000000 in
set_option maxRecDepth 100000 in
theorem c_X4_told (l : Launch) (D : va_G) (cI cZ cW cC : ClassId) (ad : Nat → Nat) (ln st gv oF kF fF sF bF mF hF : Nat → Int32) (kp cm m1 m2 : Int32) (fo bo : Nat → Nat) (n k : Nat) (hn : n ≤ 40) (hk : k ≤ 30) (HC : zHC fo bo oF kF fF bF n k) (ek : kp = nI k) (en : cm = nI n) (cl wh : Int32) : zq_ro l D cI cZ cW cC yX4_told wsX4_told ({ frames := 6, cells := 0, slots := 0, locals := 139 } : Room) [.ref (ad 0), .int cl, .int wh] (mW cI cZ ad ln st gv oF kF fF sF bF mF hF kp cm m1 m2) (fun v => v = some (.int (ztold n cl wh (fun i => (zstd (zheld (zdn (zG gv 31) fo kF fF sF i)) (zlk (fun t => zheld (zdn (zG gv t) fo kF fF sF i)) (bo i) (k + 1)))) (fun i => nI (fb_ct (zdn (zG gv 31) fo kF fF sF i) 256)) (fun i => nI (fo i)) kF fF sF (fun i => zlk (fun t => zheld (zdn (zG gv t) fo kF fF sF i)) (bo i) (k + 1)) mF))) := by
  refine zq_roI (own := RX4) (by decide) rfl rfl (Nat.le_of_ble_eq_true rfl) ?_
  intro p e s m below meth c Q ls hF hP hK hl ret
  obtain ⟨hx, hb, hml, hown, hts⟩ := hF
  have hl : lv_has ls 3 [(0, .ref (ad 0)), (1, .int cl), (2, .int wh)] := hl
  refine lv_aload_n hx hb dX4_told_0 rfl (lv_at hl 0 rfl) ?_
  refine lv_iload_n hx hb dX4_told_1 rfl (lv_at hl 1 rfl) ?_
  refine zq_cV (rest := []) ⟨hx, hb, hml, hown, hts⟩ (c_X4_isClaim l D cI cZ cW cC ad ln st gv oF kF fF sF bF mF hF kp cm m1 m2 n hn en cl) (cwV 1 hts gX4_told_X4_isClaim rfl rfl rfl (by decide +kernel) ⟨Nat.le_of_ble_eq_true rfl, Nat.le_of_ble_eq_true rfl⟩) hK hP 4 0 rfl rfl rfl hl.1 rfl (Nat.le_of_ble_eq_true rfl) dX4_told_2 ⟨Nat.le_of_ble_eq_true rfl, Nat.le_of_ble_eq_true rfl⟩ (fun v hv => ?_)
  rcases hv with ⟨rfl, i, hi, rfl⟩ | ⟨rfl, hyc⟩
  · refine W.eq (g2 := F0 m 5 ls [.int (1 : Int32)]) rfl ?_
    refine lv_if_ne (tgt := 11) hx hb dX4_told_5 (by decide) (fun c5 => ?_) (fun c5 => absurd c5 (by decide))
    refine lv_iload_n hx hb dX4_told_11 rfl (lv_at hl 2 rfl) ?_
    by_cases k12_0 : wh = (0 : Int32)
    · refine lv_tableIn (tgt := 60) hx hb dX4_told_12 (by rw [k12_0]; decide) (by rw [k12_0]; decide) (by rw [k12_0]; rfl) (by decide) ?_
      refine lv_aload_n hx hb dX4_told_60 rfl (lv_at hl 0 rfl) ?_
      refine lv_iload_n hx hb dX4_told_61 rfl (lv_at hl 1 rfl) ?_
      refine zq_cV (rest := []) ⟨hx, hb, hml, hown, hts⟩ (c_X4_stateOf l D cI cZ cW cC ad ln st gv oF kF fF sF bF mF hF kp cm m1 m2 fo bo n k hn hk HC ek i (by omega)) (cwV 1 hts gX4_told_X4_stateOf rfl rfl rfl (by decide +kernel) ⟨Nat.le_of_ble_eq_true rfl, Nat.le_of_ble_eq_true rfl⟩) hK hP 4 0 rfl rfl rfl hl.1 rfl (Nat.le_of_ble_eq_true rfl) dX4_told_62 ⟨Nat.le_of_ble_eq_true rfl, Nat.le_of_ble_eq_true rfl⟩ (fun v hv => ?_)
      obtain rfl := hv
      refine W.eq (g2 := F0 m 65 ls [.int (zstd (zheld (zdn (zG gv 31) fo kF fF sF i)) (zlk (fun t => zheld (zdn (zG gv t) fo kF fF sF i)) (bo i) (k + 1)))]) rfl ?_
      exact ret _ _ _ (by rw [ztold_in hi hn]; simp [k12_0]) dX4_told_65
    · by_cases k12_1 : wh = (1 : Int32)
      · refine lv_tableIn (tgt := 66) hx hb dX4_told_12 (by rw [k12_1]; decide) (by rw [k12_1]; decide) (by rw [k12_1]; rfl) (by decide) ?_
        refine lv_aload_n hx hb dX4_told_66 rfl (lv_at hl 0 rfl) ?_
        refine zq_get hx hb hts in_X4_told_X4 hown hK hP 0 rfl rfl 5 (by decide) (hts _ w_X4_told__fieldLink_RX4_20_WordsBesideModel_of_I__9fac8e) rfl dX4_told_67 ?_
        refine lv_iload_n hx hb dX4_told_70 rfl (lv_at hl 1 rfl) ?_
        refine zq_ild hx hb hK hP 4 rfl i rfl (by omega) (by decide) dX4_told_71 ?_
        refine zq_te (y := (nI (fo i))) (HC i hi).1 ?_
        exact ret _ _ _ (by rw [ztold_in hi hn]; simp [k12_1]) dX4_told_72
      · by_cases k12_2 : wh = (2 : Int32)
        · refine lv_tableIn (tgt := 73) hx hb dX4_told_12 (by rw [k12_2]; decide) (by rw [k12_2]; decide) (by rw [k12_2]; rfl) (by decide) ?_
          refine lv_aload_n hx hb dX4_told_73 rfl (lv_at hl 0 rfl) ?_
          refine zq_get hx hb hts in_X4_told_X4 hown hK hP 0 rfl rfl 6 (by decide) (hts _ w_X4_told__fieldLink_RX4_23_WordsBesideModel_kind_I__cf4f2c) rfl dX4_told_74 ?_
          refine lv_iload_n hx hb dX4_told_77 rfl (lv_at hl 1 rfl) ?_
          refine zq_ild hx hb hK hP 5 rfl i rfl (by omega) (by decide) dX4_told_78 ?_
          exact ret _ _ _ (by rw [ztold_in hi hn]; simp [k12_2]) dX4_told_79
        · by_cases k12_3 : wh = (3 : Int32)
          · refine lv_tableIn (tgt := 80) hx hb dX4_told_12 (by rw [k12_3]; decide) (by rw [k12_3]; decide) (by rw [k12_3]; rfl) (by decide) ?_
            refine lv_aload_n hx hb dX4_told_80 rfl (lv_at hl 0 rfl) ?_
            refine zq_get hx hb hts in_X4_told_X4 hown hK hP 0 rfl rfl 7 (by decide) (hts _ w_X4_told__fieldLink_RX4_26_WordsBesideModel_first_I__de9671) rfl dX4_told_81 ?_
            refine lv_iload_n hx hb dX4_told_84 rfl (lv_at hl 1 rfl) ?_
            refine zq_ild hx hb hK hP 6 rfl i rfl (by omega) (by decide) dX4_told_85 ?_
            exact ret _ _ _ (by rw [ztold_in hi hn]; simp [k12_3]) dX4_told_86
          · by_cases k12_4 : wh = (4 : Int32)
            · refine lv_tableIn (tgt := 87) hx hb dX4_told_12 (by rw [k12_4]; decide) (by rw [k12_4]; decide) (by rw [k12_4]; rfl) (by decide) ?_
              refine lv_aload_n hx hb dX4_told_87 rfl (lv_at hl 0 rfl) ?_
              refine zq_get hx hb hts in_X4_told_X4 hown hK hP 0 rfl rfl 8 (by decide) (hts _ w_X4_told__fieldLink_RX4_29_WordsBesideModel_second_I__491129) rfl dX4_told_88 ?_
              refine lv_iload_n hx hb dX4_told_91 rfl (lv_at hl 1 rfl) ?_
              refine zq_ild hx hb hK hP 7 rfl i rfl (by omega) (by decide) dX4_told_92 ?_
              exact ret _ _ _ (by rw [ztold_in hi hn]; simp [k12_4]) dX4_told_93
            · by_cases k12_5 : wh = (5 : Int32)
              · refine lv_tableIn (tgt := 94) hx hb dX4_told_12 (by rw [k12_5]; decide) (by rw [k12_5]; decide) (by rw [k12_5]; rfl) (by decide) ?_
                refine lv_aload_n hx hb dX4_told_94 rfl (lv_at hl 0 rfl) ?_
                refine lv_iload_n hx hb dX4_told_95 rfl (lv_at hl 1 rfl) ?_
                refine lv_bipush (v := (nI 31)) hx hb dX4_told_96 (by decide) ?_
                refine zq_cV (rest := []) ⟨hx, hb, hml, hown, hts⟩ (c_X4_harm l D cI cZ cW cC ad ln st gv oF kF fF sF bF mF hF kp cm m1 m2 fo bo n k hn hk HC i 31 (by omega) (by omega)) (cwV 2 hts gX4_told_X4_harm rfl rfl rfl (by decide +kernel) ⟨Nat.le_of_ble_eq_true rfl, Nat.le_of_ble_eq_true rfl⟩) hK hP 4 0 rfl rfl rfl hl.1 rfl (Nat.le_of_ble_eq_true rfl) dX4_told_98 ⟨Nat.le_of_ble_eq_true rfl, Nat.le_of_ble_eq_true rfl⟩ (fun v hv => ?_)
                obtain rfl := hv
                refine W.eq (g2 := F0 m 101 ls [.int (nI (fb_ct (zdn (zG gv 31) fo kF fF sF i) 256))]) rfl ?_
                exact ret _ _ _ (by rw [ztold_in hi hn]; simp [k12_5]) dX4_told_101
              · by_cases k12_6 : wh = (6 : Int32)
                · refine lv_tableIn (tgt := 102) hx hb dX4_told_12 (by rw [k12_6]; decide) (by rw [k12_6]; decide) (by rw [k12_6]; rfl) (by decide) ?_
                  refine lv_aload_n hx hb dX4_told_102 rfl (lv_at hl 0 rfl) ?_
                  refine lv_iload_n hx hb dX4_told_103 rfl (lv_at hl 1 rfl) ?_
                  refine zq_cV (rest := []) ⟨hx, hb, hml, hown, hts⟩ (c_X4_stateOf l D cI cZ cW cC ad ln st gv oF kF fF sF bF mF hF kp cm m1 m2 fo bo n k hn hk HC ek i (by omega)) (cwV 1 hts gX4_told_X4_stateOf rfl rfl rfl (by decide +kernel) ⟨Nat.le_of_ble_eq_true rfl, Nat.le_of_ble_eq_true rfl⟩) hK hP 4 0 rfl rfl rfl hl.1 rfl (Nat.le_of_ble_eq_true rfl) dX4_told_104 ⟨Nat.le_of_ble_eq_true rfl, Nat.le_of_ble_eq_true rfl⟩ (fun v hv => ?_)
                  obtain rfl := hv
                  refine W.eq (g2 := F0 m 107 ls [.int (zstd (zheld (zdn (zG gv 31) fo kF fF sF i)) (zlk (fun t => zheld (zdn (zG gv t) fo kF fF sF i)) (bo i) (k + 1)))]) rfl ?_
                  refine lv_iconst (v := (2 : Int32)) hx hb dX4_told_107 (by decide) ?_
                  refine lv_icmp_ne (tgt := 121) hx hb dX4_told_108 (by decide) (fun c108 => ?_) (fun c108 => ?_)
                  · refine lv_iconst (v := (-1 : Int32)) hx hb dX4_told_121 (by decide) ?_
                    exact ret _ _ _ (by rw [ztold_in hi hn]; simp [k12_6, c108]) dX4_told_122
                  · refine lv_aload_n hx hb dX4_told_111 rfl (lv_at hl 0 rfl) ?_
                    refine lv_iload_n hx hb dX4_told_112 rfl (lv_at hl 1 rfl) ?_
                    refine zq_cV (rest := []) ⟨hx, hb, hml, hown, hts⟩ (c_X4_lastHeld l D cI cZ cW cC ad ln st gv oF kF fF sF bF mF hF kp cm m1 m2 fo bo n k hn hk HC ek i (by omega)) (cwV 1 hts gX4_told_X4_lastHeld rfl rfl rfl (by decide +kernel) ⟨Nat.le_of_ble_eq_true rfl, Nat.le_of_ble_eq_true rfl⟩) hK hP 4 0 rfl rfl rfl hl.1 rfl (Nat.le_of_ble_eq_true rfl) dX4_told_113 ⟨Nat.le_of_ble_eq_true rfl, Nat.le_of_ble_eq_true rfl⟩ (fun v hv => ?_)
                    obtain rfl := hv
                    refine W.eq (g2 := F0 m 116 ls [.int (zlk (fun t => zheld (zdn (zG gv t) fo kF fF sF i)) (bo i) (k + 1))]) rfl ?_
                    refine lv_iconst (v := (1 : Int32)) hx hb dX4_told_116 (by decide) ?_
                    refine lv_iadd hx hb dX4_told_117 ?_
                    refine lv_goto (tgt := 122) hx hb dX4_told_118 (by decide) ?_
                    exact ret _ _ _ (by rw [ztold_in hi hn]; simp [k12_6, c108]) dX4_told_122
                · by_cases k12_7 : wh = (7 : Int32)
                  · refine lv_tableIn (tgt := 123) hx hb dX4_told_12 (by rw [k12_7]; decide) (by rw [k12_7]; decide) (by rw [k12_7]; rfl) (by decide) ?_
                    refine lv_aload_n hx hb dX4_told_123 rfl (lv_at hl 0 rfl) ?_
                    refine zq_get hx hb hts in_X4_told_X4 hown hK hP 0 rfl rfl 10 (by decide) (hts _ w_X4_told__fieldLink_RX4_35_WordsBesideModel_isMarked_Z__f949ba) rfl dX4_told_124 ?_
                    refine lv_iload_n hx hb dX4_told_127 rfl (lv_at hl 1 rfl) ?_
                    refine zq_zld hx hb hK hP 9 rfl i rfl (by omega) (by decide) dX4_told_128 ?_
                    refine lv_if_eq (tgt := 136) hx hb dX4_told_129 (by decide) (fun c129 => ?_) (fun c129 => ?_)
                    · refine lv_iconst (v := (0 : Int32)) hx hb dX4_told_136 (by decide) ?_
                      exact ret _ _ _ (by rw [ztold_in hi hn]; simp [k12_7, c129]) dX4_told_137
                    · refine lv_iconst (v := (1 : Int32)) hx hb dX4_told_132 (by decide) ?_
                      refine lv_goto (tgt := 137) hx hb dX4_told_133 (by decide) ?_
                      exact ret _ _ _ (by rw [ztold_in hi hn]; simp [k12_7, c129]) dX4_told_137
                  · refine lv_tableOut (tgt := 138) hx hb dX4_told_12 (by have k12_0T := lv_neT k12_0 (a := 0) rfl; have k12_1T := lv_neT k12_1 (a := 1) rfl; have k12_2T := lv_neT k12_2 (a := 2) rfl; have k12_3T := lv_neT k12_3 (a := 3) rfl; have k12_4T := lv_neT k12_4 (a := 4) rfl; have k12_5T := lv_neT k12_5 (a := 5) rfl; have k12_6T := lv_neT k12_6 (a := 6) rfl; have k12_7T := lv_neT k12_7 (a := 7) rfl; omega) (by decide) ?_
                    refine lv_ldc (v := (-2147483648 : Int32)) hx hb hown (hts _ w_X4_told__constant_RX4_64_2147483648__c0c951) dX4_told_138 ?_
                    exact ret _ _ _ (by rw [ztold_in hi hn]; simp [k12_0, k12_1, k12_2, k12_3, k12_4, k12_5, k12_6, k12_7]) dX4_told_140
  · refine W.eq (g2 := F0 m 5 ls [.int (0 : Int32)]) rfl ?_
    refine lv_if_ne (tgt := 11) hx hb dX4_told_5 (by decide) (fun c5 => absurd c5 (by decide)) (fun c5 => ?_)
    refine lv_ldc (v := (-2147483648 : Int32)) hx hb hown (hts _ w_X4_told__constant_RX4_64_2147483648__c0c951) dX4_told_8 ?_
    exact ret _ _ _ (by rw [ztold_no hyc]) dX4_told_10
set_option maxHeartbeats 4000000 in
set_option maxRecDepth 100000 in
theorem c_X4_denied (l : Launch) (D : va_G) (cI cZ cW cC : ClassId) (ad : Nat → Nat) (ln st gv oF kF fF sF bF mF hF : Nat → Int32) (kp cm m1 m2 : Int32) (fo bo : Nat → Nat) (n k : Nat) (hn : n ≤ 40) (hk : k ≤ 30) (HC : zHC fo bo oF kF fF bF n k) (en : cm = nI n) (cl : Int32) : zq_ro l D cI cZ cW cC yX4_denied wsX4_denied ({ frames := 3, cells := 0, slots := 0, locals := 72 } : Room) [.ref (ad 0), .int cl] (mW cI cZ ad ln st gv oF kF fF sF bF mF hF kp cm m1 m2) (fun v => v = some (.int (zdnd n cl (fun i => (zdn (zG gv 31) fo kF fF sF i))))) := by
  refine zq_roI (own := RX4) (by decide) rfl rfl (Nat.le_of_ble_eq_true rfl) ?_
  intro p e s m below meth c Q ls hF hP hK hl ret
  obtain ⟨hx, hb, hml, hown, hts⟩ := hF
  have hl : lv_has ls 3 [(0, .ref (ad 0)), (1, .int cl)] := hl
  refine lv_aload_n hx hb dX4_denied_0 rfl (lv_at hl 0 rfl) ?_
  refine lv_iload_n hx hb dX4_denied_1 rfl (lv_at hl 1 rfl) ?_
  refine zq_cV (rest := []) ⟨hx, hb, hml, hown, hts⟩ (c_X4_isClaim l D cI cZ cW cC ad ln st gv oF kF fF sF bF mF hF kp cm m1 m2 n hn en cl) (cwV 1 hts gX4_denied_X4_isClaim rfl rfl rfl (by decide +kernel) ⟨Nat.le_of_ble_eq_true rfl, Nat.le_of_ble_eq_true rfl⟩) hK hP 4 0 rfl rfl rfl hl.1 rfl (Nat.le_of_ble_eq_true rfl) dX4_denied_2 ⟨Nat.le_of_ble_eq_true rfl, Nat.le_of_ble_eq_true rfl⟩ (fun v hv => ?_)
  rcases hv with ⟨rfl, i, hi, rfl⟩ | ⟨rfl, hyc⟩
  · refine W.eq (g2 := F0 m 5 ls [.int (1 : Int32)]) rfl ?_
    refine lv_if_ne (tgt := 10) hx hb dX4_denied_5 (by decide) (fun c5 => ?_) (fun c5 => absurd c5 (by decide))
    refine lv_iconst (v := (0 : Int32)) hx hb dX4_denied_10 (by decide) ?_
    refine lv_istore_n (lv' := [(2, .int (nI 0)), (0, .ref (ad 0)), (1, .int (nI i))]) hx hb dX4_denied_11 rfl hl (by decide) rfl (fun ls hl => ?_)
    have loop12 : ∀ (fu : Nat) (j : Nat) (ls : Array Slot), (256 - j) < fu → (j ≤ 256) → (∀ q, q < j → (zdn (zG gv 31) fo kF fF sF i) q = false) → lv_has ls 3 [(0, .ref (ad 0)), (1, .int (nI i)), (2, .int (nI j))] → W p l e ({ frames := 3, cells := 0, slots := 0, locals := 72 } : Room) s m ([.ref (ad 0), .int (nI i)] : List Value).toArray below meth c s.heap [] 0 0 Q (F0 m 12 ls []) := by
      intro fu
      induction fu with
      | zero => intro _ _ hmu; exact absurd hmu (Nat.not_lt_zero _)
      | succ fu ih =>
        intro j ls hmu hj hno hl
        refine lv_iload_n hx hb dX4_denied_12 rfl (lv_at hl 2 rfl) ?_
        refine lv_sipush (v := (nI 256)) hx hb dX4_denied_13 (by decide) ?_
        refine lv_icmp_ge (tgt := 38) hx hb dX4_denied_16 (by decide) (fun c16 => ?_) (fun c16 => ?_)
        · have h16 := zle c16
          refine lv_iconst (v := (-1 : Int32)) hx hb dX4_denied_38 (by decide) ?_
          exact ret _ _ _ (by rw [zdnd_in hi hn, zfirst_none (fun q hq => hno q (by omega)), if_neg (by omega)]) dX4_denied_39
        · have h16 := znle c16
          refine lv_aload_n hx hb dX4_denied_19 rfl (lv_at hl 0 rfl) ?_
          refine lv_iload_n hx hb dX4_denied_20 rfl (lv_at hl 1 rfl) ?_
          refine lv_bipush (v := (nI 31)) hx hb dX4_denied_21 (by decide) ?_
          refine lv_iload_n hx hb dX4_denied_23 rfl (lv_at hl 2 rfl) ?_
          refine zq_cV (rest := []) ⟨hx, hb, hml, hown, hts⟩ (c_X4_denies l D cI cZ cW cC ad ln st gv oF kF fF sF bF mF hF kp cm m1 m2 fo bo n k hn hk HC i 31 j (by omega) (by omega) (by omega)) (cwV 3 hts gX4_denied_X4_denies rfl rfl rfl (by decide +kernel) ⟨Nat.le_of_ble_eq_true rfl, Nat.le_of_ble_eq_true rfl⟩) hK hP 4 0 rfl rfl rfl hl.1 rfl (Nat.le_of_ble_eq_true rfl) dX4_denied_24 ⟨Nat.le_of_ble_eq_true rfl, Nat.le_of_ble_eq_true rfl⟩ (fun v hv => ?_)
          obtain rfl := hv
          refine W.eq (g2 := F0 m 27 ls [.int (if zdn (zG gv 31) fo kF fF sF i j then (1 : Int32) else 0)]) rfl ?_
          refine lv_if_eq (tgt := 32) hx hb dX4_denied_27 (by decide) (fun c27 => ?_) (fun c27 => ?_)
          · refine lv_iinc (v := (nI (j + 1))) (lv' := [(2, .int (nI (j + 1))), (0, .ref (ad 0)), (1, .int (nI i))]) hx hb dX4_denied_32 hl (k := 2) rfl ((nI_succ _).symm) (by decide) rfl (fun ls hl => ?_)
            refine lv_goto (tgt := 12) hx hb dX4_denied_35 (by decide) ?_
            exact ih (j + 1) ls (by omega) (by omega) (lt_s hno (zct_b c27)) (lv_sub hl [1, 2, 0] rfl)
          · refine lv_iload_n hx hb dX4_denied_30 rfl (lv_at hl 2 rfl) ?_
            exact ret _ _ _ (by rw [zdnd_in hi hn, zfirst_eq (k := j) (by omega) (zct_a c27) hno, if_pos (by omega)]) dX4_denied_31
    exact loop12 (256 + 1) 0 ls (by omega) (by omega) (fun q hq => absurd hq (Nat.not_lt_zero q)) (lv_sub hl [1, 2, 0] rfl)
  · refine W.eq (g2 := F0 m 5 ls [.int (0 : Int32)]) rfl ?_
    refine lv_if_ne (tgt := 10) hx hb dX4_denied_5 (by decide) (fun c5 => absurd c5 (by decide)) (fun c5 => ?_)
    refine lv_iconst (v := (-1 : Int32)) hx hb dX4_denied_8 (by decide) ?_
    exact ret _ _ _ (by rw [zdnd_no hyc]) dX4_denied_9
theorem w_X4_hasClaim__fieldLink_RX4_20_WordsBesideModel_of_I__9fac8e : (.fieldLink RX4 20 "WordsBesideModel" "of" "[I" : Cond) ∈ wsX4_hasClaim := by decide +kernel
theorem w_X4_hasClaim__fieldLink_RX4_23_WordsBesideModel_kind_I__cf4f2c : (.fieldLink RX4 23 "WordsBesideModel" "kind" "[I" : Cond) ∈ wsX4_hasClaim := by decide +kernel
theorem w_X4_hasClaim__fieldLink_RX4_79_WordsBesideModel_claims_I__a0b76b : (.fieldLink RX4 79 "WordsBesideModel" "claims" "I" : Cond) ∈ wsX4_hasClaim := by decide +kernel
theorem in_X4_hasClaim_X4 : ∀ w ∈ wsX40, w ∈ wsX4_hasClaim := fun _ h => List.mem_cons_of_mem _ (List.mem_append_right _ h)
set_option maxHeartbeats 4000000 in
set_option maxRecDepth 100000 in
theorem c_X4_hasClaim (l : Launch) (D : va_G) (cI cZ cW cC : ClassId) (ad : Nat → Nat) (ln st gv oF kF fF sF bF mF hF : Nat → Int32) (kp cm m1 m2 : Int32) (fo bo : Nat → Nat) (n k : Nat) (hn : n ≤ 40) (hk : k ≤ 30) (HC : zHC fo bo oF kF fF bF n k) (en : cm = nI n) (f : Nat) (hf0 : f < 6) (a1 b1 : Int32) : zq_ro l D cI cZ cW cC yX4_hasClaim wsX4_hasClaim ({ frames := 0, cells := 0, slots := 0, locals := 0 } : Room) [.ref (ad 0), .int (nI f), .int a1, .int b1] (mW cI cZ ad ln st gv oF kF fF sF bF mF hF kp cm m1 m2) (fun v => v = some (.int (if 0 < fb_ct (zhas fo f (fun i => decide (a1 = -1 ∨ kF i = a1 ∨ kF i = b1))) n then 1 else 0))) := by
  refine zq_roZ (own := RX4) (by decide) rfl rfl (Nat.le_of_ble_eq_true rfl) ?_
  intro p e s m below meth c Q ls hF hP hK hl ret
  obtain ⟨hx, hb, hml, hown, hts⟩ := hF
  have hl : lv_has ls 5 [(0, .ref (ad 0)), (1, .int (nI f)), (2, .int a1), (3, .int b1)] := hl
  subst en
  refine lv_iconst (v := (0 : Int32)) hx hb dX4_hasClaim_0 (by decide) ?_
  refine lv_istore (lv' := [(4, .int (nI 0)), (0, .ref (ad 0)), (1, .int (nI f)), (2, .int a1), (3, .int b1)]) hx hb dX4_hasClaim_1 hl (by decide) rfl (fun ls hl => ?_)
  have loop3 : ∀ (fu : Nat) (j : Nat) (ls : Array Slot), (n - j) < fu → (j ≤ n) → (∀ q, q < j → (zhas fo f (fun i => decide (a1 = -1 ∨ kF i = a1 ∨ kF i = b1))) q = false) → lv_has ls 5 [(0, .ref (ad 0)), (1, .int (nI f)), (2, .int a1), (3, .int b1), (4, .int (nI j))] → W p l e ({ frames := 0, cells := 0, slots := 0, locals := 0 } : Room) s m ([.ref (ad 0), .int (nI f), .int a1, .int b1] : List Value).toArray below meth c s.heap [] 0 0 Q (F0 m 3 ls []) := by
    intro fu
    induction fu with
    | zero => intro _ _ hmu; exact absurd hmu (Nat.not_lt_zero _)
    | succ fu ih =>
      intro j ls hmu hj hno hl
      refine lv_iload hx hb dX4_hasClaim_3 (lv_at hl 4 rfl) ?_
      refine lv_aload_n hx hb dX4_hasClaim_5 rfl (lv_at hl 0 rfl) ?_
      refine zq_get hx hb hts in_X4_hasClaim_X4 hown hK hP 0 rfl rfl 4 (by decide) (hts _ w_X4_hasClaim__fieldLink_RX4_79_WordsBesideModel_claims_I__a0b76b) rfl dX4_hasClaim_6 ?_
      refine lv_icmp_ge (tgt := 58) hx hb dX4_hasClaim_9 (by decide) (fun c9 => ?_) (fun c9 => ?_)
      · have h9 := zle c9
        refine lv_iconst (v := (0 : Int32)) hx hb dX4_hasClaim_58 (by decide) ?_
        exact ret _ _ _ (Or.inl rfl) (by rw [if_neg (by rw [fb_ct_zero.mpr (fun q hq => hno q (by omega))]; omega)]) dX4_hasClaim_59
      · have h9 := znle c9
        have hfo := (HC j (znle c9)).2.1
        refine lv_aload_n hx hb dX4_hasClaim_12 rfl (lv_at hl 0 rfl) ?_
        refine zq_get hx hb hts in_X4_hasClaim_X4 hown hK hP 0 rfl rfl 5 (by decide) (hts _ w_X4_hasClaim__fieldLink_RX4_20_WordsBesideModel_of_I__9fac8e) rfl dX4_hasClaim_13 ?_
        refine lv_iload hx hb dX4_hasClaim_16 (lv_at hl 4 rfl) ?_
        refine zq_ild hx hb hK hP 4 rfl j rfl (by omega) (by decide) dX4_hasClaim_18 ?_
        refine zq_te (y := (nI (fo j))) (HC j (by omega)).1 ?_
        refine lv_iload_n hx hb dX4_hasClaim_19 rfl (lv_at hl 1 rfl) ?_
        refine lv_icmp_ne (tgt := 52) hx hb dX4_hasClaim_20 (by decide) (fun c20 => ?_) (fun c20 => ?_)
        · have h20 := zne c20
          refine lv_iinc (v := (nI (j + 1))) (lv' := [(4, .int (nI (j + 1))), (0, .ref (ad 0)), (1, .int (nI f)), (2, .int a1), (3, .int b1)]) hx hb dX4_hasClaim_52 hl (k := 4) rfl ((nI_succ _).symm) (by decide) rfl (fun ls hl => ?_)
          refine lv_goto (tgt := 3) hx hb dX4_hasClaim_55 (by decide) ?_
          exact ih (j + 1) ls (by omega) (by omega) (lt_s hno (by simp [zhas, show ¬ fo j = f from h20])) (lv_sub hl [1, 2, 3, 4, 0] rfl)
        · have h20 := zeq c20
          refine lv_iload_n hx hb dX4_hasClaim_23 rfl (lv_at hl 2 rfl) ?_
          refine lv_iconst (v := (-1 : Int32)) hx hb dX4_hasClaim_24 (by decide) ?_
          refine lv_icmp_eq (tgt := 50) hx hb dX4_hasClaim_25 (by decide) (fun c25 => ?_) (fun c25 => ?_)
          · refine lv_iconst (v := (1 : Int32)) hx hb dX4_hasClaim_50 (by decide) ?_
            exact ret _ _ _ (Or.inr rfl) (by rw [if_pos (fb_ct_pos.mpr ⟨j, by omega, by simp [zhas, h20, c25]⟩)]) dX4_hasClaim_51
          · refine lv_aload_n hx hb dX4_hasClaim_28 rfl (lv_at hl 0 rfl) ?_
            refine zq_get hx hb hts in_X4_hasClaim_X4 hown hK hP 0 rfl rfl 6 (by decide) (hts _ w_X4_hasClaim__fieldLink_RX4_23_WordsBesideModel_kind_I__cf4f2c) rfl dX4_hasClaim_29 ?_
            refine lv_iload hx hb dX4_hasClaim_32 (lv_at hl 4 rfl) ?_
            refine zq_ild hx hb hK hP 5 rfl j rfl (by omega) (by decide) dX4_hasClaim_34 ?_
            refine lv_iload_n hx hb dX4_hasClaim_35 rfl (lv_at hl 2 rfl) ?_
            refine lv_icmp_eq (tgt := 50) hx hb dX4_hasClaim_36 (by decide) (fun c36 => ?_) (fun c36 => ?_)
            · refine lv_iconst (v := (1 : Int32)) hx hb dX4_hasClaim_50 (by decide) ?_
              exact ret _ _ _ (Or.inr rfl) (by rw [if_pos (fb_ct_pos.mpr ⟨j, by omega, by simp [zhas, h20, c36]⟩)]) dX4_hasClaim_51
            · refine lv_aload_n hx hb dX4_hasClaim_39 rfl (lv_at hl 0 rfl) ?_
              refine zq_get hx hb hts in_X4_hasClaim_X4 hown hK hP 0 rfl rfl 6 (by decide) (hts _ w_X4_hasClaim__fieldLink_RX4_23_WordsBesideModel_kind_I__cf4f2c) rfl dX4_hasClaim_40 ?_
              refine lv_iload hx hb dX4_hasClaim_43 (lv_at hl 4 rfl) ?_
              refine zq_ild hx hb hK hP 5 rfl j rfl (by omega) (by decide) dX4_hasClaim_45 ?_
              refine lv_iload_n hx hb dX4_hasClaim_46 rfl (lv_at hl 3 rfl) ?_
              refine lv_icmp_ne (tgt := 52) hx hb dX4_hasClaim_47 (by decide) (fun c47 => ?_) (fun c47 => ?_)
              · refine lv_iinc (v := (nI (j + 1))) (lv' := [(4, .int (nI (j + 1))), (0, .ref (ad 0)), (1, .int (nI f)), (2, .int a1), (3, .int b1)]) hx hb dX4_hasClaim_52 hl (k := 4) rfl ((nI_succ _).symm) (by decide) rfl (fun ls hl => ?_)
                refine lv_goto (tgt := 3) hx hb dX4_hasClaim_55 (by decide) ?_
                exact ih (j + 1) ls (by omega) (by omega) (lt_s hno (by simp [zhas, c25, c36, c47])) (lv_sub hl [1, 2, 3, 4, 0] rfl)
              · refine lv_iconst (v := (1 : Int32)) hx hb dX4_hasClaim_50 (by decide) ?_
                exact ret _ _ _ (Or.inr rfl) (by rw [if_pos (fb_ct_pos.mpr ⟨j, by omega, by simp [zhas, h20, c47]⟩)]) dX4_hasClaim_51
  exact loop3 (n + 1) 0 ls (by omega) (by omega) (fun q hq => absurd hq (Nat.not_lt_zero q)) (lv_sub hl [1, 2, 3, 4, 0] rfl)
theorem w_X4_refused__constant_RX4_64_2147483648__c0c951 : (.constant RX4 64 (-2147483648) : Cond) ∈ wsX4_refused := by decide +kernel
set_option maxHeartbeats 4000000 in
set_option maxRecDepth 100000 in
theorem c_X4_refused (l : Launch) (D : va_G) (cI cZ cW cC : ClassId) (ad : Nat → Nat) (ln st gv oF kF fF sF bF mF hF : Nat → Int32) (kp cm m1 m2 : Int32) (f : Nat) (hf : f < 6) : zq_ro l D cI cZ cW cC yX4_refused wsX4_refused ({ frames := 2, cells := 0, slots := 0, locals := 45 } : Room) [.ref (ad 0), .int (nI f)] (mW cI cZ ad ln st gv oF kF fF sF bF mF hF kp cm m1 m2) (fun v => v = some (.int (nI (fb_ct (zref (zG gv 31) f) 256)))) := by
  refine zq_roI (own := RX4) (by decide) rfl rfl (Nat.le_of_ble_eq_true rfl) ?_
  intro p e s m below meth c Q ls hF hP hK hl ret
  obtain ⟨hx, hb, hml, hown, hts⟩ := hF
  have hl : lv_has ls 4 [(0, .ref (ad 0)), (1, .int (nI f))] := hl
  refine lv_iconst (v := (0 : Int32)) hx hb dX4_refused_0 (by decide) ?_
  refine lv_istore_n (lv' := [(2, .int (nI 0)), (0, .ref (ad 0)), (1, .int (nI f))]) hx hb dX4_refused_1 rfl hl (by decide) rfl (fun ls hl => ?_)
  refine lv_iconst (v := (0 : Int32)) hx hb dX4_refused_2 (by decide) ?_
  refine lv_istore_n (lv' := [(3, .int (nI 0)), (2, .int (nI 0)), (0, .ref (ad 0)), (1, .int (nI f))]) hx hb dX4_refused_3 rfl hl (by decide) rfl (fun ls hl => ?_)
  have loop4 : ∀ (fu : Nat) (j a : Nat) (ls : Array Slot), (256 - j) < fu → (j ≤ 256) → (a = fb_ct (zref (zG gv 31) f) j) → lv_has ls 4 [(0, .ref (ad 0)), (1, .int (nI f)), (2, .int (nI a)), (3, .int (nI j))] → W p l e ({ frames := 2, cells := 0, slots := 0, locals := 45 } : Room) s m ([.ref (ad 0), .int (nI f)] : List Value).toArray below meth c s.heap [] 0 0 Q (F0 m 4 ls []) := by
    intro fu
    induction fu with
    | zero => intro _ _ _ hmu; exact absurd hmu (Nat.not_lt_zero _)
    | succ fu ih =>
      intro j a ls hmu hj ea hl
      refine lv_iload_n hx hb dX4_refused_4 rfl (lv_at hl 3 rfl) ?_
      refine lv_sipush (v := (nI 256)) hx hb dX4_refused_5 (by decide) ?_
      refine lv_icmp_ge (tgt := 38) hx hb dX4_refused_8 (by decide) (fun c8 => ?_) (fun c8 => ?_)
      · have h8 := zle c8
        refine lv_iload_n hx hb dX4_refused_38 rfl (lv_at hl 2 rfl) ?_
        exact ret _ _ _ (by rw [ea, show j = 256 by omega]) dX4_refused_39
      · have h8 := znle c8
        refine lv_iload_n hx hb dX4_refused_11 rfl (lv_at hl 2 rfl) ?_
        refine lv_aload_n hx hb dX4_refused_12 rfl (lv_at hl 0 rfl) ?_
        refine lv_bipush (v := (nI 31)) hx hb dX4_refused_13 (by decide) ?_
        refine lv_iload_n hx hb dX4_refused_15 rfl (lv_at hl 1 rfl) ?_
        refine lv_iload_n hx hb dX4_refused_16 rfl (lv_at hl 3 rfl) ?_
        refine zq_cV (rest := [.int (nI a)]) ⟨hx, hb, hml, hown, hts⟩ (c_X4_give l D cI cZ cW cC ad ln st gv oF kF fF sF bF mF hF kp cm m1 m2 31 f j (by omega) (by omega) (by omega)) (cwV 3 hts gX4_refused_X4_give rfl rfl rfl (by decide +kernel) ⟨Nat.le_of_ble_eq_true rfl, Nat.le_of_ble_eq_true rfl⟩) hK hP 4 0 rfl rfl rfl hl.1 rfl (Nat.le_of_ble_eq_true rfl) dX4_refused_17 ⟨Nat.le_of_ble_eq_true rfl, Nat.le_of_ble_eq_true rfl⟩ (fun v hv => ?_)
        obtain rfl := hv
        refine W.eq (g2 := F0 m 20 ls [.int (zG gv 31 (256 * f + j)), .int (nI a)]) rfl ?_
        refine lv_ldc (v := (-2147483648 : Int32)) hx hb hown (hts _ w_X4_refused__constant_RX4_64_2147483648__c0c951) dX4_refused_20 ?_
        refine lv_icmp_ne (tgt := 29) hx hb dX4_refused_22 (by decide) (fun c22 => ?_) (fun c22 => ?_)
        · refine lv_iconst (v := (0 : Int32)) hx hb dX4_refused_29 (by decide) ?_
          refine lv_iadd hx hb dX4_refused_30 ?_
          refine zq_te (y := (nI a)) (Int32.add_zero _) ?_
          refine lv_istore_n (lv' := [(2, .int (nI a)), (0, .ref (ad 0)), (1, .int (nI f)), (3, .int (nI j))]) hx hb dX4_refused_31 rfl hl (by decide) rfl (fun ls hl => ?_)
          refine lv_iinc (v := (nI (j + 1))) (lv' := [(3, .int (nI (j + 1))), (2, .int (nI a)), (0, .ref (ad 0)), (1, .int (nI f))]) hx hb dX4_refused_32 hl (k := 3) rfl ((nI_succ _).symm) (by decide) rfl (fun ls hl => ?_)
          refine lv_goto (tgt := 4) hx hb dX4_refused_35 (by decide) ?_
          exact ih (j + 1) a ls (by omega) (by omega) (by rw [fb_ct_succ, ← ea, if_neg (by simp [zref, c22]), Nat.add_zero]) (lv_sub hl [2, 3, 1, 0] rfl)
        · refine lv_iconst (v := (1 : Int32)) hx hb dX4_refused_25 (by decide) ?_
          refine lv_goto (tgt := 30) hx hb dX4_refused_26 (by decide) ?_
          refine lv_iadd hx hb dX4_refused_30 ?_
          refine zq_te (y := (nI (a + 1))) (nI_1 _) ?_
          refine lv_istore_n (lv' := [(2, .int (nI (a + 1))), (0, .ref (ad 0)), (1, .int (nI f)), (3, .int (nI j))]) hx hb dX4_refused_31 rfl hl (by decide) rfl (fun ls hl => ?_)
          refine lv_iinc (v := (nI (j + 1))) (lv' := [(3, .int (nI (j + 1))), (2, .int (nI (a + 1))), (0, .ref (ad 0)), (1, .int (nI f))]) hx hb dX4_refused_32 hl (k := 3) rfl ((nI_succ _).symm) (by decide) rfl (fun ls hl => ?_)
          refine lv_goto (tgt := 4) hx hb dX4_refused_35 (by decide) ?_
          exact ih (j + 1) (a + 1) ls (by omega) (by omega) (by rw [fb_ct_succ, ← ea, if_pos (by simp [zref, c22])]) (lv_sub hl [2, 3, 1, 0] rfl)
  exact loop4 (256 + 1) 0 0 ls (by omega) (by omega) rfl (lv_sub hl [2, 3, 1, 0] rfl)
end

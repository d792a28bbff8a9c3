/-! the reference: goes -/
theorem zq_tl {p : Program} {l : Launch} {e : Env} {R : Room} {s : State} {m : MethodId} {args : Array Value} {below : List Frame} {meth : Method} {c : Code} {H : Heap} {locs : List Loc} {cells slots : Nat} {Q : State → Prop} {pc : Nat} {ls : Array Slot} {rest : List Value} {x y : Int64} (h : x = y) (k : W p l e R s m args below meth c H locs cells slots Q (F0 m pc ls (.long y :: rest))) : W p l e R s m args below meth c H locs cells slots Q (F0 m pc ls (.long x :: rest)) := h ▸ k
theorem zl_add {a b : Int32} (h1 : -2147483648 ≤ a.toInt + b.toInt) (h2 : a.toInt + b.toInt < 2147483648) : a.toInt64 + b.toInt64 = (a + b).toInt64 := by
  apply Int64.toInt_inj.mp
  rw [fb_addL (by rw [Int32.toInt_toInt64, Int32.toInt_toInt64]; omega) (by rw [Int32.toInt_toInt64, Int32.toInt_toInt64]; omega), Int32.toInt_toInt64, Int32.toInt_toInt64, Int32.toInt_toInt64, fb_addI h1 h2]
theorem zl_mul {a b : Int32} (h1 : -2147483648 ≤ a.toInt * b.toInt) (h2 : a.toInt * b.toInt < 2147483648) : a.toInt64 * b.toInt64 = (a * b).toInt64 := by
  apply Int64.toInt_inj.mp
  rw [fb_mulL (by rw [Int32.toInt_toInt64, Int32.toInt_toInt64]; omega) (by rw [Int32.toInt_toInt64, Int32.toInt_toInt64]; omega), Int32.toInt_toInt64, Int32.toInt_toInt64, Int32.toInt_toInt64, fb_mulI h1 h2]
theorem zlc_gt {T : Int32} : 0 < lg_cmp T.toInt64 1000000 ↔ 1000000 < T.toInt := by
  rw [lg_cmp_gt, Int64.lt_iff_toInt_lt, Int32.toInt_toInt64]
  exact Iff.rfl
theorem zlc_ge {T : Int32} : 0 ≤ lg_cmp T.toInt64 (-1000000) ↔ -1000000 ≤ T.toInt := by
  rw [lg_cmp_ge, Int64.le_iff_toInt_le, Int32.toInt_toInt64]
  exact Iff.rfl
theorem zlim {T : Int32} : ((-1000000 : Int32) ≤ T ∧ T ≤ 1000000) ↔ (-1000000 ≤ T.toInt ∧ T.toInt ≤ 1000000) := by
  rw [Int32.le_iff_toInt_le, Int32.le_iff_toInt_le]
  exact Iff.rfl
theorem zl_gt {a b : Int32} : lg_cmp a.toInt64 b.toInt64 ≤ 0 ↔ ¬ b < a := by
  rw [lg_cmp_le, Int64.le_iff_toInt_le, Int32.toInt_toInt64, Int32.toInt_toInt64, Int32.lt_iff_toInt_lt]
  omega
theorem zl_ge {a b : Int32} : 0 ≤ lg_cmp a.toInt64 b.toInt64 ↔ ¬ a < b := by
  rw [lg_cmp_ge, Int64.le_iff_toInt_le, Int32.toInt_toInt64, Int32.toInt_toInt64, Int32.lt_iff_toInt_lt]
  omega
theorem zwk_skip (G : Nat → Int32) (st : Nat → Int32) (f r : Nat) (t k : Nat) (u : Int32) : zwk G st f r t k true u = zwk G st f r (t - 1) (k + 1) false u := by
  cases t with
  | zero => simp [zwk]
  | succ t => simp [zwk]
theorem ztm_bd {a b : Int} (hb : 0 < b) : (a.tmod b).natAbs < b.natAbs ∧ (0 ≤ a → 0 ≤ a.tmod b) ∧ (a ≤ 0 → a.tmod b ≤ 0) ∧ b * a.tdiv b + a.tmod b = a := by
  refine ⟨?_, fun h => Int.tmod_nonneg b h, fun h => ?_, Int.mul_tdiv_add_tmod a b⟩
  · rw [Int.natAbs_tmod]
    exact Nat.mod_lt _ (by omega)
  · have h1 : 0 ≤ (-a).tmod b := Int.tmod_nonneg b (by omega)
    rw [Int.neg_tmod] at h1
    omega
theorem zem {a b : Int} (hb : 0 < b) : a % b = if a.tmod b < 0 then a.tmod b + b else a.tmod b := by
  obtain ⟨h1, h2, h3, h4⟩ := ztm_bd (a := a) hb
  have e : a % b = a.tmod b % b := by
    have h5 : (b * a.tdiv b + a.tmod b) % b = a.tmod b % b := Int.mul_add_emod_self_left b (a.tdiv b) (a.tmod b)
    rw [h4] at h5
    exact h5
  rw [e]
  split
  · have h6 : (a.tmod b + b) % b = a.tmod b % b := Int.add_emod_right _ _
    rw [← h6, Int.emod_eq_of_lt (by omega) (by omega)]
  · exact Int.emod_eq_of_lt (by omega) (by omega)
theorem zdivL {x y : Int64} (h1 : -4000000 ≤ x.toInt) (h2 : x.toInt ≤ 4000000) : (x / y).toInt = x.toInt.tdiv y.toInt := by
  rw [Int64.toInt_div]
  have := Int.natAbs_tdiv_le_natAbs x.toInt y.toInt
  apply fb_bmodL <;> omega
theorem zremL {x y : Int64} (h1 : -4000000 ≤ x.toInt) (h2 : x.toInt ≤ 4000000) (hy : 0 < y.toInt) (hy2 : y.toInt ≤ 1000000) : (x - x / y * y).toInt = x.toInt.tmod y.toInt := by
  obtain ⟨b1, b2, b3, b4⟩ := ztm_bd (a := x.toInt) hy
  have e1 := zdivL (y := y) h1 h2
  have e2 : (x / y * y).toInt = x.toInt.tdiv y.toInt * y.toInt := by
    rw [fb_mulL (by rw [e1, Int.mul_comm]; omega) (by rw [e1, Int.mul_comm]; omega), e1]
  rw [fb_subL (by rw [e2, Int.mul_comm]; omega) (by rw [e2, Int.mul_comm]; omega), e2, Int.mul_comm]
  omega
theorem zdivI {x y : Int32} (h1 : -4000000 ≤ x.toInt) (h2 : x.toInt ≤ 4000000) : (x / y).toInt = x.toInt.tdiv y.toInt := by
  rw [Int32.toInt_div]
  have := Int.natAbs_tdiv_le_natAbs x.toInt y.toInt
  apply fb_bmod <;> omega
theorem zremI {x y : Int32} (h1 : -4000000 ≤ x.toInt) (h2 : x.toInt ≤ 4000000) (hy : 0 < y.toInt) (hy2 : y.toInt ≤ 1000000) : (x - x / y * y).toInt = x.toInt.tmod y.toInt := by
  obtain ⟨b1, b2, b3, b4⟩ := ztm_bd (a := x.toInt) hy
  have e1 := zdivI (y := y) h1 h2
  have e2 : (x / y * y).toInt = x.toInt.tdiv y.toInt * y.toInt := by
    rw [fb_mulI (by rw [e1, Int.mul_comm]; omega) (by rw [e1, Int.mul_comm]; omega), e1]
  rw [fb_subI (by rw [e2, Int.mul_comm]; omega) (by rw [e2, Int.mul_comm]; omega), e2, Int.mul_comm]
  omega
theorem zxs {u y : Int32} (hy : 0 ≤ y.toInt) : u ^^^ y < 0 ↔ u.toInt < 0 := by
  have key : ∀ z : Int32, z < 0 ↔ z.toBitVec.msb = true := fun z => by
    rw [Int32.lt_iff_toInt_lt, BitVec.msb_eq_toInt, decide_eq_true_eq]
    rfl
  have k2 : ∀ z : Int32, z < 0 ↔ z.toInt < 0 := fun z => by
    rw [Int32.lt_iff_toInt_lt]
    rfl
  have h0 : y.toBitVec.msb = false := by
    rcases h : y.toBitVec.msb with _ | _
    · rfl
    · have := (k2 y).mp ((key y).mpr h)
      omega
  rw [← k2 u, key, key, Int32.toBitVec_xor, BitVec.msb_xor, h0, Bool.xor_false]
theorem zfmI {u y : Int32} (h1 : -1000000 ≤ u.toInt) (h2 : u.toInt ≤ 1000000) (hy : 0 < y.toInt) (hy2 : y.toInt ≤ 1000000) : (zfm u y).toInt = u.toInt % y.toInt := by
  obtain ⟨b1, b2, b3, b4⟩ := ztm_bd (a := u.toInt) hy
  have e := zremI (x := u) (y := y) (by omega) (by omega) hy hy2
  unfold zfm
  rw [zem hy]
  have z0 : (u - u / y * y = 0) ↔ u.toInt.tmod y.toInt = 0 := by
    rw [← Int32.toInt_inj, e]
    exact Iff.rfl
  by_cases h : u ^^^ y < 0 ∧ ¬ u - u / y * y = 0
  · rw [if_pos h]
    have hn := (zxs (by omega)).mp h.1
    have hm : ¬ u.toInt.tmod y.toInt = 0 := fun q => h.2 (z0.mpr q)
    rw [fb_addI (by rw [e]; omega) (by rw [e]; omega), e, if_pos (by omega)]
  · rw [if_neg h, e]
    by_cases hn : u.toInt < 0
    · have : u - u / y * y = 0 := by
        by_cases q : u - u / y * y = 0
        · exact q
        · exact absurd ⟨(zxs (by omega)).mpr hn, q⟩ h
      have := z0.mp this
      rw [if_neg (by omega)]
    · rw [if_neg (by omega)]
theorem zfm64 {u y : Int32} (h1 : -1000000 ≤ u.toInt) (h2 : u.toInt ≤ 1000000) (hy : 0 < y.toInt) (hy2 : y.toInt ≤ 1000000) :
    ((u.toInt64 - u.toInt64 / y.toInt64 * y.toInt64) + y.toInt64) - ((u.toInt64 - u.toInt64 / y.toInt64 * y.toInt64) + y.toInt64) / y.toInt64 * y.toInt64 = (zfm u y).toInt64 := by
  apply Int64.toInt_inj.mp
  have hy64 : y.toInt64.toInt = y.toInt := Int32.toInt_toInt64 y
  have hu64 : u.toInt64.toInt = u.toInt := Int32.toInt_toInt64 u
  obtain ⟨b1, b2, b3, b4⟩ := ztm_bd (a := u.toInt) hy
  have e := zremL (x := u.toInt64) (y := y.toInt64) (by omega) (by omega) (by omega) (by omega)
  rw [hy64, hu64] at e
  have e2 : ((u.toInt64 - u.toInt64 / y.toInt64 * y.toInt64) + y.toInt64).toInt = u.toInt.tmod y.toInt + y.toInt := by
    rw [fb_addL (by rw [e, hy64]; omega) (by rw [e, hy64]; omega), e, hy64]
  rw [zremL (by rw [e2]; omega) (by rw [e2]; omega) (by omega) (by omega), e2, hy64, Int32.toInt_toInt64, zfmI h1 h2 hy hy2]
  have h5 : (u.toInt.tmod y.toInt + y.toInt).tmod y.toInt = (u.toInt.tmod y.toInt + y.toInt) % y.toInt := Int.tmod_eq_emod_of_nonneg (by omega)
  rw [h5, Int.add_emod_right]
  have h6 : (y.toInt * u.toInt.tdiv y.toInt + u.toInt.tmod y.toInt) % y.toInt = u.toInt.tmod y.toInt % y.toInt := Int.mul_add_emod_self_left _ _ _
  rw [b4] at h6
  exact h6.symm


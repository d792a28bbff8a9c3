/-! the reference: goes -/
theorem zq_tl {p : Program} {l : Launch} {e : Env} {R : Room} {s : State} {m : MethodId} {args : Array Value} {below : List Frame} {meth : Method} {c : Code} {H : Heap} {locs : List Loc} {cells slots : Nat} {Q : State → Prop} {pc : Nat} {ls : Array Slot} {rest : List Value} {x y : Int64} (h : x = y) (k : W p l e R s m args below meth c H locs cells slots Q (F0 m pc ls (.long y :: rest))) : W p l e R s m args below meth c H locs cells slots Q (F0 m pc ls (.long x :: rest)) := h ▸ k
theorem zl_add {a b : Int32} (h1 : -2147483648 ≤ a.toInt + b.toInt) (h2 : a.toInt + b.toInt < 2147483648) : a.toInt64 + b.toInt64 = (a + b).toInt64 := by
  apply Int64.toInt_inj.mp
  rw [fb_addL (by rw [Int32.toInt_toInt64, Int32.toInt_toInt64]; omega) (by rw [Int32.toInt_toInt64, Int32.toInt_toInt64]; omega), Int32.toInt_toInt64, Int32.toInt_toInt64, Int32.toInt_toInt64, fb_addI h1 h2]
theorem zl_mul {a b : Int32} (h1 : -2147483648 ≤ a.toInt * b.toInt) (h2 : a.toInt * b.toInt < 2147483648) : a.toInt64 * b.toInt64 = (a * b).toInt64 := by
  apply Int64.toInt_inj.mp
  rw [fb_mulL (by rw [Int32.toInt_toInt64, Int32.toInt_toInt64]; omega) (by rw [Int32.toInt_toInt64, Int32.toInt_toInt64]; omega), Int32.toInt_toInt64, Int32.toInt_toInt64, Int32.toInt_toInt64, fb_mulI h1 h2]
theorem zlc_gt {T : Int32} : 0 < lg_cmp T.toInt64 1000000 ↔ 1000000 < T.toInt := by
  rw [lg_cmp_gt, Int64.lt_iff_toInt_lt, Int32.toInt_toInt64]
  exact Iff.rfl
theorem zlc_ge {T : Int32} : 0 ≤ lg_cmp T.toInt64 (-1000000) ↔ -1000000 ≤ T.toInt := by
  rw [lg_cmp_ge, Int64.le_iff_toInt_le, Int32.toInt_toInt64]
  exact Iff.rfl
theorem zlim {T : Int32} : ((-1000000 : Int32) ≤ T ∧ T ≤ 1000000) ↔ (-1000000 ≤ T.toInt ∧ T.toInt ≤ 1000000) := by
  rw [Int32.le_iff_toInt_le, Int32.le_iff_toInt_le]
  exact Iff.rfl
theorem zl_gt {a b : Int32} : lg_cmp a.toInt64 b.toInt64 ≤ 0 ↔ ¬ b < a := by
  rw [lg_cmp_le, Int64.le_iff_toInt_le, Int32.toInt_toInt64, Int32.toInt_toInt64, Int32.lt_iff_toInt_lt]
  omega
theorem zl_ge {a b : Int32} : 0 ≤ lg_cmp a.toInt64 b.toInt64 ↔ ¬ a < b := by
  rw [lg_cmp_ge, Int64.le_iff_toInt_le, Int32.toInt_toInt64, Int32.toInt_toInt64, Int32.lt_iff_toInt_lt]
  omega
theorem zwk_skip (G : Nat → Int32) (st : Nat → Int32) (f r : Nat) (t k : Nat) (u : Int32) : zwk G st f r t k true u = zwk G st f r (t - 1) (k + 1) false u := by
  cases t with
  | zero => simp [zwk]
  | succ t => simp [zwk]
theorem ztm_bd {a b : Int} (hb : 0 < b) : (a.tmod b).natAbs < b.natAbs ∧ (0 ≤ a → 0 ≤ a.tmod b) ∧ (a ≤ 0 → a.tmod b ≤ 0) ∧ b * a.tdiv b + a.tmod b = a := by
  refine ⟨?_, fun h => Int.tmod_nonneg b h, fun h => ?_, Int.mul_tdiv_add_tmod a b⟩
  · rw [Int.natAbs_tmod]
    exact Nat.mod_lt _ (by omega)
  · have h1 : 0 ≤ (-a).tmod b := Int.tmod_nonneg b (by omega)
    rw [Int.neg_tmod] at h1
    omega
theorem zem {a b : Int} (hb : 0 < b) : a % b = if a.tmod b < 0 then a.tmod b + b else a.tmod b := by
  obtain ⟨h1, h2, h3, h4⟩ := ztm_bd (a := a) hb
  have e : a % b = a.tmod b % b := by
    have h5 : (b * a.tdiv b + a.tmod b) % b = a.tmod b % b := Int.mul_add_emod_self_left b (a.tdiv b) (a.tmod b)
    rw [h4] at h5
    exact h5
  rw [e]
  split
  · have h6 : (a.tmod b + b) % b = a.tmod b % b := Int.add_emod_right _ _
    rw [← h6, Int.emod_eq_of_lt (by omega) (by omega)]
  · exact Int.emod_eq_of_lt (by omega) (by omega)
theorem zdivL {x y : Int64} (h1 : -4000000 ≤ x.toInt) (h2 : x.toInt ≤ 4000000) : (x / y).toInt = x.toInt.tdiv y.toInt := by
  rw [Int64.toInt_div]
  have := Int.natAbs_tdiv_le_natAbs x.toInt y.toInt
  apply fb_bmodL <;> omega
theorem zremL {x y : Int64} (h1 : -4000000 ≤ x.toInt) (h2 : x.toInt ≤ 4000000) (hy : 0 < y.toInt) (hy2 : y.toInt ≤ 1000000) : (x - x / y * y).toInt = x.toInt.tmod y.toInt := by
  obtain ⟨b1, b2, b3, b4⟩ := ztm_bd (a := x.toInt) hy
  have e1 := zdivL (y := y) h1 h2
  have e2 : (x / y * y).toInt = x.toInt.tdiv y.toInt * y.toInt := by
    rw [fb_mulL (by rw [e1, Int.mul_comm]; omega) (by rw [e1, Int.mul_comm]; omega), e1]
  rw [fb_subL (by rw [e2, Int.mul_comm]; omega) (by rw [e2, Int.mul_comm]; omega), e2, Int.mul_comm]
  omega
theorem zdivI {x y : Int32} (h1 : -4000000 ≤ x.toInt) (h2 : x.toInt ≤ 4000000) : (x / y).toInt = x.toInt.tdiv y.toInt := by
  rw [Int32.toInt_div]
  have := Int.natAbs_tdiv_le_natAbs x.toInt y.toInt
  apply fb_bmod <;> omega
theorem zremI {x y : Int32} (h1 : -4000000 ≤ x.toInt) (h2 : x.toInt ≤ 4000000) (hy : 0 < y.toInt) (hy2 : y.toInt ≤ 1000000) : (x - x / y * y).toInt = x.toInt.tmod y.toInt := by
  obtain ⟨b1, b2, b3, b4⟩ := ztm_bd (a := x.toInt) hy
  have e1 := zdivI (y := y) h1 h2
  have e2 : (x / y * y).toInt = x.toInt.tdiv y.toInt * y.toInt := by
    rw [fb_mulI (by rw [e1, Int.mul_comm]; omega) (by rw [e1, Int.mul_comm]; omega), e1]
  rw [fb_subI (by rw [e2, Int.mul_comm]; omega) (by rw [e2, Int.mul_comm]; omega), e2, Int.mul_comm]
  omega
theorem zxs {u y : Int32} (hy : 0 ≤ y.toInt) : u ^^^ y < 0 ↔ u.toInt < 0 := by
  have key : ∀ z : Int32, z < 0 ↔ z.toBitVec.msb = true := fun z => by
    rw [Int32.lt_iff_toInt_lt, BitVec.msb_eq_toInt, decide_eq_true_eq]
    rfl
  have k2 : ∀ z : Int32, z < 0 ↔ z.toInt < 0 := fun z => by
    rw [Int32.lt_iff_toInt_lt]
    rfl
  have h0 : y.toBitVec.msb = false := by
    rcases h : y.toBitVec.msb with _ | _
    · rfl
    · have := (k2 y).mp ((key y).mpr h)
      omega
  rw [← k2 u, key, key, Int32.toBitVec_xor, BitVec.msb_xor, h0, Bool.xor_false]
theorem zfmI {u y : Int32} (h1 : -1000000 ≤ u.toInt) (h2 : u.toInt ≤ 1000000) (hy : 0 < y.toInt) (hy2 : y.toInt ≤ 1000000) : (zfm u y).toInt = u.toInt % y.toInt := by
  obtain ⟨b1, b2, b3, b4⟩ := ztm_bd (a := u.toInt) hy
  have e := zremI (x := u) (y := y) (by omega) (by omega) hy hy2
  unfold zfm
  rw [zem hy]
  have z0 : (u - u / y * y = 0) ↔ u.toInt.tmod y.toInt = 0 := by
    rw [← Int32.toInt_inj, e]
    exact Iff.rfl
  by_cases h : u ^^^ y < 0 ∧ ¬ u - u / y * y = 0
  · rw [if_pos h]
    have hn := (zxs (by omega)).mp h.1
    have hm : ¬ u.toInt.tmod y.toInt = 0 := fun q => h.2 (z0.mpr q)
    rw [fb_addI (by rw [e]; omega) (by rw [e]; omega), e, if_pos (by omega)]
  · rw [if_neg h, e]
    by_cases hn : u.toInt < 0
    · have : u - u / y * y = 0 := by
        by_cases q : u - u / y * y = 0
        · exact q
        · exact absurd ⟨(zxs (by omega)).mpr hn, q⟩ h
      have := z0.mp this
      rw [if_neg (by omega)]
    · rw [if_neg (by omega)]
theorem zfm64 {u y : Int32} (h1 : -1000000 ≤ u.toInt) (h2 : u.toInt ≤ 1000000) (hy : 0 < y.toInt) (hy2 : y.toInt ≤ 1000000) :
    ((u.toInt64 - u.toInt64 / y.toInt64 * y.toInt64) + y.toInt64) - ((u.toInt64 - u.toInt64 / y.toInt64 * y.toInt64) + y.toInt64) / y.toInt64 * y.toInt64 = (zfm u y).toInt64 := by
  apply Int64.toInt_inj.mp
  have hy64 : y.toInt64.toInt = y.toInt := Int32.toInt_toInt64 y
  have hu64 : u.toInt64.toInt = u.toInt := Int32.toInt_toInt64 u
  obtain ⟨b1, b2, b3, b4⟩ := ztm_bd (a := u.toInt) hy
  have e := zremL (x := u.toInt64) (y := y.toInt64) (by omega) (by omega) (by omega) (by omega)
  rw [hy64, hu64] at e
  have e2 : ((u.toInt64 - u.toInt64 / y.toInt64 * y.toInt64) + y.toInt64).toInt = u.toInt.tmod y.toInt + y.toInt := by
    rw [fb_addL (by rw [e, hy64]; omega) (by rw [e, hy64]; omega), e, hy64]
  rw [zremL (by rw [e2]; omega) (by rw [e2]; omega) (by omega) (by omega), e2, hy64, Int32.toInt_toInt64, zfmI h1 h2 hy hy2]
  have h5 : (u.toInt.tmod y.toInt + y.toInt).tmod y.toInt = (u.toInt.tmod y.toInt + y.toInt) % y.toInt := Int.tmod_eq_emod_of_nonneg (by omega)
  rw [h5, Int.add_emod_right]
  have h6 : (y.toInt * u.toInt.tdiv y.toInt + u.toInt.tmod y.toInt) % y.toInt = u.toInt.tmod y.toInt % y.toInt := Int.mul_add_emod_self_left _ _ _
  rw [b4] at h6
  exact h6.symm
def zvs (st : Nat → Int32) (f n : Nat) : Prop := ∀ k, k < n → ∃ xn, xn < 11000 ∧ st (12 * f + k) = nI xn ∧ (xn / 1000 = 9 → xn % 1000 < f) ∧ (xn / 1000 = 10 → 1 ≤ xn % 1000)
theorem zmul_bd {b c m n : Int} (h1 : -m ≤ b) (h2 : b ≤ m) (h3 : 0 ≤ c) (h4 : c ≤ n) (hm : 0 ≤ m) : -(m * n) ≤ b * c ∧ b * c ≤ m * n := by
  have a1 : b * c ≤ m * c := Int.mul_le_mul_of_nonneg_right h2 h3
  have a2 : m * c ≤ m * n := Int.mul_le_mul_of_nonneg_left h4 hm
  have a3 : -m * c ≤ b * c := Int.mul_le_mul_of_nonneg_right h1 h3
  rw [Int.neg_mul] at a3
  omega
theorem zmul_bs {b c m n : Int} (h1 : -m ≤ b) (h2 : b ≤ m) (h3 : -n ≤ c) (h4 : c ≤ n) (hm : 0 ≤ m) : -(m * n) ≤ b * c ∧ b * c ≤ m * n := by
  by_cases h : 0 ≤ c
  · exact zmul_bd h1 h2 h h4 hm
  · have := zmul_bd h1 h2 (c := -c) (by omega) (by omega : -c ≤ n) hm
    rw [Int.mul_neg] at this
    omega
theorem zMb {B : Int32} {q : Nat} (h1 : -500 ≤ B.toInt) (h2 : B.toInt ≤ 500) (hq : q ≤ 15) : -7500 ≤ (B * nI q).toInt ∧ (B * nI q).toInt ≤ 7500 := by
  have hq2 : (nI q).toInt = (q : Int) := nI_toInt (by omega)
  have := zmul_bd (b := B.toInt) (c := (nI q).toInt) (m := 500) (n := 15) h1 h2 (by omega) (by omega) (by decide)
  rw [fb_mulI (by omega) (by omega)]
  omega
theorem zMu {u B : Int32} (h1 : -500 ≤ B.toInt) (h2 : B.toInt ≤ 500) (h3 : -1000000 ≤ u.toInt) (h4 : u.toInt ≤ 1000000) : -500000000 ≤ u.toInt * B.toInt ∧ u.toInt * B.toInt ≤ 500000000 := by
  have := zmul_bs (b := u.toInt) (c := B.toInt) (m := 1000000) (n := 500) h3 h4 h1 h2 (by decide)
  omega
theorem zne64 {y : Int32} (hy : 0 < y.toInt) : ¬ y.toInt64 = 0 := fun q => by
  have h := Int32.toInt_toInt64 y
  rw [q] at h
  rw [← h] at hy
  exact absurd hy (by decide)

theorem w_X4_goes__constant_RX4_64_2147483648__c0c951 : (.constant RX4 64 (-2147483648) : Cond) ∈ wsX4_goes := by decide +kernel
theorem w_X4_goes__constantLong_RX4_65_1000000__5a6e97 : (.constantLong RX4 65 (1000000) : Cond) ∈ wsX4_goes := by decide +kernel
theorem w_X4_goes__constantLong_RX4_67_1000000__864ecf : (.constantLong RX4 67 (-1000000) : Cond) ∈ wsX4_goes := by decide +kernel
theorem w_X4_goes__fieldLink_RX4_13_WordsBesideModel_steps_I__04b4b3 : (.fieldLink RX4 13 "WordsBesideModel" "steps" "[I" : Cond) ∈ wsX4_goes := by decide +kernel
theorem w_X4_goes__fieldLink_RX4_17_WordsBesideModel_gives_I__d93a8a : (.fieldLink RX4 17 "WordsBesideModel" "gives" "[I" : Cond) ∈ wsX4_goes := by decide +kernel
theorem w_X4_goes__fieldLink_RX4_9_WordsBesideModel_longs_I__8385b9 : (.fieldLink RX4 9 "WordsBesideModel" "longs" "[I" : Cond) ∈ wsX4_goes := by decide +kernel
theorem in_X4_goes_X4 : ∀ w ∈ wsX40, w ∈ wsX4_goes := fun _ h => List.mem_cons_of_mem _ (List.mem_append_right _ h)
set_option maxHeartbeats 4000000 in
set_option maxRecDepth 100000 in
theorem c_X4_goes (l : Launch) (D : va_G) (cI cZ cW cC : ClassId) (ad : Nat → Nat) (ln st gv oF kF fF sF bF mF hF : Nat → Int32) (kp cm m1 m2 : Int32) (L : Nat → Nat) (HL : zHL ln L) (f r : Nat) (hf : f < 6) (hr : r < 256) (HV : zvs st f (L f)) : zq_ro l D cI cZ cW cC yX4_goes wsX4_goes ({ frames := 1, cells := 0, slots := 0, locals := 22 } : Room) [.ref (ad 0), .int (nI f), .int (nI r)] (mW cI cZ ad ln st gv oF kF fF sF bF mF hF kp cm m1 m2) (fun v => v = some (.int (zwk (zG gv 31) st f r (L f) 0 false 0))) := by
  refine zq_roI (own := RX4) (by decide) rfl rfl (Nat.le_of_ble_eq_true rfl) ?_
  intro p e s m below meth c Q ls hF hP hK hl ret
  obtain ⟨hx, hb, hml, hown, hts⟩ := hF
  have hl : lv_has ls 9 [(0, .ref (ad 0)), (1, .int (nI f)), (2, .int (nI r))] := hl
  obtain ⟨eL, hL⟩ := HL f hf
  refine lv_lconst (v := ((0 : Int32).toInt64)) hx hb dX4_goes_0 (by decide) ?_
  refine lv_lstore_n (lv' := [(3, .long ((0 : Int32).toInt64)), (0, .ref (ad 0)), (1, .int (nI f)), (2, .int (nI r))]) hx hb dX4_goes_1 rfl hl (by decide) rfl (fun ls hl => ?_)
  refine lv_iconst (v := (nI 0)) hx hb dX4_goes_2 (by decide) ?_
  refine lv_istore (lv' := [(5, .int (nI 0)), (3, .long ((0 : Int32).toInt64)), (0, .ref (ad 0)), (1, .int (nI f)), (2, .int (nI r))]) hx hb dX4_goes_3 hl (by decide) rfl (fun ls hl => ?_)
  have loop5 : ∀ (fu5 : Nat) (j : Nat) (u : Int32) (ls : Array Slot), (L f + 2 - j) < fu5 → (j ≤ L f + 1) → (-1000000 ≤ u.toInt ∧ u.toInt ≤ 1000000) → (zwk (zG gv 31) st f r (L f) 0 false 0 = zwk (zG gv 31) st f r (L f - j) j false u) → lv_has ls 9 [(0, .ref (ad 0)), (1, .int (nI f)), (2, .int (nI r)), (3, .long u.toInt64), (5, .int (nI j))] → W p l e ({ frames := 1, cells := 0, slots := 0, locals := 22 } : Room) s m ([.ref (ad 0), .int (nI f), .int (nI r)] : List Value).toArray below meth c s.heap [] 0 0 Q (F0 m 5 ls []) := by
    intro fu5
    induction fu5 with
    | zero => intro _ _ _ hmu; exact absurd hmu (Nat.not_lt_zero _)
    | succ fu5 ih5 =>
      intro j u ls hmu5 hj hu hz hl
      refine lv_iload hx hb dX4_goes_5 (lv_at hl 4 rfl) ?_
      refine lv_aload_n hx hb dX4_goes_7 rfl (lv_at hl 0 rfl) ?_
      refine zq_get hx hb hts in_X4_goes_X4 hown hK hP 0 rfl rfl 0 (by decide) (hts _ w_X4_goes__fieldLink_RX4_9_WordsBesideModel_longs_I__8385b9) rfl dX4_goes_8 ?_
      refine lv_iload_n hx hb dX4_goes_11 rfl (lv_at hl 1 rfl) ?_
      refine zq_ild hx hb hK hP 1 rfl f rfl (by omega) (by decide) dX4_goes_12 ?_
      refine zq_te (y := (nI (L f))) eL ?_
      refine lv_icmp_ge (tgt := 310) hx hb dX4_goes_13 (by decide) (fun c13 => ?_) (fun c13 => ?_)
      · have h13 := zle c13
        refine lv_lload_n hx hb dX4_goes_310 rfl (lv_at hl 3 rfl) ?_
        refine lv_l2i (v := u) hx hb dX4_goes_311 (by simp) ?_
        exact ret _ _ _ (by rw [hz, show L f - j = 0 by omega, zwk]) dX4_goes_312
      · have h13 := znle c13
        obtain ⟨t, et⟩ : ∃ t, L f - j = t + 1 := ⟨L f - j - 1, by omega⟩
        have et2 : L f - (j + 1) = t := by omega
        obtain ⟨xn, hxn, ex, hx9, hx10⟩ := HV j (by omega)
        have hza : za (nI xn) = nI (xn % 1000) := pk_rem (by omega) (by omega) (by omega)
        have hdv : nI xn / nI 1000 = nI (xn / 1000) := pk_div (by omega) (by omega) (by omega)
        have hB : (nI (xn % 1000) - nI 500).toInt = ((xn % 1000 : Nat) : Int) - 500 := pk_sub_toInt (by omega) (by omega)
        refine lv_aload_n hx hb dX4_goes_16 rfl (lv_at hl 0 rfl) ?_
        refine zq_get hx hb hts in_X4_goes_X4 hown hK hP 0 rfl rfl 1 (by decide) (hts _ w_X4_goes__fieldLink_RX4_13_WordsBesideModel_steps_I__04b4b3) rfl dX4_goes_17 ?_
        refine lv_bipush (v := (nI 12)) hx hb dX4_goes_20 (by decide) ?_
        refine lv_iload_n hx hb dX4_goes_22 rfl (lv_at hl 1 rfl) ?_
        refine lv_imul hx hb dX4_goes_23 ?_
        refine lv_iload hx hb dX4_goes_24 (lv_at hl 4 rfl) ?_
        refine lv_iadd hx hb dX4_goes_26 ?_
        refine zq_ild hx hb hK hP 2 rfl (12 * f + j) (by simp only [pk_mul, nI_add] <;> (congr 1; omega)) (by omega) (by decide) dX4_goes_27 ?_
        refine zq_te (y := (nI xn)) ex ?_
        refine lv_sipush (v := (nI 1000)) hx hb dX4_goes_28 (by decide) ?_
        refine lv_idiv hx hb dX4_goes_31 (nI_ne0 (by omega) (by omega)) ?_
        refine zq_te (y := (nI (xn / 1000))) hdv ?_
        refine lv_istore (lv' := [(6, .int (nI (xn / 1000))), (0, .ref (ad 0)), (1, .int (nI f)), (2, .int (nI r)), (3, .long u.toInt64), (5, .int (nI j))]) hx hb dX4_goes_32 hl (by decide) rfl (fun ls hl => ?_)
        refine lv_aload_n hx hb dX4_goes_34 rfl (lv_at hl 1 rfl) ?_
        refine zq_get hx hb hts in_X4_goes_X4 hown hK hP 0 rfl rfl 1 (by decide) (hts _ w_X4_goes__fieldLink_RX4_13_WordsBesideModel_steps_I__04b4b3) rfl dX4_goes_35 ?_
        refine lv_bipush (v := (nI 12)) hx hb dX4_goes_38 (by decide) ?_
        refine lv_iload_n hx hb dX4_goes_40 rfl (lv_at hl 2 rfl) ?_
        refine lv_imul hx hb dX4_goes_41 ?_
        refine lv_iload hx hb dX4_goes_42 (lv_at hl 5 rfl) ?_
        refine lv_iadd hx hb dX4_goes_44 ?_
        refine zq_ild hx hb hK hP 2 rfl (12 * f + j) (by simp only [pk_mul, nI_add] <;> (congr 1; omega)) (by omega) (by decide) dX4_goes_45 ?_
        refine zq_te (y := (nI xn)) ex ?_
        refine lv_sipush (v := (nI 1000)) hx hb dX4_goes_46 (by decide) ?_
        refine lv_irem hx hb dX4_goes_49 (nI_ne0 (by omega) (by omega)) ?_
        refine zq_te (y := (nI (xn % 1000))) hza ?_
        refine lv_istore (lv' := [(7, .int (nI (xn % 1000))), (6, .int (nI (xn / 1000))), (0, .ref (ad 0)), (1, .int (nI f)), (2, .int (nI r)), (3, .long u.toInt64), (5, .int (nI j))]) hx hb dX4_goes_50 hl (by decide) rfl (fun ls hl => ?_)
        refine lv_iload hx hb dX4_goes_52 (lv_at hl 0 rfl) ?_
        refine lv_sipush (v := (nI 500)) hx hb dX4_goes_54 (by decide) ?_
        refine lv_isub hx hb dX4_goes_57 ?_
        refine lv_istore (lv' := [(8, .int ((nI (xn % 1000)) - (nI 500))), (7, .int (nI (xn % 1000))), (6, .int (nI (xn / 1000))), (0, .ref (ad 0)), (1, .int (nI f)), (2, .int (nI r)), (3, .long u.toInt64), (5, .int (nI j))]) hx hb dX4_goes_58 hl (by decide) rfl (fun ls hl => ?_)
        refine lv_iinc (v := (nI (j + 1))) (lv' := [(5, .int (nI (j + 1))), (8, .int ((nI (xn % 1000)) - (nI 500))), (7, .int (nI (xn % 1000))), (6, .int (nI (xn / 1000))), (0, .ref (ad 0)), (1, .int (nI f)), (2, .int (nI r)), (3, .long u.toInt64)]) hx hb dX4_goes_60 hl (k := 7) rfl ((nI_succ _).symm) (by decide) rfl (fun ls hl => ?_)
        refine lv_iload hx hb dX4_goes_63 (lv_at hl 3 rfl) ?_
        by_cases k65_0 : (nI (xn / 1000)) = (0 : Int32)
        · refine lv_tableIn (tgt := 120) hx hb dX4_goes_65 (by rw [k65_0]; decide) (by rw [k65_0]; decide) (by rw [k65_0]; rfl) (by decide) ?_
          have hop : nI xn / nI 1000 = (0 : Int32) := hdv.trans k65_0
          have h7 : ¬ nI xn / nI 1000 = nI 7 := by rw [hop]; decide
          have eU : zaf (zG gv 31) (nI xn) u r = ((nI (xn % 1000)) - (nI 500)) := by simp [zaf, hop, hza]
          have hst : zwk (zG gv 31) st f r (L f) 0 false 0 = if (-1000000 : Int32) ≤ ((nI (xn % 1000)) - (nI 500)) ∧ ((nI (xn % 1000)) - (nI 500)) ≤ 1000000 then zwk (zG gv 31) st f r t (j + 1) false ((nI (xn % 1000)) - (nI 500)) else zNO := by rw [hz, et, zwk, ex, if_neg h7, eU]
          refine lv_iload hx hb dX4_goes_120 (lv_at hl 1 rfl) ?_
          refine lv_i2l (v := ((nI (xn % 1000)) - (nI 500)).toInt64) hx hb dX4_goes_122 rfl ?_
          refine lv_lstore_n (lv' := [(3, .long (((nI (xn % 1000)) - (nI 500)).toInt64)), (5, .int (nI (j + 1))), (8, .int ((nI (xn % 1000)) - (nI 500))), (7, .int (nI (xn % 1000))), (6, .int (nI (xn / 1000))), (0, .ref (ad 0)), (1, .int (nI f)), (2, .int (nI r))]) hx hb dX4_goes_123 rfl hl (by decide) rfl (fun ls hl => ?_)
          refine lv_goto (tgt := 288) hx hb dX4_goes_124 (by decide) ?_
          refine lv_lload_n hx hb dX4_goes_288 rfl (lv_at hl 0 rfl) ?_
          refine lv_ldc2 (v := 1000000) hx hb hown (hts _ w_X4_goes__constantLong_RX4_65_1000000__5a6e97) dX4_goes_289 ?_
          refine W.lcmp hx hb dX4_goes_292 ?_
          refine lv_if_gt (tgt := 304) hx hb dX4_goes_293 (by decide) (fun c293 => ?_) (fun c293 => ?_)
          · have h293 := zlc_gt.mp c293
            refine lv_ldc (v := (-2147483648 : Int32)) hx hb hown (hts _ w_X4_goes__constant_RX4_64_2147483648__c0c951) dX4_goes_304 ?_
            exact ret _ _ _ (by rw [hst, if_neg (fun q => absurd (zlim.mp q).2 (by omega))]) dX4_goes_306
          · have h293 := Int.not_lt.mp (fun q => c293 (zlc_gt.mpr q))
            refine lv_lload_n hx hb dX4_goes_296 rfl (lv_at hl 0 rfl) ?_
            refine lv_ldc2 (v := -1000000) hx hb hown (hts _ w_X4_goes__constantLong_RX4_67_1000000__864ecf) dX4_goes_297 ?_
            refine W.lcmp hx hb dX4_goes_300 ?_
            refine lv_if_ge (tgt := 307) hx hb dX4_goes_301 (by decide) (fun c301 => ?_) (fun c301 => ?_)
            · have h301 := zlc_ge.mp c301
              refine lv_goto (tgt := 5) hx hb dX4_goes_307 (by decide) ?_
              exact ih5 (j + 1) ((nI (xn % 1000)) - (nI 500)) ls (by omega) (by omega) ⟨h301, h293⟩ (by rw [hst, if_pos (zlim.mpr ⟨h301, h293⟩), et2]) (lv_sub hl [5, 6, 7, 0, 1] rfl)
            · have h301 := fun q => c301 (zlc_ge.mpr q)
              refine lv_ldc (v := (-2147483648 : Int32)) hx hb hown (hts _ w_X4_goes__constant_RX4_64_2147483648__c0c951) dX4_goes_304 ?_
              exact ret _ _ _ (by rw [hst, if_neg (fun q => h301 (zlim.mp q).1)]) dX4_goes_306
        · by_cases k65_1 : (nI (xn / 1000)) = (1 : Int32)
          · refine lv_tableIn (tgt := 127) hx hb dX4_goes_65 (by rw [k65_1]; decide) (by rw [k65_1]; decide) (by rw [k65_1]; rfl) (by decide) ?_
            have hop : nI xn / nI 1000 = (1 : Int32) := hdv.trans k65_1
            have h7 : ¬ nI xn / nI 1000 = nI 7 := by rw [hop]; decide
            have eU : zaf (zG gv 31) (nI xn) u r = (u + ((nI (xn % 1000)) - (nI 500))) := by simp [zaf, hop, hza]
            have hst : zwk (zG gv 31) st f r (L f) 0 false 0 = if (-1000000 : Int32) ≤ (u + ((nI (xn % 1000)) - (nI 500))) ∧ (u + ((nI (xn % 1000)) - (nI 500))) ≤ 1000000 then zwk (zG gv 31) st f r t (j + 1) false (u + ((nI (xn % 1000)) - (nI 500))) else zNO := by rw [hz, et, zwk, ex, if_neg h7, eU]
            refine lv_lload_n hx hb dX4_goes_127 rfl (lv_at hl 7 rfl) ?_
            refine lv_iload hx hb dX4_goes_128 (lv_at hl 1 rfl) ?_
            refine lv_i2l (v := ((nI (xn % 1000)) - (nI 500)).toInt64) hx hb dX4_goes_130 rfl ?_
            refine lv_ladd hx hb dX4_goes_131 ?_
            refine zq_tl (y := (u + ((nI (xn % 1000)) - (nI 500))).toInt64) (zl_add (by omega) (by omega)) ?_
            refine lv_lstore_n (lv' := [(3, .long ((u + ((nI (xn % 1000)) - (nI 500))).toInt64)), (5, .int (nI (j + 1))), (8, .int ((nI (xn % 1000)) - (nI 500))), (7, .int (nI (xn % 1000))), (6, .int (nI (xn / 1000))), (0, .ref (ad 0)), (1, .int (nI f)), (2, .int (nI r))]) hx hb dX4_goes_132 rfl hl (by decide) rfl (fun ls hl => ?_)
            refine lv_goto (tgt := 288) hx hb dX4_goes_133 (by decide) ?_
            refine lv_lload_n hx hb dX4_goes_288 rfl (lv_at hl 0 rfl) ?_
            refine lv_ldc2 (v := 1000000) hx hb hown (hts _ w_X4_goes__constantLong_RX4_65_1000000__5a6e97) dX4_goes_289 ?_
            refine W.lcmp hx hb dX4_goes_292 ?_
            refine lv_if_gt (tgt := 304) hx hb dX4_goes_293 (by decide) (fun c293 => ?_) (fun c293 => ?_)
            · have h293 := zlc_gt.mp c293
              refine lv_ldc (v := (-2147483648 : Int32)) hx hb hown (hts _ w_X4_goes__constant_RX4_64_2147483648__c0c951) dX4_goes_304 ?_
              exact ret _ _ _ (by rw [hst, if_neg (fun q => absurd (zlim.mp q).2 (by omega))]) dX4_goes_306
            · have h293 := Int.not_lt.mp (fun q => c293 (zlc_gt.mpr q))
              refine lv_lload_n hx hb dX4_goes_296 rfl (lv_at hl 0 rfl) ?_
              refine lv_ldc2 (v := -1000000) hx hb hown (hts _ w_X4_goes__constantLong_RX4_67_1000000__864ecf) dX4_goes_297 ?_
              refine W.lcmp hx hb dX4_goes_300 ?_
              refine lv_if_ge (tgt := 307) hx hb dX4_goes_301 (by decide) (fun c301 => ?_) (fun c301 => ?_)
              · have h301 := zlc_ge.mp c301
                refine lv_goto (tgt := 5) hx hb dX4_goes_307 (by decide) ?_
                exact ih5 (j + 1) (u + ((nI (xn % 1000)) - (nI 500))) ls (by omega) (by omega) ⟨h301, h293⟩ (by rw [hst, if_pos (zlim.mpr ⟨h301, h293⟩), et2]) (lv_sub hl [5, 6, 7, 0, 1] rfl)
              · have h301 := fun q => c301 (zlc_ge.mpr q)
                refine lv_ldc (v := (-2147483648 : Int32)) hx hb hown (hts _ w_X4_goes__constant_RX4_64_2147483648__c0c951) dX4_goes_304 ?_
                exact ret _ _ _ (by rw [hst, if_neg (fun q => h301 (zlim.mp q).1)]) dX4_goes_306
          · by_cases k65_2 : (nI (xn / 1000)) = (2 : Int32)
            · refine lv_tableIn (tgt := 136) hx hb dX4_goes_65 (by rw [k65_2]; decide) (by rw [k65_2]; decide) (by rw [k65_2]; rfl) (by decide) ?_
              have hop : nI xn / nI 1000 = (2 : Int32) := hdv.trans k65_2
              have h7 : ¬ nI xn / nI 1000 = nI 7 := by rw [hop]; decide
              have eU : zaf (zG gv 31) (nI xn) u r = (u + ((nI (xn % 1000)) - (nI 500)) * nI (r / 16)) := by simp [zaf, hop, hza]
              have hst : zwk (zG gv 31) st f r (L f) 0 false 0 = if (-1000000 : Int32) ≤ (u + ((nI (xn % 1000)) - (nI 500)) * nI (r / 16)) ∧ (u + ((nI (xn % 1000)) - (nI 500)) * nI (r / 16)) ≤ 1000000 then zwk (zG gv 31) st f r t (j + 1) false (u + ((nI (xn % 1000)) - (nI 500)) * nI (r / 16)) else zNO := by rw [hz, et, zwk, ex, if_neg h7, eU]
              have hM := zMb (B := ((nI (xn % 1000)) - (nI 500))) (q := r / 16) (by omega) (by omega) (by omega)
              refine lv_lload_n hx hb dX4_goes_136 rfl (lv_at hl 7 rfl) ?_
              refine lv_iload hx hb dX4_goes_137 (lv_at hl 1 rfl) ?_
              refine lv_iload_n hx hb dX4_goes_139 rfl (lv_at hl 6 rfl) ?_
              refine lv_bipush (v := (nI 16)) hx hb dX4_goes_140 (by decide) ?_
              refine lv_idiv hx hb dX4_goes_142 (by decide) ?_
              refine zq_te (y := (nI (r / 16))) (pk_div (by omega) (by omega) (by omega)) ?_
              refine lv_imul hx hb dX4_goes_143 ?_
              refine lv_i2l (v := (((nI (xn % 1000)) - (nI 500)) * (nI (r / 16))).toInt64) hx hb dX4_goes_144 rfl ?_
              refine lv_ladd hx hb dX4_goes_145 ?_
              refine zq_tl (y := (u + ((nI (xn % 1000)) - (nI 500)) * nI (r / 16)).toInt64) (zl_add (by omega) (by omega)) ?_
              refine lv_lstore_n (lv' := [(3, .long ((u + ((nI (xn % 1000)) - (nI 500)) * nI (r / 16)).toInt64)), (5, .int (nI (j + 1))), (8, .int ((nI (xn % 1000)) - (nI 500))), (7, .int (nI (xn % 1000))), (6, .int (nI (xn / 1000))), (0, .ref (ad 0)), (1, .int (nI f)), (2, .int (nI r))]) hx hb dX4_goes_146 rfl hl (by decide) rfl (fun ls hl => ?_)
              refine lv_goto (tgt := 288) hx hb dX4_goes_147 (by decide) ?_
              refine lv_lload_n hx hb dX4_goes_288 rfl (lv_at hl 0 rfl) ?_
              refine lv_ldc2 (v := 1000000) hx hb hown (hts _ w_X4_goes__constantLong_RX4_65_1000000__5a6e97) dX4_goes_289 ?_
              refine W.lcmp hx hb dX4_goes_292 ?_
              refine lv_if_gt (tgt := 304) hx hb dX4_goes_293 (by decide) (fun c293 => ?_) (fun c293 => ?_)
              · have h293 := zlc_gt.mp c293
                refine lv_ldc (v := (-2147483648 : Int32)) hx hb hown (hts _ w_X4_goes__constant_RX4_64_2147483648__c0c951) dX4_goes_304 ?_
                exact ret _ _ _ (by rw [hst, if_neg (fun q => absurd (zlim.mp q).2 (by omega))]) dX4_goes_306
              · have h293 := Int.not_lt.mp (fun q => c293 (zlc_gt.mpr q))
                refine lv_lload_n hx hb dX4_goes_296 rfl (lv_at hl 0 rfl) ?_
                refine lv_ldc2 (v := -1000000) hx hb hown (hts _ w_X4_goes__constantLong_RX4_67_1000000__864ecf) dX4_goes_297 ?_
                refine W.lcmp hx hb dX4_goes_300 ?_
                refine lv_if_ge (tgt := 307) hx hb dX4_goes_301 (by decide) (fun c301 => ?_) (fun c301 => ?_)
                · have h301 := zlc_ge.mp c301
                  refine lv_goto (tgt := 5) hx hb dX4_goes_307 (by decide) ?_
                  exact ih5 (j + 1) (u + ((nI (xn % 1000)) - (nI 500)) * nI (r / 16)) ls (by omega) (by omega) ⟨h301, h293⟩ (by rw [hst, if_pos (zlim.mpr ⟨h301, h293⟩), et2]) (lv_sub hl [5, 6, 7, 0, 1] rfl)
                · have h301 := fun q => c301 (zlc_ge.mpr q)
                  refine lv_ldc (v := (-2147483648 : Int32)) hx hb hown (hts _ w_X4_goes__constant_RX4_64_2147483648__c0c951) dX4_goes_304 ?_
                  exact ret _ _ _ (by rw [hst, if_neg (fun q => h301 (zlim.mp q).1)]) dX4_goes_306
            · by_cases k65_3 : (nI (xn / 1000)) = (3 : Int32)
              · refine lv_tableIn (tgt := 150) hx hb dX4_goes_65 (by rw [k65_3]; decide) (by rw [k65_3]; decide) (by rw [k65_3]; rfl) (by decide) ?_
                have hop : nI xn / nI 1000 = (3 : Int32) := hdv.trans k65_3
                have h7 : ¬ nI xn / nI 1000 = nI 7 := by rw [hop]; decide
                have eU : zaf (zG gv 31) (nI xn) u r = (u + ((nI (xn % 1000)) - (nI 500)) * nI (r % 16)) := by simp [zaf, hop, hza]
                have hst : zwk (zG gv 31) st f r (L f) 0 false 0 = if (-1000000 : Int32) ≤ (u + ((nI (xn % 1000)) - (nI 500)) * nI (r % 16)) ∧ (u + ((nI (xn % 1000)) - (nI 500)) * nI (r % 16)) ≤ 1000000 then zwk (zG gv 31) st f r t (j + 1) false (u + ((nI (xn % 1000)) - (nI 500)) * nI (r % 16)) else zNO := by rw [hz, et, zwk, ex, if_neg h7, eU]
                have hM := zMb (B := ((nI (xn % 1000)) - (nI 500))) (q := r % 16) (by omega) (by omega) (by omega)
                refine lv_lload_n hx hb dX4_goes_150 rfl (lv_at hl 7 rfl) ?_
                refine lv_iload hx hb dX4_goes_151 (lv_at hl 1 rfl) ?_
                refine lv_iload_n hx hb dX4_goes_153 rfl (lv_at hl 6 rfl) ?_
                refine lv_bipush (v := (nI 16)) hx hb dX4_goes_154 (by decide) ?_
                refine lv_irem hx hb dX4_goes_156 (by decide) ?_
                refine zq_te (y := (nI (r % 16))) (pk_rem (by omega) (by omega) (by omega)) ?_
                refine lv_imul hx hb dX4_goes_157 ?_
                refine lv_i2l (v := (((nI (xn % 1000)) - (nI 500)) * (nI (r % 16))).toInt64) hx hb dX4_goes_158 rfl ?_
                refine lv_ladd hx hb dX4_goes_159 ?_
                refine zq_tl (y := (u + ((nI (xn % 1000)) - (nI 500)) * nI (r % 16)).toInt64) (zl_add (by omega) (by omega)) ?_
                refine lv_lstore_n (lv' := [(3, .long ((u + ((nI (xn % 1000)) - (nI 500)) * nI (r % 16)).toInt64)), (5, .int (nI (j + 1))), (8, .int ((nI (xn % 1000)) - (nI 500))), (7, .int (nI (xn % 1000))), (6, .int (nI (xn / 1000))), (0, .ref (ad 0)), (1, .int (nI f)), (2, .int (nI r))]) hx hb dX4_goes_160 rfl hl (by decide) rfl (fun ls hl => ?_)
                refine lv_goto (tgt := 288) hx hb dX4_goes_161 (by decide) ?_
                refine lv_lload_n hx hb dX4_goes_288 rfl (lv_at hl 0 rfl) ?_
                refine lv_ldc2 (v := 1000000) hx hb hown (hts _ w_X4_goes__constantLong_RX4_65_1000000__5a6e97) dX4_goes_289 ?_
                refine W.lcmp hx hb dX4_goes_292 ?_
                refine lv_if_gt (tgt := 304) hx hb dX4_goes_293 (by decide) (fun c293 => ?_) (fun c293 => ?_)
                · have h293 := zlc_gt.mp c293
                  refine lv_ldc (v := (-2147483648 : Int32)) hx hb hown (hts _ w_X4_goes__constant_RX4_64_2147483648__c0c951) dX4_goes_304 ?_
                  exact ret _ _ _ (by rw [hst, if_neg (fun q => absurd (zlim.mp q).2 (by omega))]) dX4_goes_306
                · have h293 := Int.not_lt.mp (fun q => c293 (zlc_gt.mpr q))
                  refine lv_lload_n hx hb dX4_goes_296 rfl (lv_at hl 0 rfl) ?_
                  refine lv_ldc2 (v := -1000000) hx hb hown (hts _ w_X4_goes__constantLong_RX4_67_1000000__864ecf) dX4_goes_297 ?_
                  refine W.lcmp hx hb dX4_goes_300 ?_
                  refine lv_if_ge (tgt := 307) hx hb dX4_goes_301 (by decide) (fun c301 => ?_) (fun c301 => ?_)
                  · have h301 := zlc_ge.mp c301
                    refine lv_goto (tgt := 5) hx hb dX4_goes_307 (by decide) ?_
                    exact ih5 (j + 1) (u + ((nI (xn % 1000)) - (nI 500)) * nI (r % 16)) ls (by omega) (by omega) ⟨h301, h293⟩ (by rw [hst, if_pos (zlim.mpr ⟨h301, h293⟩), et2]) (lv_sub hl [5, 6, 7, 0, 1] rfl)
                  · have h301 := fun q => c301 (zlc_ge.mpr q)
                    refine lv_ldc (v := (-2147483648 : Int32)) hx hb hown (hts _ w_X4_goes__constant_RX4_64_2147483648__c0c951) dX4_goes_304 ?_
                    exact ret _ _ _ (by rw [hst, if_neg (fun q => h301 (zlim.mp q).1)]) dX4_goes_306
              · by_cases k65_4 : (nI (xn / 1000)) = (4 : Int32)
                · refine lv_tableIn (tgt := 164) hx hb dX4_goes_65 (by rw [k65_4]; decide) (by rw [k65_4]; decide) (by rw [k65_4]; rfl) (by decide) ?_
                  have hop : nI xn / nI 1000 = (4 : Int32) := hdv.trans k65_4
                  have h7 : ¬ nI xn / nI 1000 = nI 7 := by rw [hop]; decide
                  have eU : zaf (zG gv 31) (nI xn) u r = (u * ((nI (xn % 1000)) - (nI 500))) := by simp [zaf, hop, hza]
                  have hst : zwk (zG gv 31) st f r (L f) 0 false 0 = if (-1000000 : Int32) ≤ (u * ((nI (xn % 1000)) - (nI 500))) ∧ (u * ((nI (xn % 1000)) - (nI 500))) ≤ 1000000 then zwk (zG gv 31) st f r t (j + 1) false (u * ((nI (xn % 1000)) - (nI 500))) else zNO := by rw [hz, et, zwk, ex, if_neg h7, eU]
                  have hM := zMu (B := ((nI (xn % 1000)) - (nI 500))) (u := u) (by omega) (by omega) (by omega) (by omega)
                  refine lv_lload_n hx hb dX4_goes_164 rfl (lv_at hl 7 rfl) ?_
                  refine lv_iload hx hb dX4_goes_165 (lv_at hl 1 rfl) ?_
                  refine lv_i2l (v := ((nI (xn % 1000)) - (nI 500)).toInt64) hx hb dX4_goes_167 rfl ?_
                  refine lv_lmul hx hb dX4_goes_168 ?_
                  refine zq_tl (y := (u * ((nI (xn % 1000)) - (nI 500))).toInt64) (zl_mul (by omega) (by omega)) ?_
                  refine lv_lstore_n (lv' := [(3, .long ((u * ((nI (xn % 1000)) - (nI 500))).toInt64)), (5, .int (nI (j + 1))), (8, .int ((nI (xn % 1000)) - (nI 500))), (7, .int (nI (xn % 1000))), (6, .int (nI (xn / 1000))), (0, .ref (ad 0)), (1, .int (nI f)), (2, .int (nI r))]) hx hb dX4_goes_169 rfl hl (by decide) rfl (fun ls hl => ?_)
                  refine lv_goto (tgt := 288) hx hb dX4_goes_170 (by decide) ?_
                  refine lv_lload_n hx hb dX4_goes_288 rfl (lv_at hl 0 rfl) ?_
                  refine lv_ldc2 (v := 1000000) hx hb hown (hts _ w_X4_goes__constantLong_RX4_65_1000000__5a6e97) dX4_goes_289 ?_
                  refine W.lcmp hx hb dX4_goes_292 ?_
                  refine lv_if_gt (tgt := 304) hx hb dX4_goes_293 (by decide) (fun c293 => ?_) (fun c293 => ?_)
                  · have h293 := zlc_gt.mp c293
                    refine lv_ldc (v := (-2147483648 : Int32)) hx hb hown (hts _ w_X4_goes__constant_RX4_64_2147483648__c0c951) dX4_goes_304 ?_
                    exact ret _ _ _ (by rw [hst, if_neg (fun q => absurd (zlim.mp q).2 (by omega))]) dX4_goes_306
                  · have h293 := Int.not_lt.mp (fun q => c293 (zlc_gt.mpr q))
                    refine lv_lload_n hx hb dX4_goes_296 rfl (lv_at hl 0 rfl) ?_
                    refine lv_ldc2 (v := -1000000) hx hb hown (hts _ w_X4_goes__constantLong_RX4_67_1000000__864ecf) dX4_goes_297 ?_
                    refine W.lcmp hx hb dX4_goes_300 ?_
                    refine lv_if_ge (tgt := 307) hx hb dX4_goes_301 (by decide) (fun c301 => ?_) (fun c301 => ?_)
                    · have h301 := zlc_ge.mp c301
                      refine lv_goto (tgt := 5) hx hb dX4_goes_307 (by decide) ?_
                      exact ih5 (j + 1) (u * ((nI (xn % 1000)) - (nI 500))) ls (by omega) (by omega) ⟨h301, h293⟩ (by rw [hst, if_pos (zlim.mpr ⟨h301, h293⟩), et2]) (lv_sub hl [5, 6, 7, 0, 1] rfl)
                    · have h301 := fun q => c301 (zlc_ge.mpr q)
                      refine lv_ldc (v := (-2147483648 : Int32)) hx hb hown (hts _ w_X4_goes__constant_RX4_64_2147483648__c0c951) dX4_goes_304 ?_
                      exact ret _ _ _ (by rw [hst, if_neg (fun q => h301 (zlim.mp q).1)]) dX4_goes_306
                · by_cases k65_5 : (nI (xn / 1000)) = (5 : Int32)
                  · refine lv_tableIn (tgt := 173) hx hb dX4_goes_65 (by rw [k65_5]; decide) (by rw [k65_5]; decide) (by rw [k65_5]; rfl) (by decide) ?_
                    have hop : nI xn / nI 1000 = (5 : Int32) := hdv.trans k65_5
                    have h7 : ¬ nI xn / nI 1000 = nI 7 := by rw [hop]; decide
                    have eU : zaf (zG gv 31) (nI xn) u r = (if ((nI (xn % 1000)) - (nI 500)) < u then ((nI (xn % 1000)) - (nI 500)) else u) := by simp [zaf, hop, hza]
                    have hst : zwk (zG gv 31) st f r (L f) 0 false 0 = if (-1000000 : Int32) ≤ (if ((nI (xn % 1000)) - (nI 500)) < u then ((nI (xn % 1000)) - (nI 500)) else u) ∧ (if ((nI (xn % 1000)) - (nI 500)) < u then ((nI (xn % 1000)) - (nI 500)) else u) ≤ 1000000 then zwk (zG gv 31) st f r t (j + 1) false (if ((nI (xn % 1000)) - (nI 500)) < u then ((nI (xn % 1000)) - (nI 500)) else u) else zNO := by rw [hz, et, zwk, ex, if_neg h7, eU]
                    refine lv_lload_n hx hb dX4_goes_173 rfl (lv_at hl 7 rfl) ?_
                    refine lv_iload hx hb dX4_goes_174 (lv_at hl 1 rfl) ?_
                    refine lv_i2l (v := ((nI (xn % 1000)) - (nI 500)).toInt64) hx hb dX4_goes_176 rfl ?_
                    refine W.lcmp hx hb dX4_goes_177 ?_
                    refine lv_if_le (tgt := 187) hx hb dX4_goes_178 (by decide) (fun c178 => ?_) (fun c178 => ?_)
                    · refine lv_lload_n hx hb dX4_goes_187 rfl (lv_at hl 7 rfl) ?_
                      rw [if_neg (zl_gt.mp c178)] at hst
                      refine lv_lstore_n (lv' := [(3, .long u.toInt64), (5, .int (nI (j + 1))), (8, .int ((nI (xn % 1000)) - (nI 500))), (7, .int (nI (xn % 1000))), (6, .int (nI (xn / 1000))), (0, .ref (ad 0)), (1, .int (nI f)), (2, .int (nI r))]) hx hb dX4_goes_188 rfl hl (by decide) rfl (fun ls hl => ?_)
                      refine lv_goto (tgt := 288) hx hb dX4_goes_189 (by decide) ?_
                      refine lv_lload_n hx hb dX4_goes_288 rfl (lv_at hl 0 rfl) ?_
                      refine lv_ldc2 (v := 1000000) hx hb hown (hts _ w_X4_goes__constantLong_RX4_65_1000000__5a6e97) dX4_goes_289 ?_
                      refine W.lcmp hx hb dX4_goes_292 ?_
                      refine lv_if_gt (tgt := 304) hx hb dX4_goes_293 (by decide) (fun c293 => ?_) (fun c293 => ?_)
                      · have h293 := zlc_gt.mp c293
                        refine lv_ldc (v := (-2147483648 : Int32)) hx hb hown (hts _ w_X4_goes__constant_RX4_64_2147483648__c0c951) dX4_goes_304 ?_
                        exact ret _ _ _ (by rw [hst, if_neg (fun q => absurd (zlim.mp q).2 (by omega))]) dX4_goes_306
                      · have h293 := Int.not_lt.mp (fun q => c293 (zlc_gt.mpr q))
                        refine lv_lload_n hx hb dX4_goes_296 rfl (lv_at hl 0 rfl) ?_
                        refine lv_ldc2 (v := -1000000) hx hb hown (hts _ w_X4_goes__constantLong_RX4_67_1000000__864ecf) dX4_goes_297 ?_
                        refine W.lcmp hx hb dX4_goes_300 ?_
                        refine lv_if_ge (tgt := 307) hx hb dX4_goes_301 (by decide) (fun c301 => ?_) (fun c301 => ?_)
                        · have h301 := zlc_ge.mp c301
                          refine lv_goto (tgt := 5) hx hb dX4_goes_307 (by decide) ?_
                          exact ih5 (j + 1) u ls (by omega) (by omega) ⟨h301, h293⟩ (by rw [hst, if_pos (zlim.mpr ⟨h301, h293⟩), et2]) (lv_sub hl [5, 6, 7, 0, 1] rfl)
                        · have h301 := fun q => c301 (zlc_ge.mpr q)
                          refine lv_ldc (v := (-2147483648 : Int32)) hx hb hown (hts _ w_X4_goes__constant_RX4_64_2147483648__c0c951) dX4_goes_304 ?_
                          exact ret _ _ _ (by rw [hst, if_neg (fun q => h301 (zlim.mp q).1)]) dX4_goes_306
                    · refine lv_iload hx hb dX4_goes_181 (lv_at hl 1 rfl) ?_
                      refine lv_i2l (v := ((nI (xn % 1000)) - (nI 500)).toInt64) hx hb dX4_goes_183 rfl ?_
                      refine lv_goto (tgt := 188) hx hb dX4_goes_184 (by decide) ?_
                      rw [if_pos (Decidable.not_not.mp (fun q => c178 (zl_gt.mpr q)))] at hst
                      refine lv_lstore_n (lv' := [(3, .long (((nI (xn % 1000)) - (nI 500)).toInt64)), (5, .int (nI (j + 1))), (8, .int ((nI (xn % 1000)) - (nI 500))), (7, .int (nI (xn % 1000))), (6, .int (nI (xn / 1000))), (0, .ref (ad 0)), (1, .int (nI f)), (2, .int (nI r))]) hx hb dX4_goes_188 rfl hl (by decide) rfl (fun ls hl => ?_)
                      refine lv_goto (tgt := 288) hx hb dX4_goes_189 (by decide) ?_
                      refine lv_lload_n hx hb dX4_goes_288 rfl (lv_at hl 0 rfl) ?_
                      refine lv_ldc2 (v := 1000000) hx hb hown (hts _ w_X4_goes__constantLong_RX4_65_1000000__5a6e97) dX4_goes_289 ?_
                      refine W.lcmp hx hb dX4_goes_292 ?_
                      refine lv_if_gt (tgt := 304) hx hb dX4_goes_293 (by decide) (fun c293 => ?_) (fun c293 => ?_)
                      · have h293 := zlc_gt.mp c293
                        refine lv_ldc (v := (-2147483648 : Int32)) hx hb hown (hts _ w_X4_goes__constant_RX4_64_2147483648__c0c951) dX4_goes_304 ?_
                        exact ret _ _ _ (by rw [hst, if_neg (fun q => absurd (zlim.mp q).2 (by omega))]) dX4_goes_306
                      · have h293 := Int.not_lt.mp (fun q => c293 (zlc_gt.mpr q))
                        refine lv_lload_n hx hb dX4_goes_296 rfl (lv_at hl 0 rfl) ?_
                        refine lv_ldc2 (v := -1000000) hx hb hown (hts _ w_X4_goes__constantLong_RX4_67_1000000__864ecf) dX4_goes_297 ?_
                        refine W.lcmp hx hb dX4_goes_300 ?_
                        refine lv_if_ge (tgt := 307) hx hb dX4_goes_301 (by decide) (fun c301 => ?_) (fun c301 => ?_)
                        · have h301 := zlc_ge.mp c301
                          refine lv_goto (tgt := 5) hx hb dX4_goes_307 (by decide) ?_
                          exact ih5 (j + 1) ((nI (xn % 1000)) - (nI 500)) ls (by omega) (by omega) ⟨h301, h293⟩ (by rw [hst, if_pos (zlim.mpr ⟨h301, h293⟩), et2]) (lv_sub hl [5, 6, 7, 0, 1] rfl)
                        · have h301 := fun q => c301 (zlc_ge.mpr q)
                          refine lv_ldc (v := (-2147483648 : Int32)) hx hb hown (hts _ w_X4_goes__constant_RX4_64_2147483648__c0c951) dX4_goes_304 ?_
                          exact ret _ _ _ (by rw [hst, if_neg (fun q => h301 (zlim.mp q).1)]) dX4_goes_306
                  · by_cases k65_6 : (nI (xn / 1000)) = (6 : Int32)
                    · refine lv_tableIn (tgt := 192) hx hb dX4_goes_65 (by rw [k65_6]; decide) (by rw [k65_6]; decide) (by rw [k65_6]; rfl) (by decide) ?_
                      have hop : nI xn / nI 1000 = (6 : Int32) := hdv.trans k65_6
                      have h7 : ¬ nI xn / nI 1000 = nI 7 := by rw [hop]; decide
                      have eU : zaf (zG gv 31) (nI xn) u r = (if u < ((nI (xn % 1000)) - (nI 500)) then ((nI (xn % 1000)) - (nI 500)) else u) := by simp [zaf, hop, hza]
                      have hst : zwk (zG gv 31) st f r (L f) 0 false 0 = if (-1000000 : Int32) ≤ (if u < ((nI (xn % 1000)) - (nI 500)) then ((nI (xn % 1000)) - (nI 500)) else u) ∧ (if u < ((nI (xn % 1000)) - (nI 500)) then ((nI (xn % 1000)) - (nI 500)) else u) ≤ 1000000 then zwk (zG gv 31) st f r t (j + 1) false (if u < ((nI (xn % 1000)) - (nI 500)) then ((nI (xn % 1000)) - (nI 500)) else u) else zNO := by rw [hz, et, zwk, ex, if_neg h7, eU]
                      refine lv_lload_n hx hb dX4_goes_192 rfl (lv_at hl 7 rfl) ?_
                      refine lv_iload hx hb dX4_goes_193 (lv_at hl 1 rfl) ?_
                      refine lv_i2l (v := ((nI (xn % 1000)) - (nI 500)).toInt64) hx hb dX4_goes_195 rfl ?_
                      refine W.lcmp hx hb dX4_goes_196 ?_
                      refine lv_if_ge (tgt := 206) hx hb dX4_goes_197 (by decide) (fun c197 => ?_) (fun c197 => ?_)
                      · refine lv_lload_n hx hb dX4_goes_206 rfl (lv_at hl 7 rfl) ?_
                        rw [if_neg (zl_ge.mp c197)] at hst
                        refine lv_lstore_n (lv' := [(3, .long u.toInt64), (5, .int (nI (j + 1))), (8, .int ((nI (xn % 1000)) - (nI 500))), (7, .int (nI (xn % 1000))), (6, .int (nI (xn / 1000))), (0, .ref (ad 0)), (1, .int (nI f)), (2, .int (nI r))]) hx hb dX4_goes_207 rfl hl (by decide) rfl (fun ls hl => ?_)
                        refine lv_goto (tgt := 288) hx hb dX4_goes_208 (by decide) ?_
                        refine lv_lload_n hx hb dX4_goes_288 rfl (lv_at hl 0 rfl) ?_
                        refine lv_ldc2 (v := 1000000) hx hb hown (hts _ w_X4_goes__constantLong_RX4_65_1000000__5a6e97) dX4_goes_289 ?_
                        refine W.lcmp hx hb dX4_goes_292 ?_
                        refine lv_if_gt (tgt := 304) hx hb dX4_goes_293 (by decide) (fun c293 => ?_) (fun c293 => ?_)
                        · have h293 := zlc_gt.mp c293
                          refine lv_ldc (v := (-2147483648 : Int32)) hx hb hown (hts _ w_X4_goes__constant_RX4_64_2147483648__c0c951) dX4_goes_304 ?_
                          exact ret _ _ _ (by rw [hst, if_neg (fun q => absurd (zlim.mp q).2 (by omega))]) dX4_goes_306
                        · have h293 := Int.not_lt.mp (fun q => c293 (zlc_gt.mpr q))
                          refine lv_lload_n hx hb dX4_goes_296 rfl (lv_at hl 0 rfl) ?_
                          refine lv_ldc2 (v := -1000000) hx hb hown (hts _ w_X4_goes__constantLong_RX4_67_1000000__864ecf) dX4_goes_297 ?_
                          refine W.lcmp hx hb dX4_goes_300 ?_
                          refine lv_if_ge (tgt := 307) hx hb dX4_goes_301 (by decide) (fun c301 => ?_) (fun c301 => ?_)
                          · have h301 := zlc_ge.mp c301
                            refine lv_goto (tgt := 5) hx hb dX4_goes_307 (by decide) ?_
                            exact ih5 (j + 1) u ls (by omega) (by omega) ⟨h301, h293⟩ (by rw [hst, if_pos (zlim.mpr ⟨h301, h293⟩), et2]) (lv_sub hl [5, 6, 7, 0, 1] rfl)
                          · have h301 := fun q => c301 (zlc_ge.mpr q)
                            refine lv_ldc (v := (-2147483648 : Int32)) hx hb hown (hts _ w_X4_goes__constant_RX4_64_2147483648__c0c951) dX4_goes_304 ?_
                            exact ret _ _ _ (by rw [hst, if_neg (fun q => h301 (zlim.mp q).1)]) dX4_goes_306
                      · refine lv_iload hx hb dX4_goes_200 (lv_at hl 1 rfl) ?_
                        refine lv_i2l (v := ((nI (xn % 1000)) - (nI 500)).toInt64) hx hb dX4_goes_202 rfl ?_
                        refine lv_goto (tgt := 207) hx hb dX4_goes_203 (by decide) ?_
                        rw [if_pos (Decidable.not_not.mp (fun q => c197 (zl_ge.mpr q)))] at hst
                        refine lv_lstore_n (lv' := [(3, .long (((nI (xn % 1000)) - (nI 500)).toInt64)), (5, .int (nI (j + 1))), (8, .int ((nI (xn % 1000)) - (nI 500))), (7, .int (nI (xn % 1000))), (6, .int (nI (xn / 1000))), (0, .ref (ad 0)), (1, .int (nI f)), (2, .int (nI r))]) hx hb dX4_goes_207 rfl hl (by decide) rfl (fun ls hl => ?_)
                        refine lv_goto (tgt := 288) hx hb dX4_goes_208 (by decide) ?_
                        refine lv_lload_n hx hb dX4_goes_288 rfl (lv_at hl 0 rfl) ?_
                        refine lv_ldc2 (v := 1000000) hx hb hown (hts _ w_X4_goes__constantLong_RX4_65_1000000__5a6e97) dX4_goes_289 ?_
                        refine W.lcmp hx hb dX4_goes_292 ?_
                        refine lv_if_gt (tgt := 304) hx hb dX4_goes_293 (by decide) (fun c293 => ?_) (fun c293 => ?_)
                        · have h293 := zlc_gt.mp c293
                          refine lv_ldc (v := (-2147483648 : Int32)) hx hb hown (hts _ w_X4_goes__constant_RX4_64_2147483648__c0c951) dX4_goes_304 ?_
                          exact ret _ _ _ (by rw [hst, if_neg (fun q => absurd (zlim.mp q).2 (by omega))]) dX4_goes_306
                        · have h293 := Int.not_lt.mp (fun q => c293 (zlc_gt.mpr q))
                          refine lv_lload_n hx hb dX4_goes_296 rfl (lv_at hl 0 rfl) ?_
                          refine lv_ldc2 (v := -1000000) hx hb hown (hts _ w_X4_goes__constantLong_RX4_67_1000000__864ecf) dX4_goes_297 ?_
                          refine W.lcmp hx hb dX4_goes_300 ?_
                          refine lv_if_ge (tgt := 307) hx hb dX4_goes_301 (by decide) (fun c301 => ?_) (fun c301 => ?_)
                          · have h301 := zlc_ge.mp c301
                            refine lv_goto (tgt := 5) hx hb dX4_goes_307 (by decide) ?_
                            exact ih5 (j + 1) ((nI (xn % 1000)) - (nI 500)) ls (by omega) (by omega) ⟨h301, h293⟩ (by rw [hst, if_pos (zlim.mpr ⟨h301, h293⟩), et2]) (lv_sub hl [5, 6, 7, 0, 1] rfl)
                          · have h301 := fun q => c301 (zlc_ge.mpr q)
                            refine lv_ldc (v := (-2147483648 : Int32)) hx hb hown (hts _ w_X4_goes__constant_RX4_64_2147483648__c0c951) dX4_goes_304 ?_
                            exact ret _ _ _ (by rw [hst, if_neg (fun q => h301 (zlim.mp q).1)]) dX4_goes_306
                    · by_cases k65_7 : (nI (xn / 1000)) = (7 : Int32)
                      · refine lv_tableIn (tgt := 211) hx hb dX4_goes_65 (by rw [k65_7]; decide) (by rw [k65_7]; decide) (by rw [k65_7]; rfl) (by decide) ?_
                        have hop : nI xn / nI 1000 = (7 : Int32) := hdv.trans k65_7
                        have hst : zwk (zG gv 31) st f r (L f) 0 false 0 = zwk (zG gv 31) st f r t (j + 1) (decide (u < ((nI (xn % 1000)) - (nI 500)))) u := by rw [hz, et, zwk, ex, if_pos (show nI xn / nI 1000 = nI 7 from hop), hza]
                        refine lv_iload hx hb dX4_goes_211 (lv_at hl 0 rfl) ?_
                        refine lv_lload_n hx hb dX4_goes_213 rfl (lv_at hl 7 rfl) ?_
                        refine lv_iload hx hb dX4_goes_214 (lv_at hl 1 rfl) ?_
                        refine lv_i2l (v := ((nI (xn % 1000)) - (nI 500)).toInt64) hx hb dX4_goes_216 rfl ?_
                        refine W.lcmp hx hb dX4_goes_217 ?_
                        refine lv_if_ge (tgt := 225) hx hb dX4_goes_218 (by decide) (fun c218 => ?_) (fun c218 => ?_)
                        · refine lv_iconst (v := (0 : Int32)) hx hb dX4_goes_225 (by decide) ?_
                          refine lv_iadd hx hb dX4_goes_226 ?_
                          refine zq_te (y := (nI (j + 1))) (Int32.add_zero _) ?_
                          refine lv_istore (lv' := [(5, .int (nI (j + 1))), (8, .int ((nI (xn % 1000)) - (nI 500))), (7, .int (nI (xn % 1000))), (6, .int (nI (xn / 1000))), (0, .ref (ad 0)), (1, .int (nI f)), (2, .int (nI r)), (3, .long u.toInt64)]) hx hb dX4_goes_227 hl (by decide) rfl (fun ls hl => ?_)
                          refine lv_goto (tgt := 288) hx hb dX4_goes_229 (by decide) ?_
                          refine lv_lload_n hx hb dX4_goes_288 rfl (lv_at hl 7 rfl) ?_
                          refine lv_ldc2 (v := 1000000) hx hb hown (hts _ w_X4_goes__constantLong_RX4_65_1000000__5a6e97) dX4_goes_289 ?_
                          refine W.lcmp hx hb dX4_goes_292 ?_
                          refine lv_if_gt (tgt := 304) hx hb dX4_goes_293 (by decide) (fun c293 => absurd (zlc_gt.mp c293) (by omega)) (fun c293 => ?_)
                          refine lv_lload_n hx hb dX4_goes_296 rfl (lv_at hl 7 rfl) ?_
                          refine lv_ldc2 (v := -1000000) hx hb hown (hts _ w_X4_goes__constantLong_RX4_67_1000000__864ecf) dX4_goes_297 ?_
                          refine W.lcmp hx hb dX4_goes_300 ?_
                          refine lv_if_ge (tgt := 307) hx hb dX4_goes_301 (by decide) (fun c301 => ?_) (fun c301 => absurd (zlc_ge.mpr (by omega)) c301)
                          refine lv_goto (tgt := 5) hx hb dX4_goes_307 (by decide) ?_
                          exact ih5 (j + 1) u ls (by omega) (by omega) hu (by rw [hst, decide_eq_false (zl_ge.mp c218), et2]) (lv_sub hl [4, 5, 6, 7, 0] rfl)
                        · refine lv_iconst (v := (1 : Int32)) hx hb dX4_goes_221 (by decide) ?_
                          refine lv_goto (tgt := 226) hx hb dX4_goes_222 (by decide) ?_
                          refine lv_iadd hx hb dX4_goes_226 ?_
                          refine zq_te (y := (nI (j + 1 + 1))) (nI_1 _) ?_
                          refine lv_istore (lv' := [(5, .int (nI (j + 1 + 1))), (8, .int ((nI (xn % 1000)) - (nI 500))), (7, .int (nI (xn % 1000))), (6, .int (nI (xn / 1000))), (0, .ref (ad 0)), (1, .int (nI f)), (2, .int (nI r)), (3, .long u.toInt64)]) hx hb dX4_goes_227 hl (by decide) rfl (fun ls hl => ?_)
                          refine lv_goto (tgt := 288) hx hb dX4_goes_229 (by decide) ?_
                          refine lv_lload_n hx hb dX4_goes_288 rfl (lv_at hl 7 rfl) ?_
                          refine lv_ldc2 (v := 1000000) hx hb hown (hts _ w_X4_goes__constantLong_RX4_65_1000000__5a6e97) dX4_goes_289 ?_
                          refine W.lcmp hx hb dX4_goes_292 ?_
                          refine lv_if_gt (tgt := 304) hx hb dX4_goes_293 (by decide) (fun c293 => absurd (zlc_gt.mp c293) (by omega)) (fun c293 => ?_)
                          refine lv_lload_n hx hb dX4_goes_296 rfl (lv_at hl 7 rfl) ?_
                          refine lv_ldc2 (v := -1000000) hx hb hown (hts _ w_X4_goes__constantLong_RX4_67_1000000__864ecf) dX4_goes_297 ?_
                          refine W.lcmp hx hb dX4_goes_300 ?_
                          refine lv_if_ge (tgt := 307) hx hb dX4_goes_301 (by decide) (fun c301 => ?_) (fun c301 => absurd (zlc_ge.mpr (by omega)) c301)
                          refine lv_goto (tgt := 5) hx hb dX4_goes_307 (by decide) ?_
                          exact ih5 (j + 1 + 1) u ls (by omega) (by omega) hu (by rw [hst, decide_eq_true (Decidable.not_not.mp (fun q => c218 (zl_ge.mpr q))), zwk_skip, show L f - (j + 1 + 1) = t - 1 by omega]) (lv_sub hl [4, 5, 6, 7, 0] rfl)
                      · by_cases k65_8 : (nI (xn / 1000)) = (8 : Int32)
                        · refine lv_tableIn (tgt := 232) hx hb dX4_goes_65 (by rw [k65_8]; decide) (by rw [k65_8]; decide) (by rw [k65_8]; rfl) (by decide) ?_
                          have hop : nI xn / nI 1000 = (8 : Int32) := hdv.trans k65_8
                          have h7 : ¬ nI xn / nI 1000 = nI 7 := by rw [hop]; decide
                          have eU : zaf (zG gv 31) (nI xn) u r = zNO := by simp [zaf, hop, hza]
                          have hst : zwk (zG gv 31) st f r (L f) 0 false 0 = zNO := by rw [hz, et, zwk, ex, if_neg h7, eU, if_neg (by decide)]
                          refine lv_ldc (v := (-2147483648 : Int32)) hx hb hown (hts _ w_X4_goes__constant_RX4_64_2147483648__c0c951) dX4_goes_232 ?_
                          exact ret _ _ _ (by rw [hst]) dX4_goes_234
                        · by_cases k65_9 : (nI (xn / 1000)) = (9 : Int32)
                          · refine lv_tableIn (tgt := 235) hx hb dX4_goes_65 (by rw [k65_9]; decide) (by rw [k65_9]; decide) (by rw [k65_9]; rfl) (by decide) ?_
                            have hop : nI xn / nI 1000 = (9 : Int32) := hdv.trans k65_9
                            have ha9 := hx9 (zeq (show nI (xn / 1000) = nI 9 from k65_9))
                            have h7 : ¬ nI xn / nI 1000 = nI 7 := by rw [hop]; decide
                            have eU : zaf (zG gv 31) (nI xn) u r = (zG gv 31 (256 * (xn % 1000) + r)) := by simp [zaf, hop, hza, zgp_in (show xn % 1000 < 6 by omega)]
                            have hst : zwk (zG gv 31) st f r (L f) 0 false 0 = if (-1000000 : Int32) ≤ (zG gv 31 (256 * (xn % 1000) + r)) ∧ (zG gv 31 (256 * (xn % 1000) + r)) ≤ 1000000 then zwk (zG gv 31) st f r t (j + 1) false (zG gv 31 (256 * (xn % 1000) + r)) else zNO := by rw [hz, et, zwk, ex, if_neg h7, eU]
                            refine lv_aload_n hx hb dX4_goes_235 rfl (lv_at hl 4 rfl) ?_
                            refine zq_get hx hb hts in_X4_goes_X4 hown hK hP 0 rfl rfl 3 (by decide) (hts _ w_X4_goes__fieldLink_RX4_17_WordsBesideModel_gives_I__d93a8a) rfl dX4_goes_236 ?_
                            refine lv_bipush (v := (nI 31)) hx hb dX4_goes_239 (by decide) ?_
                            refine lv_iload hx hb dX4_goes_241 (lv_at hl 2 rfl) ?_
                            refine lv_iload_n hx hb dX4_goes_243 rfl (lv_at hl 6 rfl) ?_
                            refine zq_cS (rest := [.ref (ad 3)]) ⟨hx, hb, hml, hown, hts⟩ (c_X4_at l D cI cZ cW cC 31 (xn % 1000) r) (va_cwS 3 hts gX4_goes_X4_at rfl rfl rfl (by decide +kernel) ⟨Nat.le_of_ble_eq_true rfl, Nat.le_of_ble_eq_true rfl⟩) hK (fun k q h => by simp at h) rfl hl.1 rfl (Nat.le_of_ble_eq_true rfl) dX4_goes_244 ⟨Nat.le_of_ble_eq_true rfl, Nat.le_of_ble_eq_true rfl⟩ (fun v hv => ?_)
                            obtain rfl := hv
                            refine W.eq (g2 := F0 m 247 ls [.int (nI (1536 * 31 + (256 * (xn % 1000) + r))), .ref (ad 3)]) rfl ?_
                            refine zq_ild hx hb hK hP 3 rfl (1536 * 31 + (256 * (xn % 1000) + r)) rfl (by omega) (by decide) dX4_goes_247 ?_
                            refine zq_te (y := (zG gv 31 (256 * (xn % 1000) + r))) rfl ?_
                            refine lv_ldc (v := (-2147483648 : Int32)) hx hb hown (hts _ w_X4_goes__constant_RX4_64_2147483648__c0c951) dX4_goes_248 ?_
                            refine lv_icmp_ne (tgt := 256) hx hb dX4_goes_250 (by decide) (fun c250 => ?_) (fun c250 => ?_)
                            · refine lv_aload_n hx hb dX4_goes_256 rfl (lv_at hl 4 rfl) ?_
                              refine zq_get hx hb hts in_X4_goes_X4 hown hK hP 0 rfl rfl 3 (by decide) (hts _ w_X4_goes__fieldLink_RX4_17_WordsBesideModel_gives_I__d93a8a) rfl dX4_goes_257 ?_
                              refine lv_bipush (v := (nI 31)) hx hb dX4_goes_260 (by decide) ?_
                              refine lv_iload hx hb dX4_goes_262 (lv_at hl 2 rfl) ?_
                              refine lv_iload_n hx hb dX4_goes_264 rfl (lv_at hl 6 rfl) ?_
                              refine zq_cS (rest := [.ref (ad 3)]) ⟨hx, hb, hml, hown, hts⟩ (c_X4_at l D cI cZ cW cC 31 (xn % 1000) r) (va_cwS 3 hts gX4_goes_X4_at rfl rfl rfl (by decide +kernel) ⟨Nat.le_of_ble_eq_true rfl, Nat.le_of_ble_eq_true rfl⟩) hK (fun k q h => by simp at h) rfl hl.1 rfl (Nat.le_of_ble_eq_true rfl) dX4_goes_265 ⟨Nat.le_of_ble_eq_true rfl, Nat.le_of_ble_eq_true rfl⟩ (fun v hv => ?_)
                              obtain rfl := hv
                              refine W.eq (g2 := F0 m 268 ls [.int (nI (1536 * 31 + (256 * (xn % 1000) + r))), .ref (ad 3)]) rfl ?_
                              refine zq_ild hx hb hK hP 3 rfl (1536 * 31 + (256 * (xn % 1000) + r)) rfl (by omega) (by decide) dX4_goes_268 ?_
                              refine zq_te (y := (zG gv 31 (256 * (xn % 1000) + r))) rfl ?_
                              refine lv_i2l (v := (zG gv 31 (256 * (xn % 1000) + r)).toInt64) hx hb dX4_goes_269 rfl ?_
                              refine lv_lstore_n (lv' := [(3, .long ((zG gv 31 (256 * (xn % 1000) + r)).toInt64)), (5, .int (nI (j + 1))), (8, .int ((nI (xn % 1000)) - (nI 500))), (7, .int (nI (xn % 1000))), (6, .int (nI (xn / 1000))), (0, .ref (ad 0)), (1, .int (nI f)), (2, .int (nI r))]) hx hb dX4_goes_270 rfl hl (by decide) rfl (fun ls hl => ?_)
                              refine lv_goto (tgt := 288) hx hb dX4_goes_271 (by decide) ?_
                              refine lv_lload_n hx hb dX4_goes_288 rfl (lv_at hl 0 rfl) ?_
                              refine lv_ldc2 (v := 1000000) hx hb hown (hts _ w_X4_goes__constantLong_RX4_65_1000000__5a6e97) dX4_goes_289 ?_
                              refine W.lcmp hx hb dX4_goes_292 ?_
                              refine lv_if_gt (tgt := 304) hx hb dX4_goes_293 (by decide) (fun c293 => ?_) (fun c293 => ?_)
                              · have h293 := zlc_gt.mp c293
                                refine lv_ldc (v := (-2147483648 : Int32)) hx hb hown (hts _ w_X4_goes__constant_RX4_64_2147483648__c0c951) dX4_goes_304 ?_
                                exact ret _ _ _ (by rw [hst, if_neg (fun q => absurd (zlim.mp q).2 (by omega))]) dX4_goes_306
                              · have h293 := Int.not_lt.mp (fun q => c293 (zlc_gt.mpr q))
                                refine lv_lload_n hx hb dX4_goes_296 rfl (lv_at hl 0 rfl) ?_
                                refine lv_ldc2 (v := -1000000) hx hb hown (hts _ w_X4_goes__constantLong_RX4_67_1000000__864ecf) dX4_goes_297 ?_
                                refine W.lcmp hx hb dX4_goes_300 ?_
                                refine lv_if_ge (tgt := 307) hx hb dX4_goes_301 (by decide) (fun c301 => ?_) (fun c301 => ?_)
                                · have h301 := zlc_ge.mp c301
                                  refine lv_goto (tgt := 5) hx hb dX4_goes_307 (by decide) ?_
                                  exact ih5 (j + 1) (zG gv 31 (256 * (xn % 1000) + r)) ls (by omega) (by omega) ⟨h301, h293⟩ (by rw [hst, if_pos (zlim.mpr ⟨h301, h293⟩), et2]) (lv_sub hl [5, 6, 7, 0, 1] rfl)
                                · have h301 := fun q => c301 (zlc_ge.mpr q)
                                  refine lv_ldc (v := (-2147483648 : Int32)) hx hb hown (hts _ w_X4_goes__constant_RX4_64_2147483648__c0c951) dX4_goes_304 ?_
                                  exact ret _ _ _ (by rw [hst, if_neg (fun q => h301 (zlim.mp q).1)]) dX4_goes_306
                            · refine lv_ldc (v := (-2147483648 : Int32)) hx hb hown (hts _ w_X4_goes__constant_RX4_64_2147483648__c0c951) dX4_goes_253 ?_
                              exact ret _ _ _ (by rw [hst, c250, if_neg (by decide)]) dX4_goes_255
                          · refine lv_tableOut (tgt := 274) hx hb dX4_goes_65 (by have k65_0T := lv_neT k65_0 (a := 0) rfl; have k65_1T := lv_neT k65_1 (a := 1) rfl; have k65_2T := lv_neT k65_2 (a := 2) rfl; have k65_3T := lv_neT k65_3 (a := 3) rfl; have k65_4T := lv_neT k65_4 (a := 4) rfl; have k65_5T := lv_neT k65_5 (a := 5) rfl; have k65_6T := lv_neT k65_6 (a := 6) rfl; have k65_7T := lv_neT k65_7 (a := 7) rfl; have k65_8T := lv_neT k65_8 (a := 8) rfl; have k65_9T := lv_neT k65_9 (a := 9) rfl; omega) (by decide) ?_
                            have n0 : xn / 1000 ≠ 0 := fun q => k65_0 (by rw [q]; rfl)
                            have n1 : xn / 1000 ≠ 1 := fun q => k65_1 (by rw [q]; rfl)
                            have n2 : xn / 1000 ≠ 2 := fun q => k65_2 (by rw [q]; rfl)
                            have n3 : xn / 1000 ≠ 3 := fun q => k65_3 (by rw [q]; rfl)
                            have n4 : xn / 1000 ≠ 4 := fun q => k65_4 (by rw [q]; rfl)
                            have n5 : xn / 1000 ≠ 5 := fun q => k65_5 (by rw [q]; rfl)
                            have n6 : xn / 1000 ≠ 6 := fun q => k65_6 (by rw [q]; rfl)
                            have n7 : xn / 1000 ≠ 7 := fun q => k65_7 (by rw [q]; rfl)
                            have n8 : xn / 1000 ≠ 8 := fun q => k65_8 (by rw [q]; rfl)
                            have n9 : xn / 1000 ≠ 9 := fun q => k65_9 (by rw [q]; rfl)
                            have ho10 : xn / 1000 = 10 := by omega
                            have ha10 := hx10 ho10
                            have hop : nI xn / nI 1000 = (10 : Int32) := by rw [hdv, ho10]; rfl
                            have hnle : ¬ nI (xn % 1000) ≤ 0 := nI_nle (by omega) (by omega)
                            have hy1 : (nI (xn % 1000)).toInt = ((xn % 1000 : Nat) : Int) := nI_toInt (by omega)
                            have h7 : ¬ nI xn / nI 1000 = nI 7 := by rw [hop]; decide
                            have eU : zaf (zG gv 31) (nI xn) u r = (zfm u (nI (xn % 1000))) := by simp [zaf, hop, hza, hnle]
                            have hst : zwk (zG gv 31) st f r (L f) 0 false 0 = if (-1000000 : Int32) ≤ (zfm u (nI (xn % 1000))) ∧ (zfm u (nI (xn % 1000))) ≤ 1000000 then zwk (zG gv 31) st f r t (j + 1) false (zfm u (nI (xn % 1000))) else zNO := by rw [hz, et, zwk, ex, if_neg h7, eU]
                            refine lv_lload_n hx hb dX4_goes_274 rfl (lv_at hl 7 rfl) ?_
                            refine lv_iload hx hb dX4_goes_275 (lv_at hl 2 rfl) ?_
                            refine lv_i2l (v := (nI (xn % 1000)).toInt64) hx hb dX4_goes_277 rfl ?_
                            refine lv_lrem hx hb dX4_goes_278 (zne64 (by omega)) ?_
                            refine lv_iload hx hb dX4_goes_279 (lv_at hl 2 rfl) ?_
                            refine lv_i2l (v := (nI (xn % 1000)).toInt64) hx hb dX4_goes_281 rfl ?_
                            refine lv_ladd hx hb dX4_goes_282 ?_
                            refine lv_iload hx hb dX4_goes_283 (lv_at hl 2 rfl) ?_
                            refine lv_i2l (v := (nI (xn % 1000)).toInt64) hx hb dX4_goes_285 rfl ?_
                            refine lv_lrem hx hb dX4_goes_286 (zne64 (by omega)) ?_
                            refine zq_tl (y := (zfm u (nI (xn % 1000))).toInt64) (zfm64 (by omega) (by omega) (by omega) (by omega)) ?_
                            refine lv_lstore_n (lv' := [(3, .long ((zfm u (nI (xn % 1000))).toInt64)), (5, .int (nI (j + 1))), (8, .int ((nI (xn % 1000)) - (nI 500))), (7, .int (nI (xn % 1000))), (6, .int (nI (xn / 1000))), (0, .ref (ad 0)), (1, .int (nI f)), (2, .int (nI r))]) hx hb dX4_goes_287 rfl hl (by decide) rfl (fun ls hl => ?_)
                            refine lv_lload_n hx hb dX4_goes_288 rfl (lv_at hl 0 rfl) ?_
                            refine lv_ldc2 (v := 1000000) hx hb hown (hts _ w_X4_goes__constantLong_RX4_65_1000000__5a6e97) dX4_goes_289 ?_
                            refine W.lcmp hx hb dX4_goes_292 ?_
                            refine lv_if_gt (tgt := 304) hx hb dX4_goes_293 (by decide) (fun c293 => ?_) (fun c293 => ?_)
                            · have h293 := zlc_gt.mp c293
                              refine lv_ldc (v := (-2147483648 : Int32)) hx hb hown (hts _ w_X4_goes__constant_RX4_64_2147483648__c0c951) dX4_goes_304 ?_
                              exact ret _ _ _ (by rw [hst, if_neg (fun q => absurd (zlim.mp q).2 (by omega))]) dX4_goes_306
                            · have h293 := Int.not_lt.mp (fun q => c293 (zlc_gt.mpr q))
                              refine lv_lload_n hx hb dX4_goes_296 rfl (lv_at hl 0 rfl) ?_
                              refine lv_ldc2 (v := -1000000) hx hb hown (hts _ w_X4_goes__constantLong_RX4_67_1000000__864ecf) dX4_goes_297 ?_
                              refine W.lcmp hx hb dX4_goes_300 ?_
                              refine lv_if_ge (tgt := 307) hx hb dX4_goes_301 (by decide) (fun c301 => ?_) (fun c301 => ?_)
                              · have h301 := zlc_ge.mp c301
                                refine lv_goto (tgt := 5) hx hb dX4_goes_307 (by decide) ?_
                                exact ih5 (j + 1) (zfm u (nI (xn % 1000))) ls (by omega) (by omega) ⟨h301, h293⟩ (by rw [hst, if_pos (zlim.mpr ⟨h301, h293⟩), et2]) (lv_sub hl [5, 6, 7, 0, 1] rfl)
                              · have h301 := fun q => c301 (zlc_ge.mpr q)
                                refine lv_ldc (v := (-2147483648 : Int32)) hx hb hown (hts _ w_X4_goes__constant_RX4_64_2147483648__c0c951) dX4_goes_304 ?_
                                exact ret _ _ _ (by rw [hst, if_neg (fun q => h301 (zlim.mp q).1)]) dX4_goes_306
  exact loop5 ((L f + 2) + 1) 0 0 ls (by omega) (by omega) (by decide) rfl (lv_sub hl [2, 3, 4, 1, 0] rfl)

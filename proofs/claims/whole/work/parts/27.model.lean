/-! the reference: its start, mends of kinds 0, 3, 6 -/
def zSp (G : Nat → Int32) (f j : Nat) (a1 a2 : Int32) : Prop := (zlst G f j = zNO ∧ zmst G f j = zNO ∧ a1 = 1000001 ∧ a2 = -1000001) ∨ (¬ zlst G f j = zNO ∧ ¬ zmst G f j = zNO ∧ a1 = zlst G f j ∧ a2 = zmst G f j)
theorem znNO {x : Int32} : ¬ x < zNO := by
  rw [Int32.lt_iff_toInt_lt]
  have := fb_rng x
  rw [show (zNO).toInt = -2147483648 from rfl]
  omega
theorem zgtNO {x : Int32} (h : ¬ x = zNO) : zNO < x := by
  rcases Int32.lt_or_le zNO x with q | q
  · exact q
  · exact absurd (Int32.le_antisymm q (Int32.not_lt.mp znNO)) h
theorem zSp_n {G : Nat → Int32} {f j : Nat} {a1 a2 : Int32} (h : zSp G f j a1 a2) (hv : G (256 * f + j) = zNO) : zSp G f (j + 1) a1 a2 := by
  have e1 : zlst G f (j + 1) = zlst G f j := by rw [zlst, if_neg (fun q => q.1 hv)]
  have e2 : zmst G f (j + 1) = zmst G f j := by rw [zmst, if_neg (by rw [hv]; exact znNO)]
  unfold zSp
  rw [e1, e2]
  exact h
theorem zSp_s {G : Nat → Int32} {f j : Nat} {a1 a2 : Int32} (h : zSp G f j a1 a2) (hv : ¬ G (256 * f + j) = zNO) (hb : -1000000 ≤ (G (256 * f + j)).toInt ∧ (G (256 * f + j)).toInt ≤ 1000000) : zSp G f (j + 1) (if a1 ≤ G (256 * f + j) then a1 else G (256 * f + j)) (if G (256 * f + j) ≤ a2 then a2 else G (256 * f + j)) := by
  rcases h with ⟨h1, h2, h3, h4⟩ | ⟨h1, h2, h3, h4⟩
  · have e1 : zlst G f (j + 1) = G (256 * f + j) := by rw [zlst, if_pos ⟨hv, Or.inl h1⟩]
    have e2 : zmst G f (j + 1) = G (256 * f + j) := by rw [zmst, h2, if_pos (zgtNO hv)]
    right
    rw [e1, e2]
    refine ⟨hv, hv, ?_, ?_⟩
    · rw [if_neg]
      rw [h3, Int32.le_iff_toInt_le]
      rw [show (1000001 : Int32).toInt = 1000001 from rfl]
      omega
    · rw [if_neg]
      rw [h4, Int32.le_iff_toInt_le]
      rw [show (-1000001 : Int32).toInt = -1000001 from rfl]
      omega
  · right
    have e2 : zmst G f (j + 1) = if G (256 * f + j) ≤ a2 then a2 else G (256 * f + j) := by
      rw [zmst, ← h4]
      by_cases q : a2 < G (256 * f + j)
      · rw [if_pos q, if_neg (Int32.not_le.mpr q)]
      · rw [if_neg q, if_pos (Int32.not_lt.mp q)]
    have e1 : zlst G f (j + 1) = if a1 ≤ G (256 * f + j) then a1 else G (256 * f + j) := by
      rw [zlst, ← h3]
      by_cases q : G (256 * f + j) < a1
      · rw [if_pos ⟨hv, Or.inr q⟩, if_neg (Int32.not_le.mpr q)]
      · rw [if_neg (fun z => z.2.elim (fun y => h1 (h3 ▸ y)) q), if_pos (Int32.not_lt.mp q)]
    refine ⟨?_, ?_, e1.symm, e2.symm⟩
    · rw [e1]
      split
      · rw [h3]; exact h1
      · exact hv
    · rw [e2]
      split
      · rw [h4]; exact h2
      · exact hv
def zdvd (G : Nat → Int32) (f P : Nat) : Nat → Bool := fun r => decide (G (256 * f + r) = zNO ∨ G (256 * f + r) - G (256 * f + r) / nI P * nI P = 0)
theorem zrem0 {x : Int32} {P : Nat} (h1 : -1000000 ≤ x.toInt) (h2 : x.toInt ≤ 1000000) (hP : 1 ≤ P) (hP2 : P ≤ 1000) : x - x / nI P * nI P = 0 ↔ P ∣ x.toInt.natAbs := by
  have hy : (nI P).toInt = (P : Int) := nI_toInt (by omega)
  have e := zremI (x := x) (y := nI P) (by omega) (by omega) (by omega) (by omega)
  have e3 := Int.natAbs_tmod x.toInt (nI P).toInt
  rw [hy, Int.natAbs_natCast] at e3
  rw [← Int32.toInt_inj, e, show (0 : Int32).toInt = 0 from rfl, hy]
  constructor
  · intro q
    rw [q] at e3
    exact Nat.dvd_of_mod_eq_zero (by simpa using e3.symm)
  · intro q
    rw [Nat.mod_eq_zero_of_dvd q] at e3
    exact Int.natAbs_eq_zero.mp e3
theorem zgc_dvd {G : Nat → Int32} {f P : Nat} (hB : zB G 1536) (hf : f < 6) (hP : 1 ≤ P) (hP2 : P ≤ 1000) : ∀ n, n ≤ 256 → (P ∣ zgc G f n ↔ ∀ q, q < n → zdvd G f P q = true)
  | 0, _ => ⟨fun _ q hq => absurd hq (Nat.not_lt_zero q), fun _ => by rw [zgc]; exact Nat.dvd_zero P⟩
  | n + 1, hn => by
    have ih := zgc_dvd hB hf hP hP2 n (by omega)
    rw [zgc]
    by_cases h : G (256 * f + n) = zNO
    · rw [if_pos h, ih]
      constructor
      · intro a q hq
        rcases Nat.lt_or_ge q n with z | z
        · exact a q z
        · have : q = n := by omega
          subst this
          simp [zdvd, h]
      · exact fun a q hq => a q (by omega)
    · rw [if_neg h, Nat.dvd_gcd_iff, ih]
      have hb := (hB (256 * f + n) (by omega)).resolve_left h
      have z0 := zrem0 hb.1 hb.2 hP hP2
      constructor
      · rintro ⟨a, b⟩ q hq
        rcases Nat.lt_or_ge q n with z | z
        · exact b q z
        · have : q = n := by omega
          subst this
          simp [zdvd, z0.mpr a]
      · intro a
        have an := a n (by omega)
        refine ⟨z0.mp ?_, fun q hq => a q (by omega)⟩
        simpa [zdvd, h] using an
theorem zgc_mod {G : Nat → Int32} {f P : Nat} (hB : zB G 1536) (hf : f < 6) (hP : 1 ≤ P) (hP2 : P ≤ 1000) : zgc G f 256 % P = 0 ↔ ∀ q, q < 256 → zdvd G f P q = true := by
  rw [← zgc_dvd hB hf hP hP2 256 (by omega)]
  exact ⟨Nat.dvd_of_mod_eq_zero, Nat.mod_eq_zero_of_dvd⟩
def zRF (G : Nat → Int32) (f : Nat) : Int32 := if fb_ct (zref G f) 256 = 256 - fa_first (zref G f) 256 / 16 * 16 then nI (fa_first (zref G f) 256 / 16) else zNO
/-- held as a claim of kind 6 with p -/
def zh6 (G : Nat → Int32) (f p : Nat) : Prop := ∀ r, r < 256 → (zref G f r = true ↔ p ≤ r / 16)
theorem zct_ge (p : Nat) : ∀ n, fb_ct (fun r => decide (p ≤ r)) n = n - p
  | 0 => by simp [fb_ct]
  | n + 1 => by
    rw [fb_ct_succ, zct_ge p n]
    by_cases h : p ≤ n
    · simp [h]; omega
    · simp [h]; omega
theorem zh6_y {G : Nat → Int32} {f p : Nat} (hp : p ≤ 16) (h : zh6 G f p) : zRF G f = nI p := by
  have e1 : fa_first (zref G f) 256 / 16 = p := by
    rcases Nat.lt_or_ge p 16 with q | q
    · rw [zfirst_eq (k := 16 * p) (by omega) ((h _ (by omega)).mpr (by omega)) (fun j hj => by
        rcases hz : zref G f j with _ | _
        · rfl
        · have := (h j (by omega)).mp hz
          omega)]
      omega
    · rw [zfirst_none (fun j hj => by
        rcases hz : zref G f j with _ | _
        · rfl
        · have := (h j (by omega)).mp hz
          omega)]
      omega
  have e2 : fb_ct (zref G f) 256 = 256 - 16 * p := by
    rw [← zct_ge (16 * p) 256]
    apply fb_ct_cong
    intro r hr
    rcases hz : zref G f r with _ | _
    · have : ¬ p ≤ r / 16 := fun q => by
        have := (h r hr).mpr q
        rw [hz] at this
        cases this
      simp
      omega
    · have := (h r hr).mp hz
      simp
      omega
  unfold zRF
  rw [e1, e2, if_pos (by omega)]
theorem zh6_n {G : Nat → Int32} {f : Nat} (h : ∀ p, p ≤ 16 → ¬ zh6 G f p) : zRF G f = zNO := by
  unfold zRF
  rw [if_neg]
  intro e
  have hl := fa_first_le (zref G f) 256
  refine h (fa_first (zref G f) 256 / 16) (by omega) ?_
  have key : ∀ r, r < 256 → zref G f r = true → 16 * (fa_first (zref G f) 256 / 16) ≤ r := fun r hr hz => by
    rcases Nat.lt_or_ge r (fa_first (zref G f) 256) with q | q
    · have := fa_first_no (zref G f) 256 r q
      rw [hz] at this
      cases this
    · omega
  intro r hr
  constructor
  · intro hz
    have := key r hr hz
    omega
  · intro hp
    rcases hz : zref G f r with _ | _
    · exfalso
      have h1 : fb_ct (zref G f) 256 ≤ fb_ct (fun k => if k = r then false else decide (16 * (fa_first (zref G f) 256 / 16) ≤ k)) 256 := by
        apply fb_ct_sub
        intro k hk hk2
        by_cases e2 : k = r
        · subst e2
          rw [hz] at hk2
          cases hk2
        · simp [e2]
          exact key k hk hk2
      have h2 := fb_ct_upd (fun k => decide (16 * (fa_first (zref G f) 256 / 16) ≤ k)) false hr
      rw [zct_ge, if_pos (by simp; omega)] at h2
      simp only [Bool.false_eq_true, if_false, Nat.add_zero] at h2
      omega
    · rfl
theorem zden6 {G : Nat → Int32} {f p : Nat} {kd q : Int32} (hk : kd = 6) (hp : p ≤ 16) : zheld (zden G f kd (nI p) q) = true ↔ zh6 G f p := by
  unfold zheld
  rw [decide_eq_true_eq, fb_ct_zero]
  have key : ∀ r, r < 256 → (zden G f kd (nI p) q r = false ↔ (zref G f r = true ↔ p ≤ r / 16)) := fun r hr => by
    have h1 : (nI (r / 16) < nI p) ↔ r / 16 < p := nI_ltI (by omega) (by omega)
    have h2 : zden G f kd (nI p) q r = decide (G (256 * f + r) = zNO ↔ nI (r / 16) < nI p) := by
      simp [zden, hk]
    rw [h2, decide_eq_false_iff_not, h1]
    unfold zref
    rw [decide_eq_true_eq]
    by_cases a : G (256 * f + r) = zNO <;> by_cases b : r / 16 < p <;> simp [a, b] <;> omega
  exact ⟨fun h r hr => (key r hr).mp (h r hr), fun h r hr => (key r hr).mpr (h r hr)⟩
theorem zlst_le {G : Nat → Int32} {f : Nat} (hB : zB G 1536) (hf : f < 6) (h : ¬ zlst G f 256 = zNO) : zlst G f 256 ≤ 1000000 := by
  have key : ∀ n, n ≤ 256 → zlst G f n = zNO ∨ ∃ q, q < n ∧ zlst G f n = G (256 * f + q) ∧ ¬ G (256 * f + q) = zNO := by
    intro n
    induction n with
    | zero => intro _; exact Or.inl rfl
    | succ n ih =>
      intro hn
      rw [zlst]
      split
      · rename_i hc
        exact Or.inr ⟨n, by omega, rfl, hc.1⟩
      · rcases ih (by omega) with q | ⟨q, h1, h2⟩
        · exact Or.inl q
        · exact Or.inr ⟨q, by omega, h2⟩
  rcases key 256 (by omega) with q | ⟨q, h1, h2, h3⟩
  · exact absurd q h
  · rw [h2]
    have := (hB (256 * f + q) (by omega)).resolve_left h3
    rw [Int32.le_iff_toInt_le]
    exact this.2
theorem zSp_t {G : Nat → Int32} {f : Nat} {a1 a2 : Int32} (hB : zB G 1536) (hf : f < 6) (h : zSp G f 256 a1 a2) (hc : (1000000 : Int32) < a1) : zlst G f 256 = zNO := by
  rcases h with ⟨h1, h2, h3, h4⟩ | ⟨h1, h2, h3, h4⟩
  · exact h1
  · exact absurd hc (by rw [h3]; exact Int32.not_lt.mpr (zlst_le hB hf h1))
theorem zSp_f {G : Nat → Int32} {f : Nat} {a1 a2 : Int32} (h : zSp G f 256 a1 a2) (hc : ¬ (1000000 : Int32) < a1) : ¬ zlst G f 256 = zNO ∧ a1 = zlst G f 256 ∧ a2 = zmst G f 256 := by
  rcases h with ⟨h1, h2, h3, h4⟩ | ⟨h1, h2, h3, h4⟩
  · exact absurd (show (1000000 : Int32) < a1 by rw [h3]; decide) hc
  · exact ⟨h1, h3, h4⟩

theorem w_X4_init__arrayClass_boolean_3be308 : (.arrayClass .boolean : Cond) ∈ wsX4_init := by decide +kernel
theorem w_X4_init__arrayClass_int_d160d5 : (.arrayClass .int : Cond) ∈ wsX4_init := by decide +kernel
theorem w_X4_init__code_objectInit_0xb1_1_none_9febdb : (.code objectInit ⟨#[0xb1]⟩ 1 none : Cond) ∈ wsX4_init := by decide +kernel
theorem w_X4_init__constant_RX4_16_49152__3b673e : (.constant RX4 16 (49152) : Cond) ∈ wsX4_init := by decide +kernel
theorem w_X4_init__fieldLink_RX4_13_WordsBesideModel_steps_I__04b4b3 : (.fieldLink RX4 13 "WordsBesideModel" "steps" "[I" : Cond) ∈ wsX4_init := by decide +kernel
theorem w_X4_init__fieldLink_RX4_17_WordsBesideModel_gives_I__d93a8a : (.fieldLink RX4 17 "WordsBesideModel" "gives" "[I" : Cond) ∈ wsX4_init := by decide +kernel
theorem w_X4_init__fieldLink_RX4_20_WordsBesideModel_of_I__9fac8e : (.fieldLink RX4 20 "WordsBesideModel" "of" "[I" : Cond) ∈ wsX4_init := by decide +kernel
theorem w_X4_init__fieldLink_RX4_23_WordsBesideModel_kind_I__cf4f2c : (.fieldLink RX4 23 "WordsBesideModel" "kind" "[I" : Cond) ∈ wsX4_init := by decide +kernel
theorem w_X4_init__fieldLink_RX4_26_WordsBesideModel_first_I__de9671 : (.fieldLink RX4 26 "WordsBesideModel" "first" "[I" : Cond) ∈ wsX4_init := by decide +kernel
theorem w_X4_init__fieldLink_RX4_29_WordsBesideModel_second_I__491129 : (.fieldLink RX4 29 "WordsBesideModel" "second" "[I" : Cond) ∈ wsX4_init := by decide +kernel
theorem w_X4_init__fieldLink_RX4_32_WordsBesideModel_base_I__b13283 : (.fieldLink RX4 32 "WordsBesideModel" "base" "[I" : Cond) ∈ wsX4_init := by decide +kernel
theorem w_X4_init__fieldLink_RX4_35_WordsBesideModel_isMarked_Z__f949ba : (.fieldLink RX4 35 "WordsBesideModel" "isMarked" "[Z" : Cond) ∈ wsX4_init := by decide +kernel
theorem w_X4_init__fieldLink_RX4_39_WordsBesideModel_harms_I__36a1ff : (.fieldLink RX4 39 "WordsBesideModel" "harms" "[I" : Cond) ∈ wsX4_init := by decide +kernel
theorem w_X4_init__fieldLink_RX4_9_WordsBesideModel_longs_I__8385b9 : (.fieldLink RX4 9 "WordsBesideModel" "longs" "[I" : Cond) ∈ wsX4_init := by decide +kernel
theorem w_X4_init__instanceMethod_objectInit_fba9d5 : (.instanceMethod objectInit : Cond) ∈ wsX4_init := by decide +kernel
theorem w_X4_init__methodLink_RX4_1_objectInit_5c115f : (.methodLink RX4 1 objectInit : Cond) ∈ wsX4_init := by decide +kernel
theorem in_X4_init_X4 : ∀ w ∈ wsX40, w ∈ wsX4_init := fun _ h => List.mem_cons_of_mem _ (List.mem_append_right _ h)
set_option maxHeartbeats 4000000 in
set_option maxRecDepth 100000 in
theorem c_X4_init (l : Launch) (D : va_G) (cI cZ cW cC : ClassId) (om : Nat) (sz : Nat) : zq_mu l D cI cZ cW cC yX4_init wsX4_init ({ frames := 1, cells := 10, slots := 49510, locals := 21 } : Room) [.ref om] [(om, .inr (4, [.null, .null, .int 0, .null, .int 0, .null, .null, .null, .null, .null, .null, .int 0, .int 0, .null]))] sz (fun v w1 => v = none ∧ ∃ ad : Nat → Nat, ad 0 = om ∧ w1 = mW cI cZ ad (fun _ => 0) (fun _ => 0) (fun _ => 0) (fun _ => 0) (fun _ => 0) (fun _ => 0) (fun _ => 0) (fun _ => 0) (fun _ => 0) (fun _ => 0) 0 0 0 0) 10 49510 := by
  refine zq_muV (own := RX4) (by decide) rfl rfl (Nat.le_of_ble_eq_true rfl) ?_
  intro p e s m below meth c Q A ls hsz hF hin hA hP hK hD hS hl ret
  obtain ⟨hx, hb, hml, hown, hts⟩ := hF
  have hl : lv_has ls 1 [(0, .ref om)] := hl
  refine lv_aload_n hx hb dX4_init_0 rfl (lv_at hl 0 rfl) ?_
  refine W.objInit hx hb hown (hts _ w_X4_init__methodLink_RX4_1_objectInit_5c115f) (hts _ w_X4_init__instanceMethod_objectInit_fba9d5) (hts _ w_X4_init__code_objectInit_0xb1_1_none_9febdb) rfl (by rw [hml]; exact hl.1) rfl dX4_init_1 (Nat.le_of_ble_eq_true rfl) (Nat.le_of_ble_eq_true rfl) ?_
  refine W.eq (g2 := F0 m 4 ls []) rfl ?_
  refine lv_aload_n hx hb dX4_init_4 rfl (lv_at hl 0 rfl) ?_
  refine lv_bipush (v := (nI 6)) hx hb dX4_init_5 (by decide) ?_
  refine zq_newi hx hb (hts _ w_X4_init__arrayClass_int_d160d5) hK hP hD hS hA 6 rfl (by decide) (Nat.le_of_ble_eq_true rfl) (Nat.le_of_ble_eq_true rfl) dX4_init_7 (fun q7 H hP hD hS => ?_)
  have hP : va_P D vwCl [(om, .inr (4, [.null, .null, .int 0, .null, .int 0, .null, .null, .null, .null, .null, .null, .int 0, .int 0, .null])), (q7, .inl (cI, 6, .inl (fun _ => 0)))] H := hP
  have hD : va_D A [(om, .inr (4, [.null, .null, .int 0, .null, .int 0, .null, .null, .null, .null, .null, .null, .int 0, .int 0, .null])), (q7, .inl (cI, 6, .inl (fun _ => 0)))] := hD
  refine zq_putF hx hb hts in_X4_init_X4 tyX4 tyX4_ok nmX4 hown hK hP hD hS 0 rfl rfl 0 (by decide) (hts _ w_X4_init__fieldLink_RX4_9_WordsBesideModel_longs_I__8385b9) rfl hin rfl rfl rfl (Nat.le_of_ble_eq_true rfl) dX4_init_9 (fun H locs hP hD hS => ?_)
  have hP : va_P D vwCl [(om, .inr (4, [.ref q7, .null, .int 0, .null, .int 0, .null, .null, .null, .null, .null, .null, .int 0, .int 0, .null])), (q7, .inl (cI, 6, .inl (fun _ => 0)))] H := hP
  have hD : va_D A [(om, .inr (4, [.ref q7, .null, .int 0, .null, .int 0, .null, .null, .null, .null, .null, .null, .int 0, .int 0, .null])), (q7, .inl (cI, 6, .inl (fun _ => 0)))] := hD
  refine lv_aload_n hx hb dX4_init_12 rfl (lv_at hl 0 rfl) ?_
  refine lv_bipush (v := (nI 72)) hx hb dX4_init_13 (by decide) ?_
  refine zq_newi hx hb (hts _ w_X4_init__arrayClass_int_d160d5) hK hP hD hS hA 72 rfl (by decide) (Nat.le_of_ble_eq_true rfl) (Nat.le_of_ble_eq_true rfl) dX4_init_15 (fun q15 H hP hD hS => ?_)
  have hP : va_P D vwCl [(om, .inr (4, [.ref q7, .null, .int 0, .null, .int 0, .null, .null, .null, .null, .null, .null, .int 0, .int 0, .null])), (q7, .inl (cI, 6, .inl (fun _ => 0))), (q15, .inl (cI, 72, .inl (fun _ => 0)))] H := hP
  have hD : va_D A [(om, .inr (4, [.ref q7, .null, .int 0, .null, .int 0, .null, .null, .null, .null, .null, .null, .int 0, .int 0, .null])), (q7, .inl (cI, 6, .inl (fun _ => 0))), (q15, .inl (cI, 72, .inl (fun _ => 0)))] := hD
  refine zq_putF hx hb hts in_X4_init_X4 tyX4 tyX4_ok nmX4 hown hK hP hD hS 0 rfl rfl 1 (by decide) (hts _ w_X4_init__fieldLink_RX4_13_WordsBesideModel_steps_I__04b4b3) rfl hin rfl rfl rfl (Nat.le_of_ble_eq_true rfl) dX4_init_17 (fun H locs hP hD hS => ?_)
  have hP : va_P D vwCl [(om, .inr (4, [.ref q7, .ref q15, .int 0, .null, .int 0, .null, .null, .null, .null, .null, .null, .int 0, .int 0, .null])), (q7, .inl (cI, 6, .inl (fun _ => 0))), (q15, .inl (cI, 72, .inl (fun _ => 0)))] H := hP
  have hD : va_D A [(om, .inr (4, [.ref q7, .ref q15, .int 0, .null, .int 0, .null, .null, .null, .null, .null, .null, .int 0, .int 0, .null])), (q7, .inl (cI, 6, .inl (fun _ => 0))), (q15, .inl (cI, 72, .inl (fun _ => 0)))] := hD
  refine lv_aload_n hx hb dX4_init_20 rfl (lv_at hl 0 rfl) ?_
  refine lv_ldc (v := (49152 : Int32)) hx hb hown (hts _ w_X4_init__constant_RX4_16_49152__3b673e) dX4_init_21 ?_
  refine zq_newi hx hb (hts _ w_X4_init__arrayClass_int_d160d5) hK hP hD hS hA 49152 rfl (by decide) (Nat.le_of_ble_eq_true rfl) (Nat.le_of_ble_eq_true rfl) dX4_init_23 (fun q23 H hP hD hS => ?_)
  have hP : va_P D vwCl [(om, .inr (4, [.ref q7, .ref q15, .int 0, .null, .int 0, .null, .null, .null, .null, .null, .null, .int 0, .int 0, .null])), (q7, .inl (cI, 6, .inl (fun _ => 0))), (q15, .inl (cI, 72, .inl (fun _ => 0))), (q23, .inl (cI, 49152, .inl (fun _ => 0)))] H := hP
  have hD : va_D A [(om, .inr (4, [.ref q7, .ref q15, .int 0, .null, .int 0, .null, .null, .null, .null, .null, .null, .int 0, .int 0, .null])), (q7, .inl (cI, 6, .inl (fun _ => 0))), (q15, .inl (cI, 72, .inl (fun _ => 0))), (q23, .inl (cI, 49152, .inl (fun _ => 0)))] := hD
  refine zq_putF hx hb hts in_X4_init_X4 tyX4 tyX4_ok nmX4 hown hK hP hD hS 0 rfl rfl 3 (by decide) (hts _ w_X4_init__fieldLink_RX4_17_WordsBesideModel_gives_I__d93a8a) rfl hin rfl rfl rfl (Nat.le_of_ble_eq_true rfl) dX4_init_25 (fun H locs hP hD hS => ?_)
  have hP : va_P D vwCl [(om, .inr (4, [.ref q7, .ref q15, .int 0, .ref q23, .int 0, .null, .null, .null, .null, .null, .null, .int 0, .int 0, .null])), (q7, .inl (cI, 6, .inl (fun _ => 0))), (q15, .inl (cI, 72, .inl (fun _ => 0))), (q23, .inl (cI, 49152, .inl (fun _ => 0)))] H := hP
  have hD : va_D A [(om, .inr (4, [.ref q7, .ref q15, .int 0, .ref q23, .int 0, .null, .null, .null, .null, .null, .null, .int 0, .int 0, .null])), (q7, .inl (cI, 6, .inl (fun _ => 0))), (q15, .inl (cI, 72, .inl (fun _ => 0))), (q23, .inl (cI, 49152, .inl (fun _ => 0)))] := hD
  refine lv_aload_n hx hb dX4_init_28 rfl (lv_at hl 0 rfl) ?_
  refine lv_bipush (v := (nI 40)) hx hb dX4_init_29 (by decide) ?_
  refine zq_newi hx hb (hts _ w_X4_init__arrayClass_int_d160d5) hK hP hD hS hA 40 rfl (by decide) (Nat.le_of_ble_eq_true rfl) (Nat.le_of_ble_eq_true rfl) dX4_init_31 (fun q31 H hP hD hS => ?_)
  have hP : va_P D vwCl [(om, .inr (4, [.ref q7, .ref q15, .int 0, .ref q23, .int 0, .null, .null, .null, .null, .null, .null, .int 0, .int 0, .null])), (q7, .inl (cI, 6, .inl (fun _ => 0))), (q15, .inl (cI, 72, .inl (fun _ => 0))), (q23, .inl (cI, 49152, .inl (fun _ => 0))), (q31, .inl (cI, 40, .inl (fun _ => 0)))] H := hP
  have hD : va_D A [(om, .inr (4, [.ref q7, .ref q15, .int 0, .ref q23, .int 0, .null, .null, .null, .null, .null, .null, .int 0, .int 0, .null])), (q7, .inl (cI, 6, .inl (fun _ => 0))), (q15, .inl (cI, 72, .inl (fun _ => 0))), (q23, .inl (cI, 49152, .inl (fun _ => 0))), (q31, .inl (cI, 40, .inl (fun _ => 0)))] := hD
  refine zq_putF hx hb hts in_X4_init_X4 tyX4 tyX4_ok nmX4 hown hK hP hD hS 0 rfl rfl 5 (by decide) (hts _ w_X4_init__fieldLink_RX4_20_WordsBesideModel_of_I__9fac8e) rfl hin rfl rfl rfl (Nat.le_of_ble_eq_true rfl) dX4_init_33 (fun H locs hP hD hS => ?_)
  have hP : va_P D vwCl [(om, .inr (4, [.ref q7, .ref q15, .int 0, .ref q23, .int 0, .ref q31, .null, .null, .null, .null, .null, .int 0, .int 0, .null])), (q7, .inl (cI, 6, .inl (fun _ => 0))), (q15, .inl (cI, 72, .inl (fun _ => 0))), (q23, .inl (cI, 49152, .inl (fun _ => 0))), (q31, .inl (cI, 40, .inl (fun _ => 0)))] H := hP
  have hD : va_D A [(om, .inr (4, [.ref q7, .ref q15, .int 0, .ref q23, .int 0, .ref q31, .null, .null, .null, .null, .null, .int 0, .int 0, .null])), (q7, .inl (cI, 6, .inl (fun _ => 0))), (q15, .inl (cI, 72, .inl (fun _ => 0))), (q23, .inl (cI, 49152, .inl (fun _ => 0))), (q31, .inl (cI, 40, .inl (fun _ => 0)))] := hD
  refine lv_aload_n hx hb dX4_init_36 rfl (lv_at hl 0 rfl) ?_
  refine lv_bipush (v := (nI 40)) hx hb dX4_init_37 (by decide) ?_
  refine zq_newi hx hb (hts _ w_X4_init__arrayClass_int_d160d5) hK hP hD hS hA 40 rfl (by decide) (Nat.le_of_ble_eq_true rfl) (Nat.le_of_ble_eq_true rfl) dX4_init_39 (fun q39 H hP hD hS => ?_)
  have hP : va_P D vwCl [(om, .inr (4, [.ref q7, .ref q15, .int 0, .ref q23, .int 0, .ref q31, .null, .null, .null, .null, .null, .int 0, .int 0, .null])), (q7, .inl (cI, 6, .inl (fun _ => 0))), (q15, .inl (cI, 72, .inl (fun _ => 0))), (q23, .inl (cI, 49152, .inl (fun _ => 0))), (q31, .inl (cI, 40, .inl (fun _ => 0))), (q39, .inl (cI, 40, .inl (fun _ => 0)))] H := hP
  have hD : va_D A [(om, .inr (4, [.ref q7, .ref q15, .int 0, .ref q23, .int 0, .ref q31, .null, .null, .null, .null, .null, .int 0, .int 0, .null])), (q7, .inl (cI, 6, .inl (fun _ => 0))), (q15, .inl (cI, 72, .inl (fun _ => 0))), (q23, .inl (cI, 49152, .inl (fun _ => 0))), (q31, .inl (cI, 40, .inl (fun _ => 0))), (q39, .inl (cI, 40, .inl (fun _ => 0)))] := hD
  refine zq_putF hx hb hts in_X4_init_X4 tyX4 tyX4_ok nmX4 hown hK hP hD hS 0 rfl rfl 6 (by decide) (hts _ w_X4_init__fieldLink_RX4_23_WordsBesideModel_kind_I__cf4f2c) rfl hin rfl rfl rfl (Nat.le_of_ble_eq_true rfl) dX4_init_41 (fun H locs hP hD hS => ?_)
  have hP : va_P D vwCl [(om, .inr (4, [.ref q7, .ref q15, .int 0, .ref q23, .int 0, .ref q31, .ref q39, .null, .null, .null, .null, .int 0, .int 0, .null])), (q7, .inl (cI, 6, .inl (fun _ => 0))), (q15, .inl (cI, 72, .inl (fun _ => 0))), (q23, .inl (cI, 49152, .inl (fun _ => 0))), (q31, .inl (cI, 40, .inl (fun _ => 0))), (q39, .inl (cI, 40, .inl (fun _ => 0)))] H := hP
  have hD : va_D A [(om, .inr (4, [.ref q7, .ref q15, .int 0, .ref q23, .int 0, .ref q31, .ref q39, .null, .null, .null, .null, .int 0, .int 0, .null])), (q7, .inl (cI, 6, .inl (fun _ => 0))), (q15, .inl (cI, 72, .inl (fun _ => 0))), (q23, .inl (cI, 49152, .inl (fun _ => 0))), (q31, .inl (cI, 40, .inl (fun _ => 0))), (q39, .inl (cI, 40, .inl (fun _ => 0)))] := hD
  refine lv_aload_n hx hb dX4_init_44 rfl (lv_at hl 0 rfl) ?_
  refine lv_bipush (v := (nI 40)) hx hb dX4_init_45 (by decide) ?_
  refine zq_newi hx hb (hts _ w_X4_init__arrayClass_int_d160d5) hK hP hD hS hA 40 rfl (by decide) (Nat.le_of_ble_eq_true rfl) (Nat.le_of_ble_eq_true rfl) dX4_init_47 (fun q47 H hP hD hS => ?_)
  have hP : va_P D vwCl [(om, .inr (4, [.ref q7, .ref q15, .int 0, .ref q23, .int 0, .ref q31, .ref q39, .null, .null, .null, .null, .int 0, .int 0, .null])), (q7, .inl (cI, 6, .inl (fun _ => 0))), (q15, .inl (cI, 72, .inl (fun _ => 0))), (q23, .inl (cI, 49152, .inl (fun _ => 0))), (q31, .inl (cI, 40, .inl (fun _ => 0))), (q39, .inl (cI, 40, .inl (fun _ => 0))), (q47, .inl (cI, 40, .inl (fun _ => 0)))] H := hP
  have hD : va_D A [(om, .inr (4, [.ref q7, .ref q15, .int 0, .ref q23, .int 0, .ref q31, .ref q39, .null, .null, .null, .null, .int 0, .int 0, .null])), (q7, .inl (cI, 6, .inl (fun _ => 0))), (q15, .inl (cI, 72, .inl (fun _ => 0))), (q23, .inl (cI, 49152, .inl (fun _ => 0))), (q31, .inl (cI, 40, .inl (fun _ => 0))), (q39, .inl (cI, 40, .inl (fun _ => 0))), (q47, .inl (cI, 40, .inl (fun _ => 0)))] := hD
  refine zq_putF hx hb hts in_X4_init_X4 tyX4 tyX4_ok nmX4 hown hK hP hD hS 0 rfl rfl 7 (by decide) (hts _ w_X4_init__fieldLink_RX4_26_WordsBesideModel_first_I__de9671) rfl hin rfl rfl rfl (Nat.le_of_ble_eq_true rfl) dX4_init_49 (fun H locs hP hD hS => ?_)
  have hP : va_P D vwCl [(om, .inr (4, [.ref q7, .ref q15, .int 0, .ref q23, .int 0, .ref q31, .ref q39, .ref q47, .null, .null, .null, .int 0, .int 0, .null])), (q7, .inl (cI, 6, .inl (fun _ => 0))), (q15, .inl (cI, 72, .inl (fun _ => 0))), (q23, .inl (cI, 49152, .inl (fun _ => 0))), (q31, .inl (cI, 40, .inl (fun _ => 0))), (q39, .inl (cI, 40, .inl (fun _ => 0))), (q47, .inl (cI, 40, .inl (fun _ => 0)))] H := hP
  have hD : va_D A [(om, .inr (4, [.ref q7, .ref q15, .int 0, .ref q23, .int 0, .ref q31, .ref q39, .ref q47, .null, .null, .null, .int 0, .int 0, .null])), (q7, .inl (cI, 6, .inl (fun _ => 0))), (q15, .inl (cI, 72, .inl (fun _ => 0))), (q23, .inl (cI, 49152, .inl (fun _ => 0))), (q31, .inl (cI, 40, .inl (fun _ => 0))), (q39, .inl (cI, 40, .inl (fun _ => 0))), (q47, .inl (cI, 40, .inl (fun _ => 0)))] := hD
  refine lv_aload_n hx hb dX4_init_52 rfl (lv_at hl 0 rfl) ?_
  refine lv_bipush (v := (nI 40)) hx hb dX4_init_53 (by decide) ?_
  refine zq_newi hx hb (hts _ w_X4_init__arrayClass_int_d160d5) hK hP hD hS hA 40 rfl (by decide) (Nat.le_of_ble_eq_true rfl) (Nat.le_of_ble_eq_true rfl) dX4_init_55 (fun q55 H hP hD hS => ?_)
  have hP : va_P D vwCl [(om, .inr (4, [.ref q7, .ref q15, .int 0, .ref q23, .int 0, .ref q31, .ref q39, .ref q47, .null, .null, .null, .int 0, .int 0, .null])), (q7, .inl (cI, 6, .inl (fun _ => 0))), (q15, .inl (cI, 72, .inl (fun _ => 0))), (q23, .inl (cI, 49152, .inl (fun _ => 0))), (q31, .inl (cI, 40, .inl (fun _ => 0))), (q39, .inl (cI, 40, .inl (fun _ => 0))), (q47, .inl (cI, 40, .inl (fun _ => 0))), (q55, .inl (cI, 40, .inl (fun _ => 0)))] H := hP
  have hD : va_D A [(om, .inr (4, [.ref q7, .ref q15, .int 0, .ref q23, .int 0, .ref q31, .ref q39, .ref q47, .null, .null, .null, .int 0, .int 0, .null])), (q7, .inl (cI, 6, .inl (fun _ => 0))), (q15, .inl (cI, 72, .inl (fun _ => 0))), (q23, .inl (cI, 49152, .inl (fun _ => 0))), (q31, .inl (cI, 40, .inl (fun _ => 0))), (q39, .inl (cI, 40, .inl (fun _ => 0))), (q47, .inl (cI, 40, .inl (fun _ => 0))), (q55, .inl (cI, 40, .inl (fun _ => 0)))] := hD
  refine zq_putF hx hb hts in_X4_init_X4 tyX4 tyX4_ok nmX4 hown hK hP hD hS 0 rfl rfl 8 (by decide) (hts _ w_X4_init__fieldLink_RX4_29_WordsBesideModel_second_I__491129) rfl hin rfl rfl rfl (Nat.le_of_ble_eq_true rfl) dX4_init_57 (fun H locs hP hD hS => ?_)
  have hP : va_P D vwCl [(om, .inr (4, [.ref q7, .ref q15, .int 0, .ref q23, .int 0, .ref q31, .ref q39, .ref q47, .ref q55, .null, .null, .int 0, .int 0, .null])), (q7, .inl (cI, 6, .inl (fun _ => 0))), (q15, .inl (cI, 72, .inl (fun _ => 0))), (q23, .inl (cI, 49152, .inl (fun _ => 0))), (q31, .inl (cI, 40, .inl (fun _ => 0))), (q39, .inl (cI, 40, .inl (fun _ => 0))), (q47, .inl (cI, 40, .inl (fun _ => 0))), (q55, .inl (cI, 40, .inl (fun _ => 0)))] H := hP
  have hD : va_D A [(om, .inr (4, [.ref q7, .ref q15, .int 0, .ref q23, .int 0, .ref q31, .ref q39, .ref q47, .ref q55, .null, .null, .int 0, .int 0, .null])), (q7, .inl (cI, 6, .inl (fun _ => 0))), (q15, .inl (cI, 72, .inl (fun _ => 0))), (q23, .inl (cI, 49152, .inl (fun _ => 0))), (q31, .inl (cI, 40, .inl (fun _ => 0))), (q39, .inl (cI, 40, .inl (fun _ => 0))), (q47, .inl (cI, 40, .inl (fun _ => 0))), (q55, .inl (cI, 40, .inl (fun _ => 0)))] := hD
  refine lv_aload_n hx hb dX4_init_60 rfl (lv_at hl 0 rfl) ?_
  refine lv_bipush (v := (nI 40)) hx hb dX4_init_61 (by decide) ?_
  refine zq_newi hx hb (hts _ w_X4_init__arrayClass_int_d160d5) hK hP hD hS hA 40 rfl (by decide) (Nat.le_of_ble_eq_true rfl) (Nat.le_of_ble_eq_true rfl) dX4_init_63 (fun q63 H hP hD hS => ?_)
  have hP : va_P D vwCl [(om, .inr (4, [.ref q7, .ref q15, .int 0, .ref q23, .int 0, .ref q31, .ref q39, .ref q47, .ref q55, .null, .null, .int 0, .int 0, .null])), (q7, .inl (cI, 6, .inl (fun _ => 0))), (q15, .inl (cI, 72, .inl (fun _ => 0))), (q23, .inl (cI, 49152, .inl (fun _ => 0))), (q31, .inl (cI, 40, .inl (fun _ => 0))), (q39, .inl (cI, 40, .inl (fun _ => 0))), (q47, .inl (cI, 40, .inl (fun _ => 0))), (q55, .inl (cI, 40, .inl (fun _ => 0))), (q63, .inl (cI, 40, .inl (fun _ => 0)))] H := hP
  have hD : va_D A [(om, .inr (4, [.ref q7, .ref q15, .int 0, .ref q23, .int 0, .ref q31, .ref q39, .ref q47, .ref q55, .null, .null, .int 0, .int 0, .null])), (q7, .inl (cI, 6, .inl (fun _ => 0))), (q15, .inl (cI, 72, .inl (fun _ => 0))), (q23, .inl (cI, 49152, .inl (fun _ => 0))), (q31, .inl (cI, 40, .inl (fun _ => 0))), (q39, .inl (cI, 40, .inl (fun _ => 0))), (q47, .inl (cI, 40, .inl (fun _ => 0))), (q55, .inl (cI, 40, .inl (fun _ => 0))), (q63, .inl (cI, 40, .inl (fun _ => 0)))] := hD
  refine zq_putF hx hb hts in_X4_init_X4 tyX4 tyX4_ok nmX4 hown hK hP hD hS 0 rfl rfl 9 (by decide) (hts _ w_X4_init__fieldLink_RX4_32_WordsBesideModel_base_I__b13283) rfl hin rfl rfl rfl (Nat.le_of_ble_eq_true rfl) dX4_init_65 (fun H locs hP hD hS => ?_)
  have hP : va_P D vwCl [(om, .inr (4, [.ref q7, .ref q15, .int 0, .ref q23, .int 0, .ref q31, .ref q39, .ref q47, .ref q55, .ref q63, .null, .int 0, .int 0, .null])), (q7, .inl (cI, 6, .inl (fun _ => 0))), (q15, .inl (cI, 72, .inl (fun _ => 0))), (q23, .inl (cI, 49152, .inl (fun _ => 0))), (q31, .inl (cI, 40, .inl (fun _ => 0))), (q39, .inl (cI, 40, .inl (fun _ => 0))), (q47, .inl (cI, 40, .inl (fun _ => 0))), (q55, .inl (cI, 40, .inl (fun _ => 0))), (q63, .inl (cI, 40, .inl (fun _ => 0)))] H := hP
  have hD : va_D A [(om, .inr (4, [.ref q7, .ref q15, .int 0, .ref q23, .int 0, .ref q31, .ref q39, .ref q47, .ref q55, .ref q63, .null, .int 0, .int 0, .null])), (q7, .inl (cI, 6, .inl (fun _ => 0))), (q15, .inl (cI, 72, .inl (fun _ => 0))), (q23, .inl (cI, 49152, .inl (fun _ => 0))), (q31, .inl (cI, 40, .inl (fun _ => 0))), (q39, .inl (cI, 40, .inl (fun _ => 0))), (q47, .inl (cI, 40, .inl (fun _ => 0))), (q55, .inl (cI, 40, .inl (fun _ => 0))), (q63, .inl (cI, 40, .inl (fun _ => 0)))] := hD
  refine lv_aload_n hx hb dX4_init_68 rfl (lv_at hl 0 rfl) ?_
  refine lv_bipush (v := (nI 40)) hx hb dX4_init_69 (by decide) ?_
  refine zq_newz hx hb (hts _ w_X4_init__arrayClass_boolean_3be308) hK hP hD hS hA 40 rfl (by decide) (Nat.le_of_ble_eq_true rfl) (Nat.le_of_ble_eq_true rfl) dX4_init_71 (fun q71 H hP hD hS => ?_)
  have hP : va_P D vwCl [(om, .inr (4, [.ref q7, .ref q15, .int 0, .ref q23, .int 0, .ref q31, .ref q39, .ref q47, .ref q55, .ref q63, .null, .int 0, .int 0, .null])), (q7, .inl (cI, 6, .inl (fun _ => 0))), (q15, .inl (cI, 72, .inl (fun _ => 0))), (q23, .inl (cI, 49152, .inl (fun _ => 0))), (q31, .inl (cI, 40, .inl (fun _ => 0))), (q39, .inl (cI, 40, .inl (fun _ => 0))), (q47, .inl (cI, 40, .inl (fun _ => 0))), (q55, .inl (cI, 40, .inl (fun _ => 0))), (q63, .inl (cI, 40, .inl (fun _ => 0))), (q71, .inl (cZ, 40, .inl (fun _ => 0)))] H := hP
  have hD : va_D A [(om, .inr (4, [.ref q7, .ref q15, .int 0, .ref q23, .int 0, .ref q31, .ref q39, .ref q47, .ref q55, .ref q63, .null, .int 0, .int 0, .null])), (q7, .inl (cI, 6, .inl (fun _ => 0))), (q15, .inl (cI, 72, .inl (fun _ => 0))), (q23, .inl (cI, 49152, .inl (fun _ => 0))), (q31, .inl (cI, 40, .inl (fun _ => 0))), (q39, .inl (cI, 40, .inl (fun _ => 0))), (q47, .inl (cI, 40, .inl (fun _ => 0))), (q55, .inl (cI, 40, .inl (fun _ => 0))), (q63, .inl (cI, 40, .inl (fun _ => 0))), (q71, .inl (cZ, 40, .inl (fun _ => 0)))] := hD
  refine zq_putF hx hb hts in_X4_init_X4 tyX4 tyX4_ok nmX4 hown hK hP hD hS 0 rfl rfl 10 (by decide) (hts _ w_X4_init__fieldLink_RX4_35_WordsBesideModel_isMarked_Z__f949ba) rfl hin rfl rfl rfl (Nat.le_of_ble_eq_true rfl) dX4_init_73 (fun H locs hP hD hS => ?_)
  have hP : va_P D vwCl [(om, .inr (4, [.ref q7, .ref q15, .int 0, .ref q23, .int 0, .ref q31, .ref q39, .ref q47, .ref q55, .ref q63, .ref q71, .int 0, .int 0, .null])), (q7, .inl (cI, 6, .inl (fun _ => 0))), (q15, .inl (cI, 72, .inl (fun _ => 0))), (q23, .inl (cI, 49152, .inl (fun _ => 0))), (q31, .inl (cI, 40, .inl (fun _ => 0))), (q39, .inl (cI, 40, .inl (fun _ => 0))), (q47, .inl (cI, 40, .inl (fun _ => 0))), (q55, .inl (cI, 40, .inl (fun _ => 0))), (q63, .inl (cI, 40, .inl (fun _ => 0))), (q71, .inl (cZ, 40, .inl (fun _ => 0)))] H := hP
  have hD : va_D A [(om, .inr (4, [.ref q7, .ref q15, .int 0, .ref q23, .int 0, .ref q31, .ref q39, .ref q47, .ref q55, .ref q63, .ref q71, .int 0, .int 0, .null])), (q7, .inl (cI, 6, .inl (fun _ => 0))), (q15, .inl (cI, 72, .inl (fun _ => 0))), (q23, .inl (cI, 49152, .inl (fun _ => 0))), (q31, .inl (cI, 40, .inl (fun _ => 0))), (q39, .inl (cI, 40, .inl (fun _ => 0))), (q47, .inl (cI, 40, .inl (fun _ => 0))), (q55, .inl (cI, 40, .inl (fun _ => 0))), (q63, .inl (cI, 40, .inl (fun _ => 0))), (q71, .inl (cZ, 40, .inl (fun _ => 0)))] := hD
  refine lv_aload_n hx hb dX4_init_76 rfl (lv_at hl 0 rfl) ?_
  refine lv_bipush (v := (nI 40)) hx hb dX4_init_77 (by decide) ?_
  refine zq_newi hx hb (hts _ w_X4_init__arrayClass_int_d160d5) hK hP hD hS hA 40 rfl (by decide) (Nat.le_of_ble_eq_true rfl) (Nat.le_of_ble_eq_true rfl) dX4_init_79 (fun q79 H hP hD hS => ?_)
  have hP : va_P D vwCl [(om, .inr (4, [.ref q7, .ref q15, .int 0, .ref q23, .int 0, .ref q31, .ref q39, .ref q47, .ref q55, .ref q63, .ref q71, .int 0, .int 0, .null])), (q7, .inl (cI, 6, .inl (fun _ => 0))), (q15, .inl (cI, 72, .inl (fun _ => 0))), (q23, .inl (cI, 49152, .inl (fun _ => 0))), (q31, .inl (cI, 40, .inl (fun _ => 0))), (q39, .inl (cI, 40, .inl (fun _ => 0))), (q47, .inl (cI, 40, .inl (fun _ => 0))), (q55, .inl (cI, 40, .inl (fun _ => 0))), (q63, .inl (cI, 40, .inl (fun _ => 0))), (q71, .inl (cZ, 40, .inl (fun _ => 0))), (q79, .inl (cI, 40, .inl (fun _ => 0)))] H := hP
  have hD : va_D A [(om, .inr (4, [.ref q7, .ref q15, .int 0, .ref q23, .int 0, .ref q31, .ref q39, .ref q47, .ref q55, .ref q63, .ref q71, .int 0, .int 0, .null])), (q7, .inl (cI, 6, .inl (fun _ => 0))), (q15, .inl (cI, 72, .inl (fun _ => 0))), (q23, .inl (cI, 49152, .inl (fun _ => 0))), (q31, .inl (cI, 40, .inl (fun _ => 0))), (q39, .inl (cI, 40, .inl (fun _ => 0))), (q47, .inl (cI, 40, .inl (fun _ => 0))), (q55, .inl (cI, 40, .inl (fun _ => 0))), (q63, .inl (cI, 40, .inl (fun _ => 0))), (q71, .inl (cZ, 40, .inl (fun _ => 0))), (q79, .inl (cI, 40, .inl (fun _ => 0)))] := hD
  refine zq_putF hx hb hts in_X4_init_X4 tyX4 tyX4_ok nmX4 hown hK hP hD hS 0 rfl rfl 13 (by decide) (hts _ w_X4_init__fieldLink_RX4_39_WordsBesideModel_harms_I__36a1ff) rfl hin rfl rfl rfl (Nat.le_of_ble_eq_true rfl) dX4_init_81 (fun H locs hP hD hS => ?_)
  have hP : va_P D vwCl [(om, .inr (4, [.ref q7, .ref q15, .int 0, .ref q23, .int 0, .ref q31, .ref q39, .ref q47, .ref q55, .ref q63, .ref q71, .int 0, .int 0, .ref q79])), (q7, .inl (cI, 6, .inl (fun _ => 0))), (q15, .inl (cI, 72, .inl (fun _ => 0))), (q23, .inl (cI, 49152, .inl (fun _ => 0))), (q31, .inl (cI, 40, .inl (fun _ => 0))), (q39, .inl (cI, 40, .inl (fun _ => 0))), (q47, .inl (cI, 40, .inl (fun _ => 0))), (q55, .inl (cI, 40, .inl (fun _ => 0))), (q63, .inl (cI, 40, .inl (fun _ => 0))), (q71, .inl (cZ, 40, .inl (fun _ => 0))), (q79, .inl (cI, 40, .inl (fun _ => 0)))] H := hP
  have hD : va_D A [(om, .inr (4, [.ref q7, .ref q15, .int 0, .ref q23, .int 0, .ref q31, .ref q39, .ref q47, .ref q55, .ref q63, .ref q71, .int 0, .int 0, .ref q79])), (q7, .inl (cI, 6, .inl (fun _ => 0))), (q15, .inl (cI, 72, .inl (fun _ => 0))), (q23, .inl (cI, 49152, .inl (fun _ => 0))), (q31, .inl (cI, 40, .inl (fun _ => 0))), (q39, .inl (cI, 40, .inl (fun _ => 0))), (q47, .inl (cI, 40, .inl (fun _ => 0))), (q55, .inl (cI, 40, .inl (fun _ => 0))), (q63, .inl (cI, 40, .inl (fun _ => 0))), (q71, .inl (cZ, 40, .inl (fun _ => 0))), (q79, .inl (cI, 40, .inl (fun _ => 0)))] := hD
  exact ret _ _ _ _ _ ⟨rfl, fun i => [om, q7, q15, q23, q31, q39, q47, q55, q63, q71, q79].getD i 0, rfl, rfl⟩ hP hD hS dX4_init_84
theorem w_X4_spans__constant_RX4_115_1000001__c4eb2f : (.constant RX4 115 (1000001) : Cond) ∈ wsX4_spans := by decide +kernel
theorem w_X4_spans__constant_RX4_116_1000001__e4a7e8 : (.constant RX4 116 (-1000001) : Cond) ∈ wsX4_spans := by decide +kernel
theorem w_X4_spans__constant_RX4_64_2147483648__c0c951 : (.constant RX4 64 (-2147483648) : Cond) ∈ wsX4_spans := by decide +kernel
theorem w_X4_spans__constant_RX4_83_1000000__4cda48 : (.constant RX4 83 (1000000) : Cond) ∈ wsX4_spans := by decide +kernel
theorem w_X4_spans__fieldLink_RX4_109_WordsBesideModel_mendOne_I__796736 : (.fieldLink RX4 109 "WordsBesideModel" "mendOne" "I" : Cond) ∈ wsX4_spans := by decide +kernel
theorem w_X4_spans__fieldLink_RX4_117_WordsBesideModel_mendTwo_I__0b764c : (.fieldLink RX4 117 "WordsBesideModel" "mendTwo" "I" : Cond) ∈ wsX4_spans := by decide +kernel
theorem w_X4_spans__fieldLink_RX4_20_WordsBesideModel_of_I__9fac8e : (.fieldLink RX4 20 "WordsBesideModel" "of" "[I" : Cond) ∈ wsX4_spans := by decide +kernel
theorem in_X4_spans_X4 : ∀ w ∈ wsX40, w ∈ wsX4_spans := fun _ h => List.mem_cons_of_mem _ (List.mem_append_right _ h)
set_option maxHeartbeats 4000000 in
set_option maxRecDepth 100000 in
theorem c_X4_spans (l : Launch) (D : va_G) (cI cZ cW cC : ClassId) (ad : Nat → Nat) (ln st gv oF kF fF sF bF mF hF : Nat → Int32) (kp cm m1 m2 : Int32) (fo bo : Nat → Nat) (n k : Nat) (hn : n ≤ 40) (hk : k ≤ 30) (HC : zHC fo bo oF kF fF bF n k) (hB : zB (zG gv 31) 1536) (i : Nat) (hi : i < n) (sz : Nat) : zq_mu l D cI cZ cW cC yX4_spans wsX4_spans ({ frames := 2, cells := 0, slots := 0, locals := 45 } : Room) [.ref (ad 0), .int (nI i)] (mW cI cZ ad ln st gv oF kF fF sF bF mF hF kp cm m1 m2) sz (fun v w1 => ∃ a1 a2 : Int32, w1 = (mW cI cZ ad ln st gv oF kF fF sF bF mF hF kp cm a1 a2) ∧ v = some (.int (if zlst (zG gv 31) (fo i) 256 = zNO then 0 else 1)) ∧ (¬ zlst (zG gv 31) (fo i) 256 = zNO → a1 = zlst (zG gv 31) (fo i) 256 ∧ a2 = zmst (zG gv 31) (fo i) 256)) 0 0 := by
  refine zq_muZ (own := RX4) (by decide) rfl rfl (Nat.le_of_ble_eq_true rfl) ?_
  intro p e s m below meth c Q A ls hsz hF hin hA hP hK hD hS hl ret
  obtain ⟨hx, hb, hml, hown, hts⟩ := hF
  have hl : lv_has ls 4 [(0, .ref (ad 0)), (1, .int (nI i))] := hl
  obtain ⟨ho, hf, hk8, h3, h5, h7, hbb, hbk⟩ := HC i hi
  refine lv_aload_n hx hb dX4_spans_0 rfl (lv_at hl 0 rfl) ?_
  refine lv_ldc (v := (1000001 : Int32)) hx hb hown (hts _ w_X4_spans__constant_RX4_115_1000001__c4eb2f) dX4_spans_1 ?_
  refine zq_put hx hb hts in_X4_spans_X4 tyX4 tyX4_ok nmX4 hown hK hP hD hS 0 rfl rfl 11 (by decide) (hts _ w_X4_spans__fieldLink_RX4_109_WordsBesideModel_mendOne_I__796736) rfl rfl rfl (Nat.le_of_ble_eq_true rfl) dX4_spans_3 (fun H locs hP hD hS => ?_)
  have hP : va_P D vwCl (mW cI cZ ad ln st gv oF kF fF sF bF mF hF kp cm (1000001 : Int32) m2) H := hP
  have hD : va_D A (mW cI cZ ad ln st gv oF kF fF sF bF mF hF kp cm (1000001 : Int32) m2) := hD
  refine lv_aload_n hx hb dX4_spans_6 rfl (lv_at hl 0 rfl) ?_
  refine lv_ldc (v := (-1000001 : Int32)) hx hb hown (hts _ w_X4_spans__constant_RX4_116_1000001__e4a7e8) dX4_spans_7 ?_
  refine zq_put hx hb hts in_X4_spans_X4 tyX4 tyX4_ok nmX4 hown hK hP hD hS 0 rfl rfl 12 (by decide) (hts _ w_X4_spans__fieldLink_RX4_117_WordsBesideModel_mendTwo_I__0b764c) rfl rfl rfl (Nat.le_of_ble_eq_true rfl) dX4_spans_9 (fun H locs hP hD hS => ?_)
  have hP : va_P D vwCl (mW cI cZ ad ln st gv oF kF fF sF bF mF hF kp cm (1000001 : Int32) (-1000001 : Int32)) H := hP
  have hD : va_D A (mW cI cZ ad ln st gv oF kF fF sF bF mF hF kp cm (1000001 : Int32) (-1000001 : Int32)) := hD
  refine lv_iconst (v := (nI 0)) hx hb dX4_spans_12 (by decide) ?_
  refine lv_istore_n (lv' := [(2, .int (nI 0)), (0, .ref (ad 0)), (1, .int (nI i))]) hx hb dX4_spans_13 rfl hl (by decide) rfl (fun ls hl => ?_)
  have loop14 : ∀ (fu14 : Nat) (j : Nat) (a1 a2 : Int32) (H : Heap) (locs : List Loc) (ls : Array Slot), (256 - j) < fu14 → (j ≤ 256) → (zSp (zG gv 31) (fo i) j a1 a2) → va_P D vwCl (mW cI cZ ad ln st gv oF kF fF sF bF mF hF kp cm a1 a2) H → va_D A (mW cI cZ ad ln st gv oF kF fF sF bF mF hF kp cm a1 a2) → va_S A s.heap H locs → lv_has ls 4 [(0, .ref (ad 0)), (1, .int (nI i)), (2, .int (nI j))] → W p l e ({ frames := 2, cells := 0, slots := 0, locals := 45 } : Room) s m ([.ref (ad 0), .int (nI i)] : List Value).toArray below meth c H locs 0 0 Q (F0 m 14 ls []) := by
    intro fu14
    induction fu14 with
    | zero => intro _ _ _ _ _ _ hmu; exact absurd hmu (Nat.not_lt_zero _)
    | succ fu14 ih14 =>
      intro j a1 a2 H locs ls hmu14 hj hsp hP hD hS hl
      refine lv_iload_n hx hb dX4_spans_14 rfl (lv_at hl 2 rfl) ?_
      refine lv_sipush (v := (nI 256)) hx hb dX4_spans_15 (by decide) ?_
      refine lv_icmp_ge (tgt := 76) hx hb dX4_spans_18 (by decide) (fun c18 => ?_) (fun c18 => ?_)
      · have h18 := zle c18
        have hj2 : j = 256 := by omega
        subst hj2
        refine lv_aload_n hx hb dX4_spans_76 rfl (lv_at hl 0 rfl) ?_
        refine zq_get hx hb hts in_X4_spans_X4 hown hK hP 0 rfl rfl 11 (by decide) (hts _ w_X4_spans__fieldLink_RX4_109_WordsBesideModel_mendOne_I__796736) rfl dX4_spans_77 ?_
        refine lv_ldc (v := (1000000 : Int32)) hx hb hown (hts _ w_X4_spans__constant_RX4_83_1000000__4cda48) dX4_spans_80 ?_
        refine lv_icmp_gt (tgt := 89) hx hb dX4_spans_82 (by decide) (fun c82 => ?_) (fun c82 => ?_)
        · refine lv_iconst (v := (0 : Int32)) hx hb dX4_spans_89 (by decide) ?_
          exact ret _ _ _ _ _ _ (Or.inl rfl) ⟨_, _, rfl, by rw [if_pos (zSp_t hB hf hsp c82)], fun q => absurd (zSp_t hB hf hsp c82) q⟩ hP hD hS dX4_spans_90
        · refine lv_iconst (v := (1 : Int32)) hx hb dX4_spans_85 (by decide) ?_
          refine lv_goto (tgt := 90) hx hb dX4_spans_86 (by decide) ?_
          exact ret _ _ _ _ _ _ (Or.inr rfl) ⟨_, _, rfl, by rw [if_neg (zSp_f hsp c82).1], fun _ => (zSp_f hsp c82).2⟩ hP hD hS dX4_spans_90
      · have h18 := znle c18
        refine lv_aload_n hx hb dX4_spans_21 rfl (lv_at hl 0 rfl) ?_
        refine lv_bipush (v := (nI 31)) hx hb dX4_spans_22 (by decide) ?_
        refine lv_aload_n hx hb dX4_spans_24 rfl (lv_at hl 0 rfl) ?_
        refine zq_get hx hb hts in_X4_spans_X4 hown hK hP 0 rfl rfl 5 (by decide) (hts _ w_X4_spans__fieldLink_RX4_20_WordsBesideModel_of_I__9fac8e) rfl dX4_spans_25 ?_
        refine lv_iload_n hx hb dX4_spans_28 rfl (lv_at hl 1 rfl) ?_
        refine zq_ild hx hb hK hP 4 rfl i rfl (by omega) (by decide) dX4_spans_29 ?_
        refine zq_te (y := (nI (fo i))) ho ?_
        refine lv_iload_n hx hb dX4_spans_30 rfl (lv_at hl 2 rfl) ?_
        refine zq_cV (rest := []) ⟨hx, hb, hml, hown, hts⟩ (c_X4_give l D cI cZ cW cC ad ln st gv oF kF fF sF bF mF hF kp cm a1 a2 31 (fo i) j (by omega) (by omega) (by omega)) (cwV 3 hts gX4_spans_X4_give rfl rfl rfl (by decide +kernel) ⟨Nat.le_of_ble_eq_true rfl, Nat.le_of_ble_eq_true rfl⟩) hK hP 4 0 rfl rfl rfl hl.1 rfl (Nat.le_of_ble_eq_true rfl) dX4_spans_31 ⟨Nat.le_of_ble_eq_true rfl, Nat.le_of_ble_eq_true rfl⟩ (fun v hv => ?_)
        obtain rfl := hv
        refine W.eq (g2 := F0 m 34 ls [.int (zG gv 31 (256 * (fo i) + j))]) rfl ?_
        refine lv_istore_n (lv' := [(3, .int (zG gv 31 (256 * (fo i) + j))), (0, .ref (ad 0)), (1, .int (nI i)), (2, .int (nI j))]) hx hb dX4_spans_34 rfl hl (by decide) rfl (fun ls hl => ?_)
        refine lv_iload_n hx hb dX4_spans_35 rfl (lv_at hl 0 rfl) ?_
        refine lv_ldc (v := (-2147483648 : Int32)) hx hb hown (hts _ w_X4_spans__constant_RX4_64_2147483648__c0c951) dX4_spans_36 ?_
        refine lv_icmp_ne (tgt := 44) hx hb dX4_spans_38 (by decide) (fun c38 => ?_) (fun c38 => ?_)
        · refine lv_iload_n hx hb dX4_spans_44 rfl (lv_at hl 0 rfl) ?_
          refine lv_aload_n hx hb dX4_spans_45 rfl (lv_at hl 1 rfl) ?_
          refine zq_get hx hb hts in_X4_spans_X4 hown hK hP 0 rfl rfl 11 (by decide) (hts _ w_X4_spans__fieldLink_RX4_109_WordsBesideModel_mendOne_I__796736) rfl dX4_spans_46 ?_
          refine lv_icmp_ge (tgt := 57) hx hb dX4_spans_49 (by decide) (fun c49 => ?_) (fun c49 => ?_)
          · refine lv_iload_n hx hb dX4_spans_57 rfl (lv_at hl 0 rfl) ?_
            refine lv_aload_n hx hb dX4_spans_58 rfl (lv_at hl 1 rfl) ?_
            refine zq_get hx hb hts in_X4_spans_X4 hown hK hP 0 rfl rfl 12 (by decide) (hts _ w_X4_spans__fieldLink_RX4_117_WordsBesideModel_mendTwo_I__0b764c) rfl dX4_spans_59 ?_
            refine lv_icmp_le (tgt := 70) hx hb dX4_spans_62 (by decide) (fun c62 => ?_) (fun c62 => ?_)
            · refine lv_iinc (v := (nI (j + 1))) (lv' := [(2, .int (nI (j + 1))), (3, .int (zG gv 31 (256 * (fo i) + j))), (0, .ref (ad 0)), (1, .int (nI i))]) hx hb dX4_spans_70 hl (k := 3) rfl ((nI_succ _).symm) (by decide) rfl (fun ls hl => ?_)
              refine lv_goto (tgt := 14) hx hb dX4_spans_73 (by decide) ?_
              exact ih14 (j + 1) a1 a2 _ _ ls (by omega) (by omega) (by have h9 := zSp_s hsp c38 ((hB _ (by omega)).resolve_left c38); rw [if_pos c49, if_pos c62] at h9; exact h9) hP hD hS (lv_sub hl [2, 3, 0] rfl)
            · refine lv_aload_n hx hb dX4_spans_65 rfl (lv_at hl 1 rfl) ?_
              refine lv_iload_n hx hb dX4_spans_66 rfl (lv_at hl 0 rfl) ?_
              refine zq_put hx hb hts in_X4_spans_X4 tyX4 tyX4_ok nmX4 hown hK hP hD hS 0 rfl rfl 12 (by decide) (hts _ w_X4_spans__fieldLink_RX4_117_WordsBesideModel_mendTwo_I__0b764c) rfl rfl rfl (Nat.le_of_ble_eq_true rfl) dX4_spans_67 (fun H locs hP hD hS => ?_)
              have hP : va_P D vwCl (mW cI cZ ad ln st gv oF kF fF sF bF mF hF kp cm a1 (zG gv 31 (256 * (fo i) + j))) H := hP
              have hD : va_D A (mW cI cZ ad ln st gv oF kF fF sF bF mF hF kp cm a1 (zG gv 31 (256 * (fo i) + j))) := hD
              refine lv_iinc (v := (nI (j + 1))) (lv' := [(2, .int (nI (j + 1))), (3, .int (zG gv 31 (256 * (fo i) + j))), (0, .ref (ad 0)), (1, .int (nI i))]) hx hb dX4_spans_70 hl (k := 3) rfl ((nI_succ _).symm) (by decide) rfl (fun ls hl => ?_)
              refine lv_goto (tgt := 14) hx hb dX4_spans_73 (by decide) ?_
              exact ih14 (j + 1) a1 (zG gv 31 (256 * fo i + j)) _ _ ls (by omega) (by omega) (by have h9 := zSp_s hsp c38 ((hB _ (by omega)).resolve_left c38); rw [if_pos c49, if_neg c62] at h9; exact h9) hP hD hS (lv_sub hl [2, 3, 0] rfl)
          · refine lv_aload_n hx hb dX4_spans_52 rfl (lv_at hl 1 rfl) ?_
            refine lv_iload_n hx hb dX4_spans_53 rfl (lv_at hl 0 rfl) ?_
            refine zq_put hx hb hts in_X4_spans_X4 tyX4 tyX4_ok nmX4 hown hK hP hD hS 0 rfl rfl 11 (by decide) (hts _ w_X4_spans__fieldLink_RX4_109_WordsBesideModel_mendOne_I__796736) rfl rfl rfl (Nat.le_of_ble_eq_true rfl) dX4_spans_54 (fun H locs hP hD hS => ?_)
            have hP : va_P D vwCl (mW cI cZ ad ln st gv oF kF fF sF bF mF hF kp cm (zG gv 31 (256 * (fo i) + j)) a2) H := hP
            have hD : va_D A (mW cI cZ ad ln st gv oF kF fF sF bF mF hF kp cm (zG gv 31 (256 * (fo i) + j)) a2) := hD
            refine lv_iload_n hx hb dX4_spans_57 rfl (lv_at hl 0 rfl) ?_
            refine lv_aload_n hx hb dX4_spans_58 rfl (lv_at hl 1 rfl) ?_
            refine zq_get hx hb hts in_X4_spans_X4 hown hK hP 0 rfl rfl 12 (by decide) (hts _ w_X4_spans__fieldLink_RX4_117_WordsBesideModel_mendTwo_I__0b764c) rfl dX4_spans_59 ?_
            refine lv_icmp_le (tgt := 70) hx hb dX4_spans_62 (by decide) (fun c62 => ?_) (fun c62 => ?_)
            · refine lv_iinc (v := (nI (j + 1))) (lv' := [(2, .int (nI (j + 1))), (3, .int (zG gv 31 (256 * (fo i) + j))), (0, .ref (ad 0)), (1, .int (nI i))]) hx hb dX4_spans_70 hl (k := 3) rfl ((nI_succ _).symm) (by decide) rfl (fun ls hl => ?_)
              refine lv_goto (tgt := 14) hx hb dX4_spans_73 (by decide) ?_
              exact ih14 (j + 1) (zG gv 31 (256 * fo i + j)) a2 _ _ ls (by omega) (by omega) (by have h9 := zSp_s hsp c38 ((hB _ (by omega)).resolve_left c38); rw [if_neg c49, if_pos c62] at h9; exact h9) hP hD hS (lv_sub hl [2, 3, 0] rfl)
            · refine lv_aload_n hx hb dX4_spans_65 rfl (lv_at hl 1 rfl) ?_
              refine lv_iload_n hx hb dX4_spans_66 rfl (lv_at hl 0 rfl) ?_
              refine zq_put hx hb hts in_X4_spans_X4 tyX4 tyX4_ok nmX4 hown hK hP hD hS 0 rfl rfl 12 (by decide) (hts _ w_X4_spans__fieldLink_RX4_117_WordsBesideModel_mendTwo_I__0b764c) rfl rfl rfl (Nat.le_of_ble_eq_true rfl) dX4_spans_67 (fun H locs hP hD hS => ?_)
              have hP : va_P D vwCl (mW cI cZ ad ln st gv oF kF fF sF bF mF hF kp cm (zG gv 31 (256 * (fo i) + j)) (zG gv 31 (256 * (fo i) + j))) H := hP
              have hD : va_D A (mW cI cZ ad ln st gv oF kF fF sF bF mF hF kp cm (zG gv 31 (256 * (fo i) + j)) (zG gv 31 (256 * (fo i) + j))) := hD
              refine lv_iinc (v := (nI (j + 1))) (lv' := [(2, .int (nI (j + 1))), (3, .int (zG gv 31 (256 * (fo i) + j))), (0, .ref (ad 0)), (1, .int (nI i))]) hx hb dX4_spans_70 hl (k := 3) rfl ((nI_succ _).symm) (by decide) rfl (fun ls hl => ?_)
              refine lv_goto (tgt := 14) hx hb dX4_spans_73 (by decide) ?_
              exact ih14 (j + 1) (zG gv 31 (256 * fo i + j)) (zG gv 31 (256 * fo i + j)) _ _ ls (by omega) (by omega) (by have h9 := zSp_s hsp c38 ((hB _ (by omega)).resolve_left c38); rw [if_neg c49, if_neg c62] at h9; exact h9) hP hD hS (lv_sub hl [2, 3, 0] rfl)
        · refine lv_goto (tgt := 70) hx hb dX4_spans_41 (by decide) ?_
          refine lv_iinc (v := (nI (j + 1))) (lv' := [(2, .int (nI (j + 1))), (3, .int (zG gv 31 (256 * (fo i) + j))), (0, .ref (ad 0)), (1, .int (nI i))]) hx hb dX4_spans_70 hl (k := 3) rfl ((nI_succ _).symm) (by decide) rfl (fun ls hl => ?_)
          refine lv_goto (tgt := 14) hx hb dX4_spans_73 (by decide) ?_
          exact ih14 (j + 1) a1 a2 _ _ ls (by omega) (by omega) (zSp_n hsp c38) hP hD hS (lv_sub hl [2, 3, 0] rfl)
  exact loop14 (256 + 1) 0 1000001 (-1000001) _ _ ls (by omega) (by omega) (Or.inl ⟨rfl, rfl, rfl, rfl⟩) hP hD hS (lv_sub hl [1, 2, 0] rfl)
theorem w_X4_divides__constant_RX4_64_2147483648__c0c951 : (.constant RX4 64 (-2147483648) : Cond) ∈ wsX4_divides := by decide +kernel
theorem w_X4_divides__fieldLink_RX4_109_WordsBesideModel_mendOne_I__796736 : (.fieldLink RX4 109 "WordsBesideModel" "mendOne" "I" : Cond) ∈ wsX4_divides := by decide +kernel
theorem w_X4_divides__fieldLink_RX4_20_WordsBesideModel_of_I__9fac8e : (.fieldLink RX4 20 "WordsBesideModel" "of" "[I" : Cond) ∈ wsX4_divides := by decide +kernel
theorem in_X4_divides_X4 : ∀ w ∈ wsX40, w ∈ wsX4_divides := fun _ h => List.mem_cons_of_mem _ (List.mem_append_right _ h)
set_option maxHeartbeats 4000000 in
set_option maxRecDepth 100000 in
theorem c_X4_divides (l : Launch) (D : va_G) (cI cZ cW cC : ClassId) (ad : Nat → Nat) (ln st gv oF kF fF sF bF mF hF : Nat → Int32) (kp cm m1 m2 : Int32) (fo bo : Nat → Nat) (n k : Nat) (hn : n ≤ 40) (hk : k ≤ 30) (HC : zHC fo bo oF kF fF bF n k) (hB : zB (zG gv 31) 1536) (i : Nat) (hi : i < n) (sz : Nat) : zq_mu l D cI cZ cW cC yX4_divides wsX4_divides ({ frames := 2, cells := 0, slots := 0, locals := 45 } : Room) [.ref (ad 0), .int (nI i)] (mW cI cZ ad ln st gv oF kF fF sF bF mF hF kp cm m1 m2) sz (fun v w1 => v = some (.int 1) ∧ w1 = (mW cI cZ ad ln st gv oF kF fF sF bF mF hF kp cm (nI (zgd (zgc (zG gv 31) (fo i) 256) 1000)) m2)) 0 0 := by
  refine zq_muZ (own := RX4) (by decide) rfl rfl (Nat.le_of_ble_eq_true rfl) ?_
  intro p e s m below meth c Q A ls hsz hF hin hA hP hK hD hS hl ret
  obtain ⟨hx, hb, hml, hown, hts⟩ := hF
  have hl : lv_has ls 5 [(0, .ref (ad 0)), (1, .int (nI i))] := hl
  obtain ⟨ho, hf, hk8, h3, h5, h7, hbb, hbk⟩ := HC i hi
  refine lv_aload_n hx hb dX4_divides_0 rfl (lv_at hl 0 rfl) ?_
  refine lv_sipush (v := (nI 1000)) hx hb dX4_divides_1 (by decide) ?_
  refine zq_put hx hb hts in_X4_divides_X4 tyX4 tyX4_ok nmX4 hown hK hP hD hS 0 rfl rfl 11 (by decide) (hts _ w_X4_divides__fieldLink_RX4_109_WordsBesideModel_mendOne_I__796736) rfl rfl rfl (Nat.le_of_ble_eq_true rfl) dX4_divides_4 (fun H locs hP hD hS => ?_)
  have hP : va_P D vwCl (mW cI cZ ad ln st gv oF kF fF sF bF mF hF kp cm (nI 1000) m2) H := hP
  have hD : va_D A (mW cI cZ ad ln st gv oF kF fF sF bF mF hF kp cm (nI 1000) m2) := hD
  refine lv_iconst (v := (1 : Int32)) hx hb dX4_divides_7 (by decide) ?_
  refine lv_istore_n (lv' := [(2, .int (1 : Int32)), (0, .ref (ad 0)), (1, .int (nI i))]) hx hb dX4_divides_8 rfl hl (by decide) rfl (fun ls hl => ?_)
  have loop9 : ∀ (fu9 : Nat) (b P : Nat) (H : Heap) (locs : List Loc) (ls : Array Slot), (P + b) < fu9 → (b ≤ 1) → (1 ≤ P) → (P ≤ 1000) → ((zgd (zgc (zG gv 31) (fo i) 256) 1000) = (zgd (zgc (zG gv 31) (fo i) 256) P)) → (b = 0 → zgc (zG gv 31) (fo i) 256 % P = 0) → va_P D vwCl (mW cI cZ ad ln st gv oF kF fF sF bF mF hF kp cm (nI P) m2) H → va_D A (mW cI cZ ad ln st gv oF kF fF sF bF mF hF kp cm (nI P) m2) → va_S A s.heap H locs → lv_has ls 5 [(0, .ref (ad 0)), (1, .int (nI i)), (2, .int (nI b))] → W p l e ({ frames := 2, cells := 0, slots := 0, locals := 45 } : Room) s m ([.ref (ad 0), .int (nI i)] : List Value).toArray below meth c H locs 0 0 Q (F0 m 9 ls []) := by
    intro fu9
    induction fu9 with
    | zero => intro _ _ _ _ _ hmu; exact absurd hmu (Nat.not_lt_zero _)
    | succ fu9 ih9 =>
      intro b P H locs ls hmu9 hb2 hP1 hP2 hz hb0 hP hD hS hl
      refine lv_iload_n hx hb dX4_divides_9 rfl (lv_at hl 2 rfl) ?_
      refine lv_if_eq (tgt := 89) hx hb dX4_divides_10 (by decide) (fun c10 => ?_) (fun c10 => ?_)
      · have hb3 : b = 0 := zeq (c10.trans nI_0.symm)
        have hmod := hb0 hb3
        refine lv_iconst (v := (1 : Int32)) hx hb dX4_divides_89 (by decide) ?_
        exact ret _ _ _ _ _ _ (Or.inr rfl) ⟨rfl, by rw [hz, zgd_yes hP1 hmod]⟩ hP hD hS dX4_divides_90
      · have hb3 : b ≠ 0 := fun q => c10 (by rw [q]; rfl)
        refine lv_iconst (v := (0 : Int32)) hx hb dX4_divides_13 (by decide) ?_
        refine lv_istore_n (lv' := [(2, .int (0 : Int32)), (0, .ref (ad 0)), (1, .int (nI i))]) hx hb dX4_divides_14 rfl hl (by decide) rfl (fun ls hl => ?_)
        refine lv_iconst (v := (nI 0)) hx hb dX4_divides_15 (by decide) ?_
        refine lv_istore_n (lv' := [(3, .int (nI 0)), (2, .int (0 : Int32)), (0, .ref (ad 0)), (1, .int (nI i))]) hx hb dX4_divides_16 rfl hl (by decide) rfl (fun ls hl => ?_)
        have loop17 : ∀ (fu17 : Nat) (j b2 : Nat) (H : Heap) (locs : List Loc) (ls : Array Slot), (256 - j) < fu17 → (j ≤ 256) → (b2 ≤ 1) → (b2 = 0 → ∀ q, q < j → zdvd (zG gv 31) (fo i) P q = true) → (b2 ≠ 0 → ∃ q, q < 256 ∧ zdvd (zG gv 31) (fo i) P q = false) → va_P D vwCl (mW cI cZ ad ln st gv oF kF fF sF bF mF hF kp cm (nI P) m2) H → va_D A (mW cI cZ ad ln st gv oF kF fF sF bF mF hF kp cm (nI P) m2) → va_S A s.heap H locs → lv_has ls 5 [(0, .ref (ad 0)), (1, .int (nI i)), (2, .int (nI b2)), (3, .int (nI j))] → W p l e ({ frames := 2, cells := 0, slots := 0, locals := 45 } : Room) s m ([.ref (ad 0), .int (nI i)] : List Value).toArray below meth c H locs 0 0 Q (F0 m 17 ls []) := by
          intro fu17
          induction fu17 with
          | zero => intro _ _ _ _ _ hmu; exact absurd hmu (Nat.not_lt_zero _)
          | succ fu17 ih17 =>
            intro j b2 H locs ls hmu17 hj hc2 hm0 hm1 hP hD hS hl
            refine lv_iload_n hx hb dX4_divides_17 rfl (lv_at hl 3 rfl) ?_
            refine lv_sipush (v := (nI 256)) hx hb dX4_divides_18 (by decide) ?_
            refine lv_icmp_ge (tgt := 72) hx hb dX4_divides_21 (by decide) (fun c21 => ?_) (fun c21 => ?_)
            · have h21 := zle c21
              refine lv_iload_n hx hb dX4_divides_72 rfl (lv_at hl 2 rfl) ?_
              refine lv_if_eq (tgt := 9) hx hb dX4_divides_73 (by decide) (fun c73 => ?_) (fun c73 => ?_)
              · have hb5 : b2 = 0 := zeq (c73.trans nI_0.symm)
                subst hb5
                exact ih9 0 P _ _ ls (by omega) (by omega) hP1 hP2 hz (fun _ => (zgc_mod hB hf hP1 hP2).mpr (fun q hq => hm0 (by omega) q (by omega))) hP hD hS (lv_sub hl [0, 1, 2] rfl)
              · have hb5 : b2 ≠ 0 := fun q => c73 (by rw [q]; rfl)
                obtain ⟨q5, hq5, hd5⟩ := hm1 hb5
                have hnd : ¬ zgc (zG gv 31) (fo i) 256 % P = 0 := fun q => by
                  have := (zgc_mod hB hf hP1 hP2).mp q q5 hq5
                  rw [hd5] at this
                  cases this
                have hP3 : P ≠ 1 := fun q => hnd (by rw [q]; exact Nat.mod_one _)
                refine lv_aload_n hx hb dX4_divides_76 rfl (lv_at hl 0 rfl) ?_
                refine lv_dup hx hb dX4_divides_77 rfl ?_
                refine zq_get hx hb hts in_X4_divides_X4 hown hK hP 0 rfl rfl 11 (by decide) (hts _ w_X4_divides__fieldLink_RX4_109_WordsBesideModel_mendOne_I__796736) rfl dX4_divides_78 ?_
                refine lv_iconst (v := (nI 1)) hx hb dX4_divides_81 (by decide) ?_
                refine lv_isub hx hb dX4_divides_82 ?_
                refine zq_te (y := (nI (P - 1))) (pk_sub (by omega)) ?_
                refine zq_put hx hb hts in_X4_divides_X4 tyX4 tyX4_ok nmX4 hown hK hP hD hS 0 rfl rfl 11 (by decide) (hts _ w_X4_divides__fieldLink_RX4_109_WordsBesideModel_mendOne_I__796736) rfl rfl rfl (Nat.le_of_ble_eq_true rfl) dX4_divides_83 (fun H locs hP hD hS => ?_)
                have hP : va_P D vwCl (mW cI cZ ad ln st gv oF kF fF sF bF mF hF kp cm (nI (P - 1)) m2) H := hP
                have hD : va_D A (mW cI cZ ad ln st gv oF kF fF sF bF mF hF kp cm (nI (P - 1)) m2) := hD
                refine lv_goto (tgt := 9) hx hb dX4_divides_86 (by decide) ?_
                exact ih9 b2 (P - 1) _ _ ls (by omega) (by omega) (by omega) (by omega) (by rw [hz, zgd_no hP1 hnd]) (fun h => absurd h (by omega)) hP hD hS (lv_sub hl [0, 1, 2] rfl)
            · have h21 := znle c21
              refine lv_iload_n hx hb dX4_divides_24 rfl (lv_at hl 2 rfl) ?_
              refine lv_if_ne (tgt := 72) hx hb dX4_divides_25 (by decide) (fun c25 => ?_) (fun c25 => ?_)
              · have hb4 : b2 ≠ 0 := fun q => c25 (by rw [q]; rfl)
                refine lv_iload_n hx hb dX4_divides_72 rfl (lv_at hl 2 rfl) ?_
                refine lv_if_eq (tgt := 9) hx hb dX4_divides_73 (by decide) (fun c73 => ?_) (fun c73 => ?_)
                · have hb5 : b2 = 0 := zeq (c73.trans nI_0.symm)
                  subst hb5
                  exact ih9 0 P _ _ ls (by omega) (by omega) hP1 hP2 hz (fun _ => (zgc_mod hB hf hP1 hP2).mpr (fun q hq => hm0 (by omega) q (by omega))) hP hD hS (lv_sub hl [0, 1, 2] rfl)
                · have hb5 : b2 ≠ 0 := fun q => c73 (by rw [q]; rfl)
                  obtain ⟨q5, hq5, hd5⟩ := hm1 hb5
                  have hnd : ¬ zgc (zG gv 31) (fo i) 256 % P = 0 := fun q => by
                    have := (zgc_mod hB hf hP1 hP2).mp q q5 hq5
                    rw [hd5] at this
                    cases this
                  have hP3 : P ≠ 1 := fun q => hnd (by rw [q]; exact Nat.mod_one _)
                  refine lv_aload_n hx hb dX4_divides_76 rfl (lv_at hl 0 rfl) ?_
                  refine lv_dup hx hb dX4_divides_77 rfl ?_
                  refine zq_get hx hb hts in_X4_divides_X4 hown hK hP 0 rfl rfl 11 (by decide) (hts _ w_X4_divides__fieldLink_RX4_109_WordsBesideModel_mendOne_I__796736) rfl dX4_divides_78 ?_
                  refine lv_iconst (v := (nI 1)) hx hb dX4_divides_81 (by decide) ?_
                  refine lv_isub hx hb dX4_divides_82 ?_
                  refine zq_te (y := (nI (P - 1))) (pk_sub (by omega)) ?_
                  refine zq_put hx hb hts in_X4_divides_X4 tyX4 tyX4_ok nmX4 hown hK hP hD hS 0 rfl rfl 11 (by decide) (hts _ w_X4_divides__fieldLink_RX4_109_WordsBesideModel_mendOne_I__796736) rfl rfl rfl (Nat.le_of_ble_eq_true rfl) dX4_divides_83 (fun H locs hP hD hS => ?_)
                  have hP : va_P D vwCl (mW cI cZ ad ln st gv oF kF fF sF bF mF hF kp cm (nI (P - 1)) m2) H := hP
                  have hD : va_D A (mW cI cZ ad ln st gv oF kF fF sF bF mF hF kp cm (nI (P - 1)) m2) := hD
                  refine lv_goto (tgt := 9) hx hb dX4_divides_86 (by decide) ?_
                  exact ih9 b2 (P - 1) _ _ ls (by omega) (by omega) (by omega) (by omega) (by rw [hz, zgd_no hP1 hnd]) (fun h => absurd h (by omega)) hP hD hS (lv_sub hl [0, 1, 2] rfl)
              · have hb4 : b2 = 0 := zeq (c25.trans nI_0.symm)
                refine lv_aload_n hx hb dX4_divides_28 rfl (lv_at hl 0 rfl) ?_
                refine lv_bipush (v := (nI 31)) hx hb dX4_divides_29 (by decide) ?_
                refine lv_aload_n hx hb dX4_divides_31 rfl (lv_at hl 0 rfl) ?_
                refine zq_get hx hb hts in_X4_divides_X4 hown hK hP 0 rfl rfl 5 (by decide) (hts _ w_X4_divides__fieldLink_RX4_20_WordsBesideModel_of_I__9fac8e) rfl dX4_divides_32 ?_
                refine lv_iload_n hx hb dX4_divides_35 rfl (lv_at hl 1 rfl) ?_
                refine zq_ild hx hb hK hP 4 rfl i rfl (by omega) (by decide) dX4_divides_36 ?_
                refine zq_te (y := (nI (fo i))) ho ?_
                refine lv_iload_n hx hb dX4_divides_37 rfl (lv_at hl 3 rfl) ?_
                refine zq_cV (rest := []) ⟨hx, hb, hml, hown, hts⟩ (c_X4_give l D cI cZ cW cC ad ln st gv oF kF fF sF bF mF hF kp cm (nI P) m2 31 (fo i) j (by omega) (by omega) (by omega)) (cwV 3 hts gX4_divides_X4_give rfl rfl rfl (by decide +kernel) ⟨Nat.le_of_ble_eq_true rfl, Nat.le_of_ble_eq_true rfl⟩) hK hP 4 0 rfl rfl rfl hl.1 rfl (Nat.le_of_ble_eq_true rfl) dX4_divides_38 ⟨Nat.le_of_ble_eq_true rfl, Nat.le_of_ble_eq_true rfl⟩ (fun v hv => ?_)
                obtain rfl := hv
                refine W.eq (g2 := F0 m 41 ls [.int (zG gv 31 (256 * (fo i) + j))]) rfl ?_
                refine lv_istore (lv' := [(4, .int (zG gv 31 (256 * (fo i) + j))), (0, .ref (ad 0)), (1, .int (nI i)), (2, .int (nI b2)), (3, .int (nI j))]) hx hb dX4_divides_41 hl (by decide) rfl (fun ls hl => ?_)
                refine lv_iload hx hb dX4_divides_43 (lv_at hl 0 rfl) ?_
                refine lv_ldc (v := (-2147483648 : Int32)) hx hb hown (hts _ w_X4_divides__constant_RX4_64_2147483648__c0c951) dX4_divides_45 ?_
                refine lv_icmp_eq (tgt := 64) hx hb dX4_divides_47 (by decide) (fun c47 => ?_) (fun c47 => ?_)
                · refine lv_iconst (v := (0 : Int32)) hx hb dX4_divides_64 (by decide) ?_
                  refine lv_istore_n (lv' := [(2, .int (0 : Int32)), (4, .int (zG gv 31 (256 * (fo i) + j))), (0, .ref (ad 0)), (1, .int (nI i)), (3, .int (nI j))]) hx hb dX4_divides_65 rfl hl (by decide) rfl (fun ls hl => ?_)
                  refine lv_iinc (v := (nI (j + 1))) (lv' := [(3, .int (nI (j + 1))), (2, .int (0 : Int32)), (4, .int (zG gv 31 (256 * (fo i) + j))), (0, .ref (ad 0)), (1, .int (nI i))]) hx hb dX4_divides_66 hl (k := 4) rfl ((nI_succ _).symm) (by decide) rfl (fun ls hl => ?_)
                  refine lv_goto (tgt := 17) hx hb dX4_divides_69 (by decide) ?_
                  exact ih17 (j + 1) 0 _ _ ls (by omega) (by omega) (by omega) (fun _ => lt_s (hm0 hb4) (by simp [zdvd, c47])) (fun h => absurd rfl h) hP hD hS (lv_sub hl [3, 4, 1, 0] rfl)
                · refine lv_iload hx hb dX4_divides_50 (lv_at hl 0 rfl) ?_
                  refine lv_aload_n hx hb dX4_divides_52 rfl (lv_at hl 1 rfl) ?_
                  refine zq_get hx hb hts in_X4_divides_X4 hown hK hP 0 rfl rfl 11 (by decide) (hts _ w_X4_divides__fieldLink_RX4_109_WordsBesideModel_mendOne_I__796736) rfl dX4_divides_53 ?_
                  refine lv_irem hx hb dX4_divides_56 (nI_ne0 (by omega) (by omega)) ?_
                  refine lv_if_eq (tgt := 64) hx hb dX4_divides_57 (by decide) (fun c57 => ?_) (fun c57 => ?_)
                  · refine lv_iconst (v := (0 : Int32)) hx hb dX4_divides_64 (by decide) ?_
                    refine lv_istore_n (lv' := [(2, .int (0 : Int32)), (4, .int (zG gv 31 (256 * (fo i) + j))), (0, .ref (ad 0)), (1, .int (nI i)), (3, .int (nI j))]) hx hb dX4_divides_65 rfl hl (by decide) rfl (fun ls hl => ?_)
                    refine lv_iinc (v := (nI (j + 1))) (lv' := [(3, .int (nI (j + 1))), (2, .int (0 : Int32)), (4, .int (zG gv 31 (256 * (fo i) + j))), (0, .ref (ad 0)), (1, .int (nI i))]) hx hb dX4_divides_66 hl (k := 4) rfl ((nI_succ _).symm) (by decide) rfl (fun ls hl => ?_)
                    refine lv_goto (tgt := 17) hx hb dX4_divides_69 (by decide) ?_
                    exact ih17 (j + 1) 0 _ _ ls (by omega) (by omega) (by omega) (fun _ => lt_s (hm0 hb4) (by simp [zdvd, c57])) (fun h => absurd rfl h) hP hD hS (lv_sub hl [3, 4, 1, 0] rfl)
                  · refine lv_iconst (v := (1 : Int32)) hx hb dX4_divides_60 (by decide) ?_
                    refine lv_goto (tgt := 65) hx hb dX4_divides_61 (by decide) ?_
                    refine lv_istore_n (lv' := [(2, .int (1 : Int32)), (4, .int (zG gv 31 (256 * (fo i) + j))), (0, .ref (ad 0)), (1, .int (nI i)), (3, .int (nI j))]) hx hb dX4_divides_65 rfl hl (by decide) rfl (fun ls hl => ?_)
                    refine lv_iinc (v := (nI (j + 1))) (lv' := [(3, .int (nI (j + 1))), (2, .int (1 : Int32)), (4, .int (zG gv 31 (256 * (fo i) + j))), (0, .ref (ad 0)), (1, .int (nI i))]) hx hb dX4_divides_66 hl (k := 4) rfl ((nI_succ _).symm) (by decide) rfl (fun ls hl => ?_)
                    refine lv_goto (tgt := 17) hx hb dX4_divides_69 (by decide) ?_
                    exact ih17 (j + 1) 1 _ _ ls (by omega) (by omega) (by omega) (fun h => absurd h (by omega)) (fun _ => ⟨j, by omega, by simp [zdvd, c47, c57]⟩) hP hD hS (lv_sub hl [3, 4, 1, 0] rfl)
        exact loop17 (256 + 1) 0 0 _ _ ls (by omega) (by omega) (by omega) (fun _ q hq => absurd hq (Nat.not_lt_zero q)) (fun h => absurd rfl h) hP hD hS (lv_sub hl [2, 3, 1, 0] rfl)
  exact loop9 (1001 + 1) 1 1000 _ _ ls (by omega) (by omega) (by omega) (by omega) rfl (fun h => absurd h (by omega)) hP hD hS (lv_sub hl [1, 2, 0] rfl)

/-! the reference: missing, count, canBe -/
def zlow (G : Nat → Int32) (f : Nat) : Nat → Bool := fun r => decide (¬ G (256 * f + r) = zNO ∧ G (256 * f + r) < 0)
theorem zex_t {d : Nat → Bool} {j : Nat} {b : Bool} (hb : b = decide (0 < fb_ct d j)) (h : b = true) : true = decide (0 < fb_ct d (j + 1)) := by
  rw [h] at hb
  have h1 : 0 < fb_ct d j := of_decide_eq_true hb.symm
  rw [eq_comm, decide_eq_true_eq, fb_ct_succ]
  omega
theorem zex_n {d : Nat → Bool} {j : Nat} (hd : d j = true) : true = decide (0 < fb_ct d (j + 1)) := by
  rw [eq_comm, decide_eq_true_eq, fb_ct_succ, hd]
  simp
theorem zex_f {d : Nat → Bool} {j : Nat} {b : Bool} (hb : b = decide (0 < fb_ct d j)) (h : b = false) (hd : d j = false) : false = decide (0 < fb_ct d (j + 1)) := by
  rw [h] at hb
  have h1 : ¬ 0 < fb_ct d j := of_decide_eq_false hb.symm
  rw [eq_comm, decide_eq_false_iff_not, fb_ct_succ, hd]
  simpa using h1
theorem zif_b {P : Prop} [Decidable P] (h : (if P then (1 : Int32) else 0) = 0) : ¬ P := fun q => by
  rw [if_pos q] at h
  exact absurd h (by decide)
theorem zif_a {P : Prop} [Decidable P] (h : ¬ (if P then (1 : Int32) else 0) = 0) : P := by
  by_cases q : P
  · exact q
  · exact absurd (if_neg q) h
def zP1 (kF : Nat → Int32) : Nat → Bool := fun i => decide (kF i = 1 ∨ kF i = 6)
def zP2 (kF : Nat → Int32) : Nat → Bool := fun i => decide (kF i = 0)
def zP3 : Nat → Bool := fun _ => true
def zmsf (G : Nat → Int32) (fo : Nat → Nat) (kF : Nat → Int32) (n len f : Nat) : Int32 := ((if 0 < fb_ct (zref G f) 256 ∧ ¬ 0 < fb_ct (zhas fo f (zP1 kF)) n then (1 : Int32) else 0) ||| (if 0 < fb_ct (zlow G f) 256 ∧ ¬ 0 < fb_ct (zhas fo f (zP2 kF)) n then (2 : Int32) else 0)) ||| (if 0 < len ∧ ¬ 0 < fb_ct (zhas fo f zP3) n then (4 : Int32) else 0)
noncomputable def zmiss (G : Nat → Int32) (fo : Nat → Nat) (kF : Nat → Int32) (n : Nat) (L : Nat → Nat) (f : Int32) : Int32 := by
  classical
  exact if zr 6 f then zmsf G fo kF n (L f.toNatClampNeg) f.toNatClampNeg else -1
theorem zmiss_in {G : Nat → Int32} {fo : Nat → Nat} {kF : Nat → Int32} {n : Nat} {L : Nat → Nat} {f : Nat} (h : f < 6) : zmiss G fo kF n L (nI f) = zmsf G fo kF n (L f) f := by
  unfold zmiss
  rw [if_pos (zr_nI h), nI_clamp (by omega)]
theorem zmiss_no {G : Nat → Int32} {fo : Nat → Nat} {kF : Nat → Int32} {n : Nat} {L : Nat → Nat} {f : Int32} (h : ¬ zr 6 f) : zmiss G fo kF n L f = -1 := by
  unfold zmiss
  rw [if_neg h]
/-- lengths -/
def zHL (ln : Nat → Int32) (L : Nat → Nat) : Prop := ∀ f, f < 6 → ln f = nI (L f) ∧ L f ≤ 12
theorem zrng {b n : Nat} {x : Int32} (hb : b + n < 2 ^ 30) (h : nI b ≤ x ∧ x ≤ nI (b + n)) : ∃ j, j < n + 1 ∧ x = nI (b + j) := by
  have h0 : ¬ x < 0 := fun q => by
    have h1 := Int32.le_iff_toInt_le.mp h.1
    have h2 := Int32.lt_iff_toInt_lt.mp q
    rw [nI_toInt (by omega)] at h1
    rw [show (0 : Int32).toInt = 0 from rfl] at h2
    omega
  obtain ⟨i, hi, rfl⟩ := nI_of h0
  have h1 := zle h.1 (by omega) hi
  have h2 := zle h.2 hi (by omega)
  exact ⟨i - b, by omega, by rw [show b + (i - b) = i by omega]⟩
noncomputable def zcnt (n k : Nat) (wh : Int32) (Lf Rf sd mk : Nat → Int32) : Int32 := by
  classical
  exact if (∃ j, j < 6 ∧ wh = nI (10 + j)) then Lf (wh.toNatClampNeg - 10) else if (∃ j, j < 6 ∧ wh = nI (20 + j)) then Rf (wh.toNatClampNeg - 20) else if wh = 0 then nI n else if wh = 1 then nI k
    else if wh = 2 then nI (fb_ct (fun i => decide (sd i = 0)) n) else if wh = 3 then nI (fb_ct (fun i => decide (sd i = 1)) n) else if wh = 4 then nI (fb_ct (fun i => decide (sd i = 2)) n) else if wh = 5 then nI (fb_ct (fun i => decide (¬ mk i = 0)) n) else -1
theorem zcnt_10 {n k j : Nat} {Lf Rf sd mk : Nat → Int32} (hj : j < 6) : zcnt n k (nI (10 + j)) Lf Rf sd mk = Lf j := by
  unfold zcnt
  rw [if_pos ⟨j, hj, rfl⟩, nI_clamp (by omega), show 10 + j - 10 = j by omega]
theorem zcnt_20 {n k j : Nat} {Lf Rf sd mk : Nat → Int32} (hj : j < 6) : zcnt n k (nI (20 + j)) Lf Rf sd mk = Rf j := by
  unfold zcnt
  rw [if_neg (fun ⟨i, hi, e⟩ => by have := zeq e; omega), if_pos ⟨j, hj, rfl⟩, nI_clamp (by omega), show 20 + j - 20 = j by omega]
theorem zcnt_lo {n k : Nat} {wh : Int32} {Lf Rf sd mk : Nat → Int32} (h1 : ¬ ∃ j, j < 6 ∧ wh = nI (10 + j)) (h2 : ¬ ∃ j, j < 6 ∧ wh = nI (20 + j)) : zcnt n k wh Lf Rf sd mk = if wh = 0 then nI n else if wh = 1 then nI k
    else if wh = 2 then nI (fb_ct (fun i => decide (sd i = 0)) n) else if wh = 3 then nI (fb_ct (fun i => decide (sd i = 1)) n) else if wh = 4 then nI (fb_ct (fun i => decide (sd i = 2)) n) else if wh = 5 then nI (fb_ct (fun i => decide (¬ mk i = 0)) n) else -1 := by
  unfold zcnt
  rw [if_neg h1, if_neg h2]
theorem z6 {x : Int32} : zr 6 x ↔ (x = 0 ∨ x = 1 ∨ x = 2 ∨ x = 3 ∨ x = 4 ∨ x = 5) := by
  constructor
  · rintro ⟨j, hj, rfl⟩
    have : j = 0 ∨ j = 1 ∨ j = 2 ∨ j = 3 ∨ j = 4 ∨ j = 5 := by omega
    rcases this with rfl | rfl | rfl | rfl | rfl | rfl
    · exact Or.inl rfl
    · exact Or.inr (Or.inl rfl)
    · exact Or.inr (Or.inr (Or.inl rfl))
    · exact Or.inr (Or.inr (Or.inr (Or.inl rfl)))
    · exact Or.inr (Or.inr (Or.inr (Or.inr (Or.inl rfl))))
    · exact Or.inr (Or.inr (Or.inr (Or.inr (Or.inr rfl))))
  · rintro (rfl | rfl | rfl | rfl | rfl | rfl)
    · exact ⟨0, by omega, rfl⟩
    · exact ⟨1, by omega, rfl⟩
    · exact ⟨2, by omega, rfl⟩
    · exact ⟨3, by omega, rfl⟩
    · exact ⟨4, by omega, rfl⟩
    · exact ⟨5, by omega, rfl⟩
theorem zcnt_no {n k : Nat} {wh : Int32} {Lf Rf sd mk : Nat → Int32} (h1 : ¬ ∃ j, j < 6 ∧ wh = nI (10 + j)) (h2 : ¬ ∃ j, j < 6 ∧ wh = nI (20 + j)) (h3 : ¬ zr 6 wh) : zcnt n k wh Lf Rf sd mk = -1 := by
  have h4 : ¬ (wh = 0 ∨ wh = 1 ∨ wh = 2 ∨ wh = 3 ∨ wh = 4 ∨ wh = 5) := fun q => h3 (z6.mpr q)
  simp only [not_or] at h4
  rw [zcnt_lo h1 h2, if_neg h4.1, if_neg h4.2.1, if_neg h4.2.2.1, if_neg h4.2.2.2.1, if_neg h4.2.2.2.2.1, if_neg h4.2.2.2.2.2]

theorem ch1_X4 (l : Launch) (D : va_G) (cI cZ cW cC : ClassId) (ad : Nat → Nat) (ln st gv oF kF fF sF bF mF hF : Nat → Int32) (kp cm m1 m2 : Int32) (fo bo : Nat → Nat) (n k : Nat) (hn : n ≤ 40) (hk : k ≤ 30) (HC : zHC fo bo oF kF fF bF n k) (en : cm = nI n) (f : Nat) (hf0 : f < 6) : zq_ro l D cI cZ cW cC yX4_hasClaim wsX4_hasClaim ({ frames := 0, cells := 0, slots := 0, locals := 0 } : Room) [.ref (ad 0), .int (nI f), .int 1, .int (nI 6)] (mW cI cZ ad ln st gv oF kF fF sF bF mF hF kp cm m1 m2) (fun v => v = some (.int (if 0 < fb_ct (zhas fo f (zP1 kF)) n then 1 else 0))) := zq_ro_mono (c_X4_hasClaim l D cI cZ cW cC ad ln st gv oF kF fF sF bF mF hF kp cm m1 m2 fo bo n k hn hk HC en f hf0 1 (nI 6)) (fun v h => by rw [h, show (fun i => decide ((1 : Int32) = -1 ∨ kF i = 1 ∨ kF i = (nI 6))) = (zP1 kF) from by funext i; simp [zP1] <;> rfl])
theorem ch2_X4 (l : Launch) (D : va_G) (cI cZ cW cC : ClassId) (ad : Nat → Nat) (ln st gv oF kF fF sF bF mF hF : Nat → Int32) (kp cm m1 m2 : Int32) (fo bo : Nat → Nat) (n k : Nat) (hn : n ≤ 40) (hk : k ≤ 30) (HC : zHC fo bo oF kF fF bF n k) (en : cm = nI n) (f : Nat) (hf0 : f < 6) : zq_ro l D cI cZ cW cC yX4_hasClaim wsX4_hasClaim ({ frames := 0, cells := 0, slots := 0, locals := 0 } : Room) [.ref (ad 0), .int (nI f), .int 0, .int 0] (mW cI cZ ad ln st gv oF kF fF sF bF mF hF kp cm m1 m2) (fun v => v = some (.int (if 0 < fb_ct (zhas fo f (zP2 kF)) n then 1 else 0))) := zq_ro_mono (c_X4_hasClaim l D cI cZ cW cC ad ln st gv oF kF fF sF bF mF hF kp cm m1 m2 fo bo n k hn hk HC en f hf0 0 0) (fun v h => by rw [h, show (fun i => decide ((0 : Int32) = -1 ∨ kF i = 0 ∨ kF i = 0)) = (zP2 kF) from by funext i; simp [zP2]])
theorem ch3_X4 (l : Launch) (D : va_G) (cI cZ cW cC : ClassId) (ad : Nat → Nat) (ln st gv oF kF fF sF bF mF hF : Nat → Int32) (kp cm m1 m2 : Int32) (fo bo : Nat → Nat) (n k : Nat) (hn : n ≤ 40) (hk : k ≤ 30) (HC : zHC fo bo oF kF fF bF n k) (en : cm = nI n) (f : Nat) (hf0 : f < 6) : zq_ro l D cI cZ cW cC yX4_hasClaim wsX4_hasClaim ({ frames := 0, cells := 0, slots := 0, locals := 0 } : Room) [.ref (ad 0), .int (nI f), .int (-1), .int (-1)] (mW cI cZ ad ln st gv oF kF fF sF bF mF hF kp cm m1 m2) (fun v => v = some (.int (if 0 < fb_ct (zhas fo f zP3) n then 1 else 0))) := zq_ro_mono (c_X4_hasClaim l D cI cZ cW cC ad ln st gv oF kF fF sF bF mF hF kp cm m1 m2 fo bo n k hn hk HC en f hf0 (-1) (-1)) (fun v h => by rw [h, show (fun i => decide (((-1) : Int32) = -1 ∨ kF i = (-1) ∨ kF i = (-1))) = zP3 from by funext i; simp [zP3]])
theorem w_X4_missing__constant_RX4_64_2147483648__c0c951 : (.constant RX4 64 (-2147483648) : Cond) ∈ wsX4_missing := by decide +kernel
theorem w_X4_missing__fieldLink_RX4_9_WordsBesideModel_longs_I__8385b9 : (.fieldLink RX4 9 "WordsBesideModel" "longs" "[I" : Cond) ∈ wsX4_missing := by decide +kernel
theorem in_X4_missing_X4 : ∀ w ∈ wsX40, w ∈ wsX4_missing := fun _ h => List.mem_cons_of_mem _ (List.mem_append_right _ h)
set_option maxHeartbeats 4000000 in
set_option maxRecDepth 100000 in
theorem c_X4_missing (l : Launch) (D : va_G) (cI cZ cW cC : ClassId) (ad : Nat → Nat) (ln st gv oF kF fF sF bF mF hF : Nat → Int32) (kp cm m1 m2 : Int32) (fo bo : Nat → Nat) (n k : Nat) (hn : n ≤ 40) (hk : k ≤ 30) (HC : zHC fo bo oF kF fF bF n k) (en : cm = nI n) (L : Nat → Nat) (HL : zHL ln L) (fx : Int32) : zq_ro l D cI cZ cW cC yX4_missing wsX4_missing ({ frames := 3, cells := 0, slots := 0, locals := 68 } : Room) [.ref (ad 0), .int fx] (mW cI cZ ad ln st gv oF kF fF sF bF mF hF kp cm m1 m2) (fun v => v = some (.int (zmiss (zG gv 31) fo kF n L fx))) := by
  refine zq_roI (own := RX4) (by decide) rfl rfl (Nat.le_of_ble_eq_true rfl) ?_
  intro p e s m below meth c Q ls hF hP hK hl ret
  obtain ⟨hx, hb, hml, hown, hts⟩ := hF
  have hl : lv_has ls 5 [(0, .ref (ad 0)), (1, .int fx)] := hl
  refine lv_iload_n hx hb dX4_missing_0 rfl (lv_at hl 1 rfl) ?_
  refine zq_cS (rest := []) ⟨hx, hb, hml, hown, hts⟩ (c_X4_isFunction l D cI cZ cW cC fx) (va_cwS 1 hts gX4_missing_X4_isFunction rfl rfl rfl (by decide +kernel) ⟨Nat.le_of_ble_eq_true rfl, Nat.le_of_ble_eq_true rfl⟩) hK (fun k q h => by simp at h) rfl hl.1 rfl (Nat.le_of_ble_eq_true rfl) dX4_missing_1 ⟨Nat.le_of_ble_eq_true rfl, Nat.le_of_ble_eq_true rfl⟩ (fun v hv => ?_)
  rcases hv with ⟨rfl, f, hf, rfl⟩ | ⟨rfl, hyf⟩
  · refine W.eq (g2 := F0 m 4 ls [.int (1 : Int32)]) rfl ?_
    refine lv_if_ne (tgt := 9) hx hb dX4_missing_4 (by decide) (fun c4 => ?_) (fun c4 => absurd c4 (by decide))
    refine lv_iconst (v := (0 : Int32)) hx hb dX4_missing_9 (by decide) ?_
    refine lv_istore_n (lv' := [(2, .int (0 : Int32)), (0, .ref (ad 0)), (1, .int (nI f))]) hx hb dX4_missing_10 rfl hl (by decide) rfl (fun ls hl => ?_)
    refine lv_iconst (v := (nI 0)) hx hb dX4_missing_11 (by decide) ?_
    refine lv_istore_n (lv' := [(3, .int (nI 0)), (2, .int (0 : Int32)), (0, .ref (ad 0)), (1, .int (nI f))]) hx hb dX4_missing_12 rfl hl (by decide) rfl (fun ls hl => ?_)
    have loop13 : ∀ (fu13 : Nat) (j : Nat) (b : Bool) (ls : Array Slot), (256 - j) < fu13 → (j ≤ 256) → (b = decide (0 < fb_ct (zlow (zG gv 31) f) j)) → lv_has ls 5 [(0, .ref (ad 0)), (1, .int (nI f)), (2, .int (if b then (1 : Int32) else 0)), (3, .int (nI j))] → W p l e ({ frames := 3, cells := 0, slots := 0, locals := 68 } : Room) s m ([.ref (ad 0), .int (nI f)] : List Value).toArray below meth c s.heap [] 0 0 Q (F0 m 13 ls []) := by
      intro fu13
      induction fu13 with
      | zero => intro _ _ _ hmu; exact absurd hmu (Nat.not_lt_zero _)
      | succ fu13 ih13 =>
        intro j b ls hmu13 hj hb2 hl
        refine lv_iload_n hx hb dX4_missing_13 rfl (lv_at hl 3 rfl) ?_
        refine lv_sipush (v := (nI 256)) hx hb dX4_missing_14 (by decide) ?_
        refine lv_icmp_ge (tgt := 58) hx hb dX4_missing_17 (by decide) (fun c17 => ?_) (fun c17 => ?_)
        · have h17 := zle c17
          have hj2 : j = 256 := by omega
          subst hj2
          have hct := fb_ct_le (zref (zG gv 31) f) 256
          refine lv_aload_n hx hb dX4_missing_58 rfl (lv_at hl 0 rfl) ?_
          refine lv_iload_n hx hb dX4_missing_59 rfl (lv_at hl 1 rfl) ?_
          refine zq_cV (rest := []) ⟨hx, hb, hml, hown, hts⟩ (c_X4_refused l D cI cZ cW cC ad ln st gv oF kF fF sF bF mF hF kp cm m1 m2 f (by omega)) (cwV 1 hts gX4_missing_X4_refused rfl rfl rfl (by decide +kernel) ⟨Nat.le_of_ble_eq_true rfl, Nat.le_of_ble_eq_true rfl⟩) hK hP 4 0 rfl rfl rfl hl.1 rfl (Nat.le_of_ble_eq_true rfl) dX4_missing_60 ⟨Nat.le_of_ble_eq_true rfl, Nat.le_of_ble_eq_true rfl⟩ (fun v hv => ?_)
          obtain rfl := hv
          refine W.eq (g2 := F0 m 63 ls [.int (nI (fb_ct (zref (zG gv 31) f) 256))]) rfl ?_
          refine lv_if_le (tgt := 81) hx hb dX4_missing_63 (by decide) (fun c63 => ?_) (fun c63 => ?_)
          · have h63 : ¬ 0 < fb_ct (zref (zG gv 31) f) 256 := by have := zle (show nI (fb_ct (zref (zG gv 31) f) 256) ≤ nI 0 from c63); omega
            refine lv_iconst (v := (0 : Int32)) hx hb dX4_missing_81 (by decide) ?_
            refine lv_istore_n (lv' := [(3, .int (0 : Int32)), (0, .ref (ad 0)), (1, .int (nI f)), (2, .int (if b then (1 : Int32) else 0))]) hx hb dX4_missing_82 rfl hl (by decide) rfl (fun ls hl => ?_)
            refine lv_iload_n hx hb dX4_missing_83 rfl (lv_at hl 0 rfl) ?_
            refine lv_iload_n hx hb dX4_missing_84 rfl (lv_at hl 3 rfl) ?_
            refine lv_if_eq (tgt := 102) hx hb dX4_missing_85 (by decide) (fun c85 => ?_) (fun c85 => ?_)
            · have h85 : ¬ 0 < fb_ct (zlow (zG gv 31) f) 256 := of_decide_eq_false (hb2.symm.trans (zct_bb c85))
              refine lv_iconst (v := (0 : Int32)) hx hb dX4_missing_102 (by decide) ?_
              refine lv_ior hx hb dX4_missing_103 ?_
              refine lv_istore_n (lv' := [(3, .int ((0 : Int32) ||| (0 : Int32))), (0, .ref (ad 0)), (1, .int (nI f)), (2, .int (if b then (1 : Int32) else 0))]) hx hb dX4_missing_104 rfl hl (by decide) rfl (fun ls hl => ?_)
              refine lv_iload_n hx hb dX4_missing_105 rfl (lv_at hl 0 rfl) ?_
              refine lv_aload_n hx hb dX4_missing_106 rfl (lv_at hl 1 rfl) ?_
              refine zq_get hx hb hts in_X4_missing_X4 hown hK hP 0 rfl rfl 0 (by decide) (hts _ w_X4_missing__fieldLink_RX4_9_WordsBesideModel_longs_I__8385b9) rfl dX4_missing_107 ?_
              refine lv_iload_n hx hb dX4_missing_110 rfl (lv_at hl 2 rfl) ?_
              refine zq_ild hx hb hK hP 1 rfl f rfl (by omega) (by decide) dX4_missing_111 ?_
              refine zq_te (y := (nI (L f))) (HL f hf).1 ?_
              refine lv_if_le (tgt := 129) hx hb dX4_missing_112 (by decide) (fun c112 => ?_) (fun c112 => ?_)
              · have h112 : ¬ 0 < L f := by have := (HL f hf).2; have := zle (show nI (L f) ≤ nI 0 from c112); omega
                refine lv_iconst (v := (0 : Int32)) hx hb dX4_missing_129 (by decide) ?_
                refine lv_ior hx hb dX4_missing_130 ?_
                exact ret _ _ _ (by rw [zmiss_in hf, zmsf]; simp only [h63, h85, h112, not_true, not_false_iff, and_true, and_false, true_and, false_and, if_true, if_false]) dX4_missing_131
              · have h112 : 0 < L f := by have := (HL f hf).2; exact znle (show ¬ nI (L f) ≤ nI 0 from c112)
                refine lv_aload_n hx hb dX4_missing_115 rfl (lv_at hl 1 rfl) ?_
                refine lv_iload_n hx hb dX4_missing_116 rfl (lv_at hl 2 rfl) ?_
                refine lv_iconst (v := (-1 : Int32)) hx hb dX4_missing_117 (by decide) ?_
                refine lv_iconst (v := (-1 : Int32)) hx hb dX4_missing_118 (by decide) ?_
                refine zq_cV (rest := [.int ((0 : Int32) ||| (0 : Int32))]) ⟨hx, hb, hml, hown, hts⟩ (ch3_X4 l D cI cZ cW cC ad ln st gv oF kF fF sF bF mF hF kp cm m1 m2 fo bo n k hn hk HC en f hf) (cwV 3 hts gX4_missing_X4_hasClaim rfl rfl rfl (by decide +kernel) ⟨Nat.le_of_ble_eq_true rfl, Nat.le_of_ble_eq_true rfl⟩) hK hP 4 0 rfl rfl rfl hl.1 rfl (Nat.le_of_ble_eq_true rfl) dX4_missing_119 ⟨Nat.le_of_ble_eq_true rfl, Nat.le_of_ble_eq_true rfl⟩ (fun v hv => ?_)
                obtain rfl := hv
                refine W.eq (g2 := F0 m 122 ls [.int (if 0 < fb_ct (zhas fo f zP3) n then (1 : Int32) else 0), .int ((0 : Int32) ||| (0 : Int32))]) rfl ?_
                refine lv_if_ne (tgt := 129) hx hb dX4_missing_122 (by decide) (fun c122 => ?_) (fun c122 => ?_)
                · have h122 := zif_a c122
                  refine lv_iconst (v := (0 : Int32)) hx hb dX4_missing_129 (by decide) ?_
                  refine lv_ior hx hb dX4_missing_130 ?_
                  exact ret _ _ _ (by rw [zmiss_in hf, zmsf]; simp only [h63, h85, h112, h122, not_true, not_false_iff, and_true, and_false, true_and, false_and, if_true, if_false]) dX4_missing_131
                · have h122 := zif_b c122
                  refine lv_iconst (v := (4 : Int32)) hx hb dX4_missing_125 (by decide) ?_
                  refine lv_goto (tgt := 130) hx hb dX4_missing_126 (by decide) ?_
                  refine lv_ior hx hb dX4_missing_130 ?_
                  exact ret _ _ _ (by rw [zmiss_in hf, zmsf]; simp only [h63, h85, h112, h122, not_true, not_false_iff, and_true, and_false, true_and, false_and, if_true, if_false]) dX4_missing_131
            · have h85 : 0 < fb_ct (zlow (zG gv 31) f) 256 := of_decide_eq_true (hb2.symm.trans (zct_aa c85))
              refine lv_aload_n hx hb dX4_missing_88 rfl (lv_at hl 1 rfl) ?_
              refine lv_iload_n hx hb dX4_missing_89 rfl (lv_at hl 2 rfl) ?_
              refine lv_iconst (v := (0 : Int32)) hx hb dX4_missing_90 (by decide) ?_
              refine lv_iconst (v := (0 : Int32)) hx hb dX4_missing_91 (by decide) ?_
              refine zq_cV (rest := [.int (0 : Int32)]) ⟨hx, hb, hml, hown, hts⟩ (ch2_X4 l D cI cZ cW cC ad ln st gv oF kF fF sF bF mF hF kp cm m1 m2 fo bo n k hn hk HC en f hf) (cwV 3 hts gX4_missing_X4_hasClaim rfl rfl rfl (by decide +kernel) ⟨Nat.le_of_ble_eq_true rfl, Nat.le_of_ble_eq_true rfl⟩) hK hP 4 0 rfl rfl rfl hl.1 rfl (Nat.le_of_ble_eq_true rfl) dX4_missing_92 ⟨Nat.le_of_ble_eq_true rfl, Nat.le_of_ble_eq_true rfl⟩ (fun v hv => ?_)
              obtain rfl := hv
              refine W.eq (g2 := F0 m 95 ls [.int (if 0 < fb_ct (zhas fo f (zP2 kF)) n then (1 : Int32) else 0), .int (0 : Int32)]) rfl ?_
              refine lv_if_ne (tgt := 102) hx hb dX4_missing_95 (by decide) (fun c95 => ?_) (fun c95 => ?_)
              · have h95 := zif_a c95
                refine lv_iconst (v := (0 : Int32)) hx hb dX4_missing_102 (by decide) ?_
                refine lv_ior hx hb dX4_missing_103 ?_
                refine lv_istore_n (lv' := [(3, .int ((0 : Int32) ||| (0 : Int32))), (0, .ref (ad 0)), (1, .int (nI f)), (2, .int (if b then (1 : Int32) else 0))]) hx hb dX4_missing_104 rfl hl (by decide) rfl (fun ls hl => ?_)
                refine lv_iload_n hx hb dX4_missing_105 rfl (lv_at hl 0 rfl) ?_
                refine lv_aload_n hx hb dX4_missing_106 rfl (lv_at hl 1 rfl) ?_
                refine zq_get hx hb hts in_X4_missing_X4 hown hK hP 0 rfl rfl 0 (by decide) (hts _ w_X4_missing__fieldLink_RX4_9_WordsBesideModel_longs_I__8385b9) rfl dX4_missing_107 ?_
                refine lv_iload_n hx hb dX4_missing_110 rfl (lv_at hl 2 rfl) ?_
                refine zq_ild hx hb hK hP 1 rfl f rfl (by omega) (by decide) dX4_missing_111 ?_
                refine zq_te (y := (nI (L f))) (HL f hf).1 ?_
                refine lv_if_le (tgt := 129) hx hb dX4_missing_112 (by decide) (fun c112 => ?_) (fun c112 => ?_)
                · have h112 : ¬ 0 < L f := by have := (HL f hf).2; have := zle (show nI (L f) ≤ nI 0 from c112); omega
                  refine lv_iconst (v := (0 : Int32)) hx hb dX4_missing_129 (by decide) ?_
                  refine lv_ior hx hb dX4_missing_130 ?_
                  exact ret _ _ _ (by rw [zmiss_in hf, zmsf]; simp only [h63, h85, h95, h112, not_true, not_false_iff, and_true, and_false, true_and, false_and, if_true, if_false]) dX4_missing_131
                · have h112 : 0 < L f := by have := (HL f hf).2; exact znle (show ¬ nI (L f) ≤ nI 0 from c112)
                  refine lv_aload_n hx hb dX4_missing_115 rfl (lv_at hl 1 rfl) ?_
                  refine lv_iload_n hx hb dX4_missing_116 rfl (lv_at hl 2 rfl) ?_
                  refine lv_iconst (v := (-1 : Int32)) hx hb dX4_missing_117 (by decide) ?_
                  refine lv_iconst (v := (-1 : Int32)) hx hb dX4_missing_118 (by decide) ?_
                  refine zq_cV (rest := [.int ((0 : Int32) ||| (0 : Int32))]) ⟨hx, hb, hml, hown, hts⟩ (ch3_X4 l D cI cZ cW cC ad ln st gv oF kF fF sF bF mF hF kp cm m1 m2 fo bo n k hn hk HC en f hf) (cwV 3 hts gX4_missing_X4_hasClaim rfl rfl rfl (by decide +kernel) ⟨Nat.le_of_ble_eq_true rfl, Nat.le_of_ble_eq_true rfl⟩) hK hP 4 0 rfl rfl rfl hl.1 rfl (Nat.le_of_ble_eq_true rfl) dX4_missing_119 ⟨Nat.le_of_ble_eq_true rfl, Nat.le_of_ble_eq_true rfl⟩ (fun v hv => ?_)
                  obtain rfl := hv
                  refine W.eq (g2 := F0 m 122 ls [.int (if 0 < fb_ct (zhas fo f zP3) n then (1 : Int32) else 0), .int ((0 : Int32) ||| (0 : Int32))]) rfl ?_
                  refine lv_if_ne (tgt := 129) hx hb dX4_missing_122 (by decide) (fun c122 => ?_) (fun c122 => ?_)
                  · have h122 := zif_a c122
                    refine lv_iconst (v := (0 : Int32)) hx hb dX4_missing_129 (by decide) ?_
                    refine lv_ior hx hb dX4_missing_130 ?_
                    exact ret _ _ _ (by rw [zmiss_in hf, zmsf]; simp only [h63, h85, h95, h112, h122, not_true, not_false_iff, and_true, and_false, true_and, false_and, if_true, if_false]) dX4_missing_131
                  · have h122 := zif_b c122
                    refine lv_iconst (v := (4 : Int32)) hx hb dX4_missing_125 (by decide) ?_
                    refine lv_goto (tgt := 130) hx hb dX4_missing_126 (by decide) ?_
                    refine lv_ior hx hb dX4_missing_130 ?_
                    exact ret _ _ _ (by rw [zmiss_in hf, zmsf]; simp only [h63, h85, h95, h112, h122, not_true, not_false_iff, and_true, and_false, true_and, false_and, if_true, if_false]) dX4_missing_131
              · have h95 := zif_b c95
                refine lv_iconst (v := (2 : Int32)) hx hb dX4_missing_98 (by decide) ?_
                refine lv_goto (tgt := 103) hx hb dX4_missing_99 (by decide) ?_
                refine lv_ior hx hb dX4_missing_103 ?_
                refine lv_istore_n (lv' := [(3, .int ((0 : Int32) ||| (2 : Int32))), (0, .ref (ad 0)), (1, .int (nI f)), (2, .int (if b then (1 : Int32) else 0))]) hx hb dX4_missing_104 rfl hl (by decide) rfl (fun ls hl => ?_)
                refine lv_iload_n hx hb dX4_missing_105 rfl (lv_at hl 0 rfl) ?_
                refine lv_aload_n hx hb dX4_missing_106 rfl (lv_at hl 1 rfl) ?_
                refine zq_get hx hb hts in_X4_missing_X4 hown hK hP 0 rfl rfl 0 (by decide) (hts _ w_X4_missing__fieldLink_RX4_9_WordsBesideModel_longs_I__8385b9) rfl dX4_missing_107 ?_
                refine lv_iload_n hx hb dX4_missing_110 rfl (lv_at hl 2 rfl) ?_
                refine zq_ild hx hb hK hP 1 rfl f rfl (by omega) (by decide) dX4_missing_111 ?_
                refine zq_te (y := (nI (L f))) (HL f hf).1 ?_
                refine lv_if_le (tgt := 129) hx hb dX4_missing_112 (by decide) (fun c112 => ?_) (fun c112 => ?_)
                · have h112 : ¬ 0 < L f := by have := (HL f hf).2; have := zle (show nI (L f) ≤ nI 0 from c112); omega
                  refine lv_iconst (v := (0 : Int32)) hx hb dX4_missing_129 (by decide) ?_
                  refine lv_ior hx hb dX4_missing_130 ?_
                  exact ret _ _ _ (by rw [zmiss_in hf, zmsf]; simp only [h63, h85, h95, h112, not_true, not_false_iff, and_true, and_false, true_and, false_and, if_true, if_false]) dX4_missing_131
                · have h112 : 0 < L f := by have := (HL f hf).2; exact znle (show ¬ nI (L f) ≤ nI 0 from c112)
                  refine lv_aload_n hx hb dX4_missing_115 rfl (lv_at hl 1 rfl) ?_
                  refine lv_iload_n hx hb dX4_missing_116 rfl (lv_at hl 2 rfl) ?_
                  refine lv_iconst (v := (-1 : Int32)) hx hb dX4_missing_117 (by decide) ?_
                  refine lv_iconst (v := (-1 : Int32)) hx hb dX4_missing_118 (by decide) ?_
                  refine zq_cV (rest := [.int ((0 : Int32) ||| (2 : Int32))]) ⟨hx, hb, hml, hown, hts⟩ (ch3_X4 l D cI cZ cW cC ad ln st gv oF kF fF sF bF mF hF kp cm m1 m2 fo bo n k hn hk HC en f hf) (cwV 3 hts gX4_missing_X4_hasClaim rfl rfl rfl (by decide +kernel) ⟨Nat.le_of_ble_eq_true rfl, Nat.le_of_ble_eq_true rfl⟩) hK hP 4 0 rfl rfl rfl hl.1 rfl (Nat.le_of_ble_eq_true rfl) dX4_missing_119 ⟨Nat.le_of_ble_eq_true rfl, Nat.le_of_ble_eq_true rfl⟩ (fun v hv => ?_)
                  obtain rfl := hv
                  refine W.eq (g2 := F0 m 122 ls [.int (if 0 < fb_ct (zhas fo f zP3) n then (1 : Int32) else 0), .int ((0 : Int32) ||| (2 : Int32))]) rfl ?_
                  refine lv_if_ne (tgt := 129) hx hb dX4_missing_122 (by decide) (fun c122 => ?_) (fun c122 => ?_)
                  · have h122 := zif_a c122
                    refine lv_iconst (v := (0 : Int32)) hx hb dX4_missing_129 (by decide) ?_
                    refine lv_ior hx hb dX4_missing_130 ?_
                    exact ret _ _ _ (by rw [zmiss_in hf, zmsf]; simp only [h63, h85, h95, h112, h122, not_true, not_false_iff, and_true, and_false, true_and, false_and, if_true, if_false]) dX4_missing_131
                  · have h122 := zif_b c122
                    refine lv_iconst (v := (4 : Int32)) hx hb dX4_missing_125 (by decide) ?_
                    refine lv_goto (tgt := 130) hx hb dX4_missing_126 (by decide) ?_
                    refine lv_ior hx hb dX4_missing_130 ?_
                    exact ret _ _ _ (by rw [zmiss_in hf, zmsf]; simp only [h63, h85, h95, h112, h122, not_true, not_false_iff, and_true, and_false, true_and, false_and, if_true, if_false]) dX4_missing_131
          · have h63 : 0 < fb_ct (zref (zG gv 31) f) 256 := znle (show ¬ nI (fb_ct (zref (zG gv 31) f) 256) ≤ nI 0 from c63)
            refine lv_aload_n hx hb dX4_missing_66 rfl (lv_at hl 0 rfl) ?_
            refine lv_iload_n hx hb dX4_missing_67 rfl (lv_at hl 1 rfl) ?_
            refine lv_iconst (v := (1 : Int32)) hx hb dX4_missing_68 (by decide) ?_
            refine lv_bipush (v := (nI 6)) hx hb dX4_missing_69 (by decide) ?_
            refine zq_cV (rest := []) ⟨hx, hb, hml, hown, hts⟩ (ch1_X4 l D cI cZ cW cC ad ln st gv oF kF fF sF bF mF hF kp cm m1 m2 fo bo n k hn hk HC en f hf) (cwV 3 hts gX4_missing_X4_hasClaim rfl rfl rfl (by decide +kernel) ⟨Nat.le_of_ble_eq_true rfl, Nat.le_of_ble_eq_true rfl⟩) hK hP 4 0 rfl rfl rfl hl.1 rfl (Nat.le_of_ble_eq_true rfl) dX4_missing_71 ⟨Nat.le_of_ble_eq_true rfl, Nat.le_of_ble_eq_true rfl⟩ (fun v hv => ?_)
            obtain rfl := hv
            refine W.eq (g2 := F0 m 74 ls [.int (if 0 < fb_ct (zhas fo f (zP1 kF)) n then (1 : Int32) else 0)]) rfl ?_
            refine lv_if_ne (tgt := 81) hx hb dX4_missing_74 (by decide) (fun c74 => ?_) (fun c74 => ?_)
            · have h74 := zif_a c74
              refine lv_iconst (v := (0 : Int32)) hx hb dX4_missing_81 (by decide) ?_
              refine lv_istore_n (lv' := [(3, .int (0 : Int32)), (0, .ref (ad 0)), (1, .int (nI f)), (2, .int (if b then (1 : Int32) else 0))]) hx hb dX4_missing_82 rfl hl (by decide) rfl (fun ls hl => ?_)
              refine lv_iload_n hx hb dX4_missing_83 rfl (lv_at hl 0 rfl) ?_
              refine lv_iload_n hx hb dX4_missing_84 rfl (lv_at hl 3 rfl) ?_
              refine lv_if_eq (tgt := 102) hx hb dX4_missing_85 (by decide) (fun c85 => ?_) (fun c85 => ?_)
              · have h85 : ¬ 0 < fb_ct (zlow (zG gv 31) f) 256 := of_decide_eq_false (hb2.symm.trans (zct_bb c85))
                refine lv_iconst (v := (0 : Int32)) hx hb dX4_missing_102 (by decide) ?_
                refine lv_ior hx hb dX4_missing_103 ?_
                refine lv_istore_n (lv' := [(3, .int ((0 : Int32) ||| (0 : Int32))), (0, .ref (ad 0)), (1, .int (nI f)), (2, .int (if b then (1 : Int32) else 0))]) hx hb dX4_missing_104 rfl hl (by decide) rfl (fun ls hl => ?_)
                refine lv_iload_n hx hb dX4_missing_105 rfl (lv_at hl 0 rfl) ?_
                refine lv_aload_n hx hb dX4_missing_106 rfl (lv_at hl 1 rfl) ?_
                refine zq_get hx hb hts in_X4_missing_X4 hown hK hP 0 rfl rfl 0 (by decide) (hts _ w_X4_missing__fieldLink_RX4_9_WordsBesideModel_longs_I__8385b9) rfl dX4_missing_107 ?_
                refine lv_iload_n hx hb dX4_missing_110 rfl (lv_at hl 2 rfl) ?_
                refine zq_ild hx hb hK hP 1 rfl f rfl (by omega) (by decide) dX4_missing_111 ?_
                refine zq_te (y := (nI (L f))) (HL f hf).1 ?_
                refine lv_if_le (tgt := 129) hx hb dX4_missing_112 (by decide) (fun c112 => ?_) (fun c112 => ?_)
                · have h112 : ¬ 0 < L f := by have := (HL f hf).2; have := zle (show nI (L f) ≤ nI 0 from c112); omega
                  refine lv_iconst (v := (0 : Int32)) hx hb dX4_missing_129 (by decide) ?_
                  refine lv_ior hx hb dX4_missing_130 ?_
                  exact ret _ _ _ (by rw [zmiss_in hf, zmsf]; simp only [h63, h74, h85, h112, not_true, not_false_iff, and_true, and_false, true_and, false_and, if_true, if_false]) dX4_missing_131
                · have h112 : 0 < L f := by have := (HL f hf).2; exact znle (show ¬ nI (L f) ≤ nI 0 from c112)
                  refine lv_aload_n hx hb dX4_missing_115 rfl (lv_at hl 1 rfl) ?_
                  refine lv_iload_n hx hb dX4_missing_116 rfl (lv_at hl 2 rfl) ?_
                  refine lv_iconst (v := (-1 : Int32)) hx hb dX4_missing_117 (by decide) ?_
                  refine lv_iconst (v := (-1 : Int32)) hx hb dX4_missing_118 (by decide) ?_
                  refine zq_cV (rest := [.int ((0 : Int32) ||| (0 : Int32))]) ⟨hx, hb, hml, hown, hts⟩ (ch3_X4 l D cI cZ cW cC ad ln st gv oF kF fF sF bF mF hF kp cm m1 m2 fo bo n k hn hk HC en f hf) (cwV 3 hts gX4_missing_X4_hasClaim rfl rfl rfl (by decide +kernel) ⟨Nat.le_of_ble_eq_true rfl, Nat.le_of_ble_eq_true rfl⟩) hK hP 4 0 rfl rfl rfl hl.1 rfl (Nat.le_of_ble_eq_true rfl) dX4_missing_119 ⟨Nat.le_of_ble_eq_true rfl, Nat.le_of_ble_eq_true rfl⟩ (fun v hv => ?_)
                  obtain rfl := hv
                  refine W.eq (g2 := F0 m 122 ls [.int (if 0 < fb_ct (zhas fo f zP3) n then (1 : Int32) else 0), .int ((0 : Int32) ||| (0 : Int32))]) rfl ?_
                  refine lv_if_ne (tgt := 129) hx hb dX4_missing_122 (by decide) (fun c122 => ?_) (fun c122 => ?_)
                  · have h122 := zif_a c122
                    refine lv_iconst (v := (0 : Int32)) hx hb dX4_missing_129 (by decide) ?_
                    refine lv_ior hx hb dX4_missing_130 ?_
                    exact ret _ _ _ (by rw [zmiss_in hf, zmsf]; simp only [h63, h74, h85, h112, h122, not_true, not_false_iff, and_true, and_false, true_and, false_and, if_true, if_false]) dX4_missing_131
                  · have h122 := zif_b c122
                    refine lv_iconst (v := (4 : Int32)) hx hb dX4_missing_125 (by decide) ?_
                    refine lv_goto (tgt := 130) hx hb dX4_missing_126 (by decide) ?_
                    refine lv_ior hx hb dX4_missing_130 ?_
                    exact ret _ _ _ (by rw [zmiss_in hf, zmsf]; simp only [h63, h74, h85, h112, h122, not_true, not_false_iff, and_true, and_false, true_and, false_and, if_true, if_false]) dX4_missing_131
              · have h85 : 0 < fb_ct (zlow (zG gv 31) f) 256 := of_decide_eq_true (hb2.symm.trans (zct_aa c85))
                refine lv_aload_n hx hb dX4_missing_88 rfl (lv_at hl 1 rfl) ?_
                refine lv_iload_n hx hb dX4_missing_89 rfl (lv_at hl 2 rfl) ?_
                refine lv_iconst (v := (0 : Int32)) hx hb dX4_missing_90 (by decide) ?_
                refine lv_iconst (v := (0 : Int32)) hx hb dX4_missing_91 (by decide) ?_
                refine zq_cV (rest := [.int (0 : Int32)]) ⟨hx, hb, hml, hown, hts⟩ (ch2_X4 l D cI cZ cW cC ad ln st gv oF kF fF sF bF mF hF kp cm m1 m2 fo bo n k hn hk HC en f hf) (cwV 3 hts gX4_missing_X4_hasClaim rfl rfl rfl (by decide +kernel) ⟨Nat.le_of_ble_eq_true rfl, Nat.le_of_ble_eq_true rfl⟩) hK hP 4 0 rfl rfl rfl hl.1 rfl (Nat.le_of_ble_eq_true rfl) dX4_missing_92 ⟨Nat.le_of_ble_eq_true rfl, Nat.le_of_ble_eq_true rfl⟩ (fun v hv => ?_)
                obtain rfl := hv
                refine W.eq (g2 := F0 m 95 ls [.int (if 0 < fb_ct (zhas fo f (zP2 kF)) n then (1 : Int32) else 0), .int (0 : Int32)]) rfl ?_
                refine lv_if_ne (tgt := 102) hx hb dX4_missing_95 (by decide) (fun c95 => ?_) (fun c95 => ?_)
                · have h95 := zif_a c95
                  refine lv_iconst (v := (0 : Int32)) hx hb dX4_missing_102 (by decide) ?_
                  refine lv_ior hx hb dX4_missing_103 ?_
                  refine lv_istore_n (lv' := [(3, .int ((0 : Int32) ||| (0 : Int32))), (0, .ref (ad 0)), (1, .int (nI f)), (2, .int (if b then (1 : Int32) else 0))]) hx hb dX4_missing_104 rfl hl (by decide) rfl (fun ls hl => ?_)
                  refine lv_iload_n hx hb dX4_missing_105 rfl (lv_at hl 0 rfl) ?_
                  refine lv_aload_n hx hb dX4_missing_106 rfl (lv_at hl 1 rfl) ?_
                  refine zq_get hx hb hts in_X4_missing_X4 hown hK hP 0 rfl rfl 0 (by decide) (hts _ w_X4_missing__fieldLink_RX4_9_WordsBesideModel_longs_I__8385b9) rfl dX4_missing_107 ?_
                  refine lv_iload_n hx hb dX4_missing_110 rfl (lv_at hl 2 rfl) ?_
                  refine zq_ild hx hb hK hP 1 rfl f rfl (by omega) (by decide) dX4_missing_111 ?_
                  refine zq_te (y := (nI (L f))) (HL f hf).1 ?_
                  refine lv_if_le (tgt := 129) hx hb dX4_missing_112 (by decide) (fun c112 => ?_) (fun c112 => ?_)
                  · have h112 : ¬ 0 < L f := by have := (HL f hf).2; have := zle (show nI (L f) ≤ nI 0 from c112); omega
                    refine lv_iconst (v := (0 : Int32)) hx hb dX4_missing_129 (by decide) ?_
                    refine lv_ior hx hb dX4_missing_130 ?_
                    exact ret _ _ _ (by rw [zmiss_in hf, zmsf]; simp only [h63, h74, h85, h95, h112, not_true, not_false_iff, and_true, and_false, true_and, false_and, if_true, if_false]) dX4_missing_131
                  · have h112 : 0 < L f := by have := (HL f hf).2; exact znle (show ¬ nI (L f) ≤ nI 0 from c112)
                    refine lv_aload_n hx hb dX4_missing_115 rfl (lv_at hl 1 rfl) ?_
                    refine lv_iload_n hx hb dX4_missing_116 rfl (lv_at hl 2 rfl) ?_
                    refine lv_iconst (v := (-1 : Int32)) hx hb dX4_missing_117 (by decide) ?_
                    refine lv_iconst (v := (-1 : Int32)) hx hb dX4_missing_118 (by decide) ?_
                    refine zq_cV (rest := [.int ((0 : Int32) ||| (0 : Int32))]) ⟨hx, hb, hml, hown, hts⟩ (ch3_X4 l D cI cZ cW cC ad ln st gv oF kF fF sF bF mF hF kp cm m1 m2 fo bo n k hn hk HC en f hf) (cwV 3 hts gX4_missing_X4_hasClaim rfl rfl rfl (by decide +kernel) ⟨Nat.le_of_ble_eq_true rfl, Nat.le_of_ble_eq_true rfl⟩) hK hP 4 0 rfl rfl rfl hl.1 rfl (Nat.le_of_ble_eq_true rfl) dX4_missing_119 ⟨Nat.le_of_ble_eq_true rfl, Nat.le_of_ble_eq_true rfl⟩ (fun v hv => ?_)
                    obtain rfl := hv
                    refine W.eq (g2 := F0 m 122 ls [.int (if 0 < fb_ct (zhas fo f zP3) n then (1 : Int32) else 0), .int ((0 : Int32) ||| (0 : Int32))]) rfl ?_
                    refine lv_if_ne (tgt := 129) hx hb dX4_missing_122 (by decide) (fun c122 => ?_) (fun c122 => ?_)
                    · have h122 := zif_a c122
                      refine lv_iconst (v := (0 : Int32)) hx hb dX4_missing_129 (by decide) ?_
                      refine lv_ior hx hb dX4_missing_130 ?_
                      exact ret _ _ _ (by rw [zmiss_in hf, zmsf]; simp only [h63, h74, h85, h95, h112, h122, not_true, not_false_iff, and_true, and_false, true_and, false_and, if_true, if_false]) dX4_missing_131
                    · have h122 := zif_b c122
                      refine lv_iconst (v := (4 : Int32)) hx hb dX4_missing_125 (by decide) ?_
                      refine lv_goto (tgt := 130) hx hb dX4_missing_126 (by decide) ?_
                      refine lv_ior hx hb dX4_missing_130 ?_
                      exact ret _ _ _ (by rw [zmiss_in hf, zmsf]; simp only [h63, h74, h85, h95, h112, h122, not_true, not_false_iff, and_true, and_false, true_and, false_and, if_true, if_false]) dX4_missing_131
                · have h95 := zif_b c95
                  refine lv_iconst (v := (2 : Int32)) hx hb dX4_missing_98 (by decide) ?_
                  refine lv_goto (tgt := 103) hx hb dX4_missing_99 (by decide) ?_
                  refine lv_ior hx hb dX4_missing_103 ?_
                  refine lv_istore_n (lv' := [(3, .int ((0 : Int32) ||| (2 : Int32))), (0, .ref (ad 0)), (1, .int (nI f)), (2, .int (if b then (1 : Int32) else 0))]) hx hb dX4_missing_104 rfl hl (by decide) rfl (fun ls hl => ?_)
                  refine lv_iload_n hx hb dX4_missing_105 rfl (lv_at hl 0 rfl) ?_
                  refine lv_aload_n hx hb dX4_missing_106 rfl (lv_at hl 1 rfl) ?_
                  refine zq_get hx hb hts in_X4_missing_X4 hown hK hP 0 rfl rfl 0 (by decide) (hts _ w_X4_missing__fieldLink_RX4_9_WordsBesideModel_longs_I__8385b9) rfl dX4_missing_107 ?_
                  refine lv_iload_n hx hb dX4_missing_110 rfl (lv_at hl 2 rfl) ?_
                  refine zq_ild hx hb hK hP 1 rfl f rfl (by omega) (by decide) dX4_missing_111 ?_
                  refine zq_te (y := (nI (L f))) (HL f hf).1 ?_
                  refine lv_if_le (tgt := 129) hx hb dX4_missing_112 (by decide) (fun c112 => ?_) (fun c112 => ?_)
                  · have h112 : ¬ 0 < L f := by have := (HL f hf).2; have := zle (show nI (L f) ≤ nI 0 from c112); omega
                    refine lv_iconst (v := (0 : Int32)) hx hb dX4_missing_129 (by decide) ?_
                    refine lv_ior hx hb dX4_missing_130 ?_
                    exact ret _ _ _ (by rw [zmiss_in hf, zmsf]; simp only [h63, h74, h85, h95, h112, not_true, not_false_iff, and_true, and_false, true_and, false_and, if_true, if_false]) dX4_missing_131
                  · have h112 : 0 < L f := by have := (HL f hf).2; exact znle (show ¬ nI (L f) ≤ nI 0 from c112)
                    refine lv_aload_n hx hb dX4_missing_115 rfl (lv_at hl 1 rfl) ?_
                    refine lv_iload_n hx hb dX4_missing_116 rfl (lv_at hl 2 rfl) ?_
                    refine lv_iconst (v := (-1 : Int32)) hx hb dX4_missing_117 (by decide) ?_
                    refine lv_iconst (v := (-1 : Int32)) hx hb dX4_missing_118 (by decide) ?_
                    refine zq_cV (rest := [.int ((0 : Int32) ||| (2 : Int32))]) ⟨hx, hb, hml, hown, hts⟩ (ch3_X4 l D cI cZ cW cC ad ln st gv oF kF fF sF bF mF hF kp cm m1 m2 fo bo n k hn hk HC en f hf) (cwV 3 hts gX4_missing_X4_hasClaim rfl rfl rfl (by decide +kernel) ⟨Nat.le_of_ble_eq_true rfl, Nat.le_of_ble_eq_true rfl⟩) hK hP 4 0 rfl rfl rfl hl.1 rfl (Nat.le_of_ble_eq_true rfl) dX4_missing_119 ⟨Nat.le_of_ble_eq_true rfl, Nat.le_of_ble_eq_true rfl⟩ (fun v hv => ?_)
                    obtain rfl := hv
                    refine W.eq (g2 := F0 m 122 ls [.int (if 0 < fb_ct (zhas fo f zP3) n then (1 : Int32) else 0), .int ((0 : Int32) ||| (2 : Int32))]) rfl ?_
                    refine lv_if_ne (tgt := 129) hx hb dX4_missing_122 (by decide) (fun c122 => ?_) (fun c122 => ?_)
                    · have h122 := zif_a c122
                      refine lv_iconst (v := (0 : Int32)) hx hb dX4_missing_129 (by decide) ?_
                      refine lv_ior hx hb dX4_missing_130 ?_
                      exact ret _ _ _ (by rw [zmiss_in hf, zmsf]; simp only [h63, h74, h85, h95, h112, h122, not_true, not_false_iff, and_true, and_false, true_and, false_and, if_true, if_false]) dX4_missing_131
                    · have h122 := zif_b c122
                      refine lv_iconst (v := (4 : Int32)) hx hb dX4_missing_125 (by decide) ?_
                      refine lv_goto (tgt := 130) hx hb dX4_missing_126 (by decide) ?_
                      refine lv_ior hx hb dX4_missing_130 ?_
                      exact ret _ _ _ (by rw [zmiss_in hf, zmsf]; simp only [h63, h74, h85, h95, h112, h122, not_true, not_false_iff, and_true, and_false, true_and, false_and, if_true, if_false]) dX4_missing_131
            · have h74 := zif_b c74
              refine lv_iconst (v := (1 : Int32)) hx hb dX4_missing_77 (by decide) ?_
              refine lv_goto (tgt := 82) hx hb dX4_missing_78 (by decide) ?_
              refine lv_istore_n (lv' := [(3, .int (1 : Int32)), (0, .ref (ad 0)), (1, .int (nI f)), (2, .int (if b then (1 : Int32) else 0))]) hx hb dX4_missing_82 rfl hl (by decide) rfl (fun ls hl => ?_)
              refine lv_iload_n hx hb dX4_missing_83 rfl (lv_at hl 0 rfl) ?_
              refine lv_iload_n hx hb dX4_missing_84 rfl (lv_at hl 3 rfl) ?_
              refine lv_if_eq (tgt := 102) hx hb dX4_missing_85 (by decide) (fun c85 => ?_) (fun c85 => ?_)
              · have h85 : ¬ 0 < fb_ct (zlow (zG gv 31) f) 256 := of_decide_eq_false (hb2.symm.trans (zct_bb c85))
                refine lv_iconst (v := (0 : Int32)) hx hb dX4_missing_102 (by decide) ?_
                refine lv_ior hx hb dX4_missing_103 ?_
                refine lv_istore_n (lv' := [(3, .int ((1 : Int32) ||| (0 : Int32))), (0, .ref (ad 0)), (1, .int (nI f)), (2, .int (if b then (1 : Int32) else 0))]) hx hb dX4_missing_104 rfl hl (by decide) rfl (fun ls hl => ?_)
                refine lv_iload_n hx hb dX4_missing_105 rfl (lv_at hl 0 rfl) ?_
                refine lv_aload_n hx hb dX4_missing_106 rfl (lv_at hl 1 rfl) ?_
                refine zq_get hx hb hts in_X4_missing_X4 hown hK hP 0 rfl rfl 0 (by decide) (hts _ w_X4_missing__fieldLink_RX4_9_WordsBesideModel_longs_I__8385b9) rfl dX4_missing_107 ?_
                refine lv_iload_n hx hb dX4_missing_110 rfl (lv_at hl 2 rfl) ?_
                refine zq_ild hx hb hK hP 1 rfl f rfl (by omega) (by decide) dX4_missing_111 ?_
                refine zq_te (y := (nI (L f))) (HL f hf).1 ?_
                refine lv_if_le (tgt := 129) hx hb dX4_missing_112 (by decide) (fun c112 => ?_) (fun c112 => ?_)
                · have h112 : ¬ 0 < L f := by have := (HL f hf).2; have := zle (show nI (L f) ≤ nI 0 from c112); omega
                  refine lv_iconst (v := (0 : Int32)) hx hb dX4_missing_129 (by decide) ?_
                  refine lv_ior hx hb dX4_missing_130 ?_
                  exact ret _ _ _ (by rw [zmiss_in hf, zmsf]; simp only [h63, h74, h85, h112, not_true, not_false_iff, and_true, and_false, true_and, false_and, if_true, if_false]) dX4_missing_131
                · have h112 : 0 < L f := by have := (HL f hf).2; exact znle (show ¬ nI (L f) ≤ nI 0 from c112)
                  refine lv_aload_n hx hb dX4_missing_115 rfl (lv_at hl 1 rfl) ?_
                  refine lv_iload_n hx hb dX4_missing_116 rfl (lv_at hl 2 rfl) ?_
                  refine lv_iconst (v := (-1 : Int32)) hx hb dX4_missing_117 (by decide) ?_
                  refine lv_iconst (v := (-1 : Int32)) hx hb dX4_missing_118 (by decide) ?_
                  refine zq_cV (rest := [.int ((1 : Int32) ||| (0 : Int32))]) ⟨hx, hb, hml, hown, hts⟩ (ch3_X4 l D cI cZ cW cC ad ln st gv oF kF fF sF bF mF hF kp cm m1 m2 fo bo n k hn hk HC en f hf) (cwV 3 hts gX4_missing_X4_hasClaim rfl rfl rfl (by decide +kernel) ⟨Nat.le_of_ble_eq_true rfl, Nat.le_of_ble_eq_true rfl⟩) hK hP 4 0 rfl rfl rfl hl.1 rfl (Nat.le_of_ble_eq_true rfl) dX4_missing_119 ⟨Nat.le_of_ble_eq_true rfl, Nat.le_of_ble_eq_true rfl⟩ (fun v hv => ?_)
                  obtain rfl := hv
                  refine W.eq (g2 := F0 m 122 ls [.int (if 0 < fb_ct (zhas fo f zP3) n then (1 : Int32) else 0), .int ((1 : Int32) ||| (0 : Int32))]) rfl ?_
                  refine lv_if_ne (tgt := 129) hx hb dX4_missing_122 (by decide) (fun c122 => ?_) (fun c122 => ?_)
                  · have h122 := zif_a c122
                    refine lv_iconst (v := (0 : Int32)) hx hb dX4_missing_129 (by decide) ?_
                    refine lv_ior hx hb dX4_missing_130 ?_
                    exact ret _ _ _ (by rw [zmiss_in hf, zmsf]; simp only [h63, h74, h85, h112, h122, not_true, not_false_iff, and_true, and_false, true_and, false_and, if_true, if_false]) dX4_missing_131
                  · have h122 := zif_b c122
                    refine lv_iconst (v := (4 : Int32)) hx hb dX4_missing_125 (by decide) ?_
                    refine lv_goto (tgt := 130) hx hb dX4_missing_126 (by decide) ?_
                    refine lv_ior hx hb dX4_missing_130 ?_
                    exact ret _ _ _ (by rw [zmiss_in hf, zmsf]; simp only [h63, h74, h85, h112, h122, not_true, not_false_iff, and_true, and_false, true_and, false_and, if_true, if_false]) dX4_missing_131
              · have h85 : 0 < fb_ct (zlow (zG gv 31) f) 256 := of_decide_eq_true (hb2.symm.trans (zct_aa c85))
                refine lv_aload_n hx hb dX4_missing_88 rfl (lv_at hl 1 rfl) ?_
                refine lv_iload_n hx hb dX4_missing_89 rfl (lv_at hl 2 rfl) ?_
                refine lv_iconst (v := (0 : Int32)) hx hb dX4_missing_90 (by decide) ?_
                refine lv_iconst (v := (0 : Int32)) hx hb dX4_missing_91 (by decide) ?_
                refine zq_cV (rest := [.int (1 : Int32)]) ⟨hx, hb, hml, hown, hts⟩ (ch2_X4 l D cI cZ cW cC ad ln st gv oF kF fF sF bF mF hF kp cm m1 m2 fo bo n k hn hk HC en f hf) (cwV 3 hts gX4_missing_X4_hasClaim rfl rfl rfl (by decide +kernel) ⟨Nat.le_of_ble_eq_true rfl, Nat.le_of_ble_eq_true rfl⟩) hK hP 4 0 rfl rfl rfl hl.1 rfl (Nat.le_of_ble_eq_true rfl) dX4_missing_92 ⟨Nat.le_of_ble_eq_true rfl, Nat.le_of_ble_eq_true rfl⟩ (fun v hv => ?_)
                obtain rfl := hv
                refine W.eq (g2 := F0 m 95 ls [.int (if 0 < fb_ct (zhas fo f (zP2 kF)) n then (1 : Int32) else 0), .int (1 : Int32)]) rfl ?_
                refine lv_if_ne (tgt := 102) hx hb dX4_missing_95 (by decide) (fun c95 => ?_) (fun c95 => ?_)
                · have h95 := zif_a c95
                  refine lv_iconst (v := (0 : Int32)) hx hb dX4_missing_102 (by decide) ?_
                  refine lv_ior hx hb dX4_missing_103 ?_
                  refine lv_istore_n (lv' := [(3, .int ((1 : Int32) ||| (0 : Int32))), (0, .ref (ad 0)), (1, .int (nI f)), (2, .int (if b then (1 : Int32) else 0))]) hx hb dX4_missing_104 rfl hl (by decide) rfl (fun ls hl => ?_)
                  refine lv_iload_n hx hb dX4_missing_105 rfl (lv_at hl 0 rfl) ?_
                  refine lv_aload_n hx hb dX4_missing_106 rfl (lv_at hl 1 rfl) ?_
                  refine zq_get hx hb hts in_X4_missing_X4 hown hK hP 0 rfl rfl 0 (by decide) (hts _ w_X4_missing__fieldLink_RX4_9_WordsBesideModel_longs_I__8385b9) rfl dX4_missing_107 ?_
                  refine lv_iload_n hx hb dX4_missing_110 rfl (lv_at hl 2 rfl) ?_
                  refine zq_ild hx hb hK hP 1 rfl f rfl (by omega) (by decide) dX4_missing_111 ?_
                  refine zq_te (y := (nI (L f))) (HL f hf).1 ?_
                  refine lv_if_le (tgt := 129) hx hb dX4_missing_112 (by decide) (fun c112 => ?_) (fun c112 => ?_)
                  · have h112 : ¬ 0 < L f := by have := (HL f hf).2; have := zle (show nI (L f) ≤ nI 0 from c112); omega
                    refine lv_iconst (v := (0 : Int32)) hx hb dX4_missing_129 (by decide) ?_
                    refine lv_ior hx hb dX4_missing_130 ?_
                    exact ret _ _ _ (by rw [zmiss_in hf, zmsf]; simp only [h63, h74, h85, h95, h112, not_true, not_false_iff, and_true, and_false, true_and, false_and, if_true, if_false]) dX4_missing_131
                  · have h112 : 0 < L f := by have := (HL f hf).2; exact znle (show ¬ nI (L f) ≤ nI 0 from c112)
                    refine lv_aload_n hx hb dX4_missing_115 rfl (lv_at hl 1 rfl) ?_
                    refine lv_iload_n hx hb dX4_missing_116 rfl (lv_at hl 2 rfl) ?_
                    refine lv_iconst (v := (-1 : Int32)) hx hb dX4_missing_117 (by decide) ?_
                    refine lv_iconst (v := (-1 : Int32)) hx hb dX4_missing_118 (by decide) ?_
                    refine zq_cV (rest := [.int ((1 : Int32) ||| (0 : Int32))]) ⟨hx, hb, hml, hown, hts⟩ (ch3_X4 l D cI cZ cW cC ad ln st gv oF kF fF sF bF mF hF kp cm m1 m2 fo bo n k hn hk HC en f hf) (cwV 3 hts gX4_missing_X4_hasClaim rfl rfl rfl (by decide +kernel) ⟨Nat.le_of_ble_eq_true rfl, Nat.le_of_ble_eq_true rfl⟩) hK hP 4 0 rfl rfl rfl hl.1 rfl (Nat.le_of_ble_eq_true rfl) dX4_missing_119 ⟨Nat.le_of_ble_eq_true rfl, Nat.le_of_ble_eq_true rfl⟩ (fun v hv => ?_)
                    obtain rfl := hv
                    refine W.eq (g2 := F0 m 122 ls [.int (if 0 < fb_ct (zhas fo f zP3) n then (1 : Int32) else 0), .int ((1 : Int32) ||| (0 : Int32))]) rfl ?_
                    refine lv_if_ne (tgt := 129) hx hb dX4_missing_122 (by decide) (fun c122 => ?_) (fun c122 => ?_)
                    · have h122 := zif_a c122
                      refine lv_iconst (v := (0 : Int32)) hx hb dX4_missing_129 (by decide) ?_
                      refine lv_ior hx hb dX4_missing_130 ?_
                      exact ret _ _ _ (by rw [zmiss_in hf, zmsf]; simp only [h63, h74, h85, h95, h112, h122, not_true, not_false_iff, and_true, and_false, true_and, false_and, if_true, if_false]) dX4_missing_131
                    · have h122 := zif_b c122
                      refine lv_iconst (v := (4 : Int32)) hx hb dX4_missing_125 (by decide) ?_
                      refine lv_goto (tgt := 130) hx hb dX4_missing_126 (by decide) ?_
                      refine lv_ior hx hb dX4_missing_130 ?_
                      exact ret _ _ _ (by rw [zmiss_in hf, zmsf]; simp only [h63, h74, h85, h95, h112, h122, not_true, not_false_iff, and_true, and_false, true_and, false_and, if_true, if_false]) dX4_missing_131
                · have h95 := zif_b c95
                  refine lv_iconst (v := (2 : Int32)) hx hb dX4_missing_98 (by decide) ?_
                  refine lv_goto (tgt := 103) hx hb dX4_missing_99 (by decide) ?_
                  refine lv_ior hx hb dX4_missing_103 ?_
                  refine lv_istore_n (lv' := [(3, .int ((1 : Int32) ||| (2 : Int32))), (0, .ref (ad 0)), (1, .int (nI f)), (2, .int (if b then (1 : Int32) else 0))]) hx hb dX4_missing_104 rfl hl (by decide) rfl (fun ls hl => ?_)
                  refine lv_iload_n hx hb dX4_missing_105 rfl (lv_at hl 0 rfl) ?_
                  refine lv_aload_n hx hb dX4_missing_106 rfl (lv_at hl 1 rfl) ?_
                  refine zq_get hx hb hts in_X4_missing_X4 hown hK hP 0 rfl rfl 0 (by decide) (hts _ w_X4_missing__fieldLink_RX4_9_WordsBesideModel_longs_I__8385b9) rfl dX4_missing_107 ?_
                  refine lv_iload_n hx hb dX4_missing_110 rfl (lv_at hl 2 rfl) ?_
                  refine zq_ild hx hb hK hP 1 rfl f rfl (by omega) (by decide) dX4_missing_111 ?_
                  refine zq_te (y := (nI (L f))) (HL f hf).1 ?_
                  refine lv_if_le (tgt := 129) hx hb dX4_missing_112 (by decide) (fun c112 => ?_) (fun c112 => ?_)
                  · have h112 : ¬ 0 < L f := by have := (HL f hf).2; have := zle (show nI (L f) ≤ nI 0 from c112); omega
                    refine lv_iconst (v := (0 : Int32)) hx hb dX4_missing_129 (by decide) ?_
                    refine lv_ior hx hb dX4_missing_130 ?_
                    exact ret _ _ _ (by rw [zmiss_in hf, zmsf]; simp only [h63, h74, h85, h95, h112, not_true, not_false_iff, and_true, and_false, true_and, false_and, if_true, if_false]) dX4_missing_131
                  · have h112 : 0 < L f := by have := (HL f hf).2; exact znle (show ¬ nI (L f) ≤ nI 0 from c112)
                    refine lv_aload_n hx hb dX4_missing_115 rfl (lv_at hl 1 rfl) ?_
                    refine lv_iload_n hx hb dX4_missing_116 rfl (lv_at hl 2 rfl) ?_
                    refine lv_iconst (v := (-1 : Int32)) hx hb dX4_missing_117 (by decide) ?_
                    refine lv_iconst (v := (-1 : Int32)) hx hb dX4_missing_118 (by decide) ?_
                    refine zq_cV (rest := [.int ((1 : Int32) ||| (2 : Int32))]) ⟨hx, hb, hml, hown, hts⟩ (ch3_X4 l D cI cZ cW cC ad ln st gv oF kF fF sF bF mF hF kp cm m1 m2 fo bo n k hn hk HC en f hf) (cwV 3 hts gX4_missing_X4_hasClaim rfl rfl rfl (by decide +kernel) ⟨Nat.le_of_ble_eq_true rfl, Nat.le_of_ble_eq_true rfl⟩) hK hP 4 0 rfl rfl rfl hl.1 rfl (Nat.le_of_ble_eq_true rfl) dX4_missing_119 ⟨Nat.le_of_ble_eq_true rfl, Nat.le_of_ble_eq_true rfl⟩ (fun v hv => ?_)
                    obtain rfl := hv
                    refine W.eq (g2 := F0 m 122 ls [.int (if 0 < fb_ct (zhas fo f zP3) n then (1 : Int32) else 0), .int ((1 : Int32) ||| (2 : Int32))]) rfl ?_
                    refine lv_if_ne (tgt := 129) hx hb dX4_missing_122 (by decide) (fun c122 => ?_) (fun c122 => ?_)
                    · have h122 := zif_a c122
                      refine lv_iconst (v := (0 : Int32)) hx hb dX4_missing_129 (by decide) ?_
                      refine lv_ior hx hb dX4_missing_130 ?_
                      exact ret _ _ _ (by rw [zmiss_in hf, zmsf]; simp only [h63, h74, h85, h95, h112, h122, not_true, not_false_iff, and_true, and_false, true_and, false_and, if_true, if_false]) dX4_missing_131
                    · have h122 := zif_b c122
                      refine lv_iconst (v := (4 : Int32)) hx hb dX4_missing_125 (by decide) ?_
                      refine lv_goto (tgt := 130) hx hb dX4_missing_126 (by decide) ?_
                      refine lv_ior hx hb dX4_missing_130 ?_
                      exact ret _ _ _ (by rw [zmiss_in hf, zmsf]; simp only [h63, h74, h85, h95, h112, h122, not_true, not_false_iff, and_true, and_false, true_and, false_and, if_true, if_false]) dX4_missing_131
        · have h17 := znle c17
          refine lv_aload_n hx hb dX4_missing_20 rfl (lv_at hl 0 rfl) ?_
          refine lv_bipush (v := (nI 31)) hx hb dX4_missing_21 (by decide) ?_
          refine lv_iload_n hx hb dX4_missing_23 rfl (lv_at hl 1 rfl) ?_
          refine lv_iload_n hx hb dX4_missing_24 rfl (lv_at hl 3 rfl) ?_
          refine zq_cV (rest := []) ⟨hx, hb, hml, hown, hts⟩ (c_X4_give l D cI cZ cW cC ad ln st gv oF kF fF sF bF mF hF kp cm m1 m2 31 f j (by omega) (by omega) (by omega)) (cwV 3 hts gX4_missing_X4_give rfl rfl rfl (by decide +kernel) ⟨Nat.le_of_ble_eq_true rfl, Nat.le_of_ble_eq_true rfl⟩) hK hP 4 0 rfl rfl rfl hl.1 rfl (Nat.le_of_ble_eq_true rfl) dX4_missing_25 ⟨Nat.le_of_ble_eq_true rfl, Nat.le_of_ble_eq_true rfl⟩ (fun v hv => ?_)
          obtain rfl := hv
          refine W.eq (g2 := F0 m 28 ls [.int (zG gv 31 (256 * f + j))]) rfl ?_
          refine lv_istore (lv' := [(4, .int (zG gv 31 (256 * f + j))), (0, .ref (ad 0)), (1, .int (nI f)), (2, .int (if b then (1 : Int32) else 0)), (3, .int (nI j))]) hx hb dX4_missing_28 hl (by decide) rfl (fun ls hl => ?_)
          refine lv_iload_n hx hb dX4_missing_30 rfl (lv_at hl 3 rfl) ?_
          refine lv_if_ne (tgt := 46) hx hb dX4_missing_31 (by decide) (fun c31 => ?_) (fun c31 => ?_)
          · refine lv_iconst (v := (1 : Int32)) hx hb dX4_missing_46 (by decide) ?_
            refine lv_goto (tgt := 51) hx hb dX4_missing_47 (by decide) ?_
            refine lv_istore_n (lv' := [(2, .int (1 : Int32)), (4, .int (zG gv 31 (256 * f + j))), (0, .ref (ad 0)), (1, .int (nI f)), (3, .int (nI j))]) hx hb dX4_missing_51 rfl hl (by decide) rfl (fun ls hl => ?_)
            refine lv_iinc (v := (nI (j + 1))) (lv' := [(3, .int (nI (j + 1))), (2, .int (1 : Int32)), (4, .int (zG gv 31 (256 * f + j))), (0, .ref (ad 0)), (1, .int (nI f))]) hx hb dX4_missing_52 hl (k := 4) rfl ((nI_succ _).symm) (by decide) rfl (fun ls hl => ?_)
            refine lv_goto (tgt := 13) hx hb dX4_missing_55 (by decide) ?_
            exact ih13 (j + 1) true ls (by omega) (by omega) (zex_t hb2 (zct_aa c31)) (lv_sub hl [3, 4, 1, 0] rfl)
          · refine lv_iload hx hb dX4_missing_34 (lv_at hl 0 rfl) ?_
            refine lv_ldc (v := (-2147483648 : Int32)) hx hb hown (hts _ w_X4_missing__constant_RX4_64_2147483648__c0c951) dX4_missing_36 ?_
            refine lv_icmp_eq (tgt := 50) hx hb dX4_missing_38 (by decide) (fun c38 => ?_) (fun c38 => ?_)
            · refine lv_iconst (v := (0 : Int32)) hx hb dX4_missing_50 (by decide) ?_
              refine lv_istore_n (lv' := [(2, .int (0 : Int32)), (4, .int (zG gv 31 (256 * f + j))), (0, .ref (ad 0)), (1, .int (nI f)), (3, .int (nI j))]) hx hb dX4_missing_51 rfl hl (by decide) rfl (fun ls hl => ?_)
              refine lv_iinc (v := (nI (j + 1))) (lv' := [(3, .int (nI (j + 1))), (2, .int (0 : Int32)), (4, .int (zG gv 31 (256 * f + j))), (0, .ref (ad 0)), (1, .int (nI f))]) hx hb dX4_missing_52 hl (k := 4) rfl ((nI_succ _).symm) (by decide) rfl (fun ls hl => ?_)
              refine lv_goto (tgt := 13) hx hb dX4_missing_55 (by decide) ?_
              exact ih13 (j + 1) false ls (by omega) (by omega) (zex_f hb2 (zct_bb c31) (by simp [zlow, c38])) (lv_sub hl [3, 4, 1, 0] rfl)
            · refine lv_iload hx hb dX4_missing_41 (lv_at hl 0 rfl) ?_
              refine lv_if_ge (tgt := 50) hx hb dX4_missing_43 (by decide) (fun c43 => ?_) (fun c43 => ?_)
              · refine lv_iconst (v := (0 : Int32)) hx hb dX4_missing_50 (by decide) ?_
                refine lv_istore_n (lv' := [(2, .int (0 : Int32)), (4, .int (zG gv 31 (256 * f + j))), (0, .ref (ad 0)), (1, .int (nI f)), (3, .int (nI j))]) hx hb dX4_missing_51 rfl hl (by decide) rfl (fun ls hl => ?_)
                refine lv_iinc (v := (nI (j + 1))) (lv' := [(3, .int (nI (j + 1))), (2, .int (0 : Int32)), (4, .int (zG gv 31 (256 * f + j))), (0, .ref (ad 0)), (1, .int (nI f))]) hx hb dX4_missing_52 hl (k := 4) rfl ((nI_succ _).symm) (by decide) rfl (fun ls hl => ?_)
                refine lv_goto (tgt := 13) hx hb dX4_missing_55 (by decide) ?_
                exact ih13 (j + 1) false ls (by omega) (by omega) (zex_f hb2 (zct_bb c31) (by simp [zlow, c38, c43])) (lv_sub hl [3, 4, 1, 0] rfl)
              · refine lv_iconst (v := (1 : Int32)) hx hb dX4_missing_46 (by decide) ?_
                refine lv_goto (tgt := 51) hx hb dX4_missing_47 (by decide) ?_
                refine lv_istore_n (lv' := [(2, .int (1 : Int32)), (4, .int (zG gv 31 (256 * f + j))), (0, .ref (ad 0)), (1, .int (nI f)), (3, .int (nI j))]) hx hb dX4_missing_51 rfl hl (by decide) rfl (fun ls hl => ?_)
                refine lv_iinc (v := (nI (j + 1))) (lv' := [(3, .int (nI (j + 1))), (2, .int (1 : Int32)), (4, .int (zG gv 31 (256 * f + j))), (0, .ref (ad 0)), (1, .int (nI f))]) hx hb dX4_missing_52 hl (k := 4) rfl ((nI_succ _).symm) (by decide) rfl (fun ls hl => ?_)
                refine lv_goto (tgt := 13) hx hb dX4_missing_55 (by decide) ?_
                exact ih13 (j + 1) true ls (by omega) (by omega) (zex_n (by simp [zlow, c38, Int32.not_le.mp c43])) (lv_sub hl [3, 4, 1, 0] rfl)
    exact loop13 (256 + 1) 0 false ls (by omega) (by omega) (by simp [fb_ct]) (lv_sub hl [2, 3, 1, 0] rfl)
  · refine W.eq (g2 := F0 m 4 ls [.int (0 : Int32)]) rfl ?_
    refine lv_if_ne (tgt := 9) hx hb dX4_missing_4 (by decide) (fun c4 => absurd c4 (by decide)) (fun c4 => ?_)
    refine lv_iconst (v := (-1 : Int32)) hx hb dX4_missing_7 (by decide) ?_
    exact ret _ _ _ (by rw [zmiss_no hyf]) dX4_missing_8
theorem w_X4_count__fieldLink_RX4_35_WordsBesideModel_isMarked_Z__f949ba : (.fieldLink RX4 35 "WordsBesideModel" "isMarked" "[Z" : Cond) ∈ wsX4_count := by decide +kernel
theorem w_X4_count__fieldLink_RX4_75_WordsBesideModel_kept_I__b97d2f : (.fieldLink RX4 75 "WordsBesideModel" "kept" "I" : Cond) ∈ wsX4_count := by decide +kernel
theorem w_X4_count__fieldLink_RX4_79_WordsBesideModel_claims_I__a0b76b : (.fieldLink RX4 79 "WordsBesideModel" "claims" "I" : Cond) ∈ wsX4_count := by decide +kernel
theorem w_X4_count__fieldLink_RX4_9_WordsBesideModel_longs_I__8385b9 : (.fieldLink RX4 9 "WordsBesideModel" "longs" "[I" : Cond) ∈ wsX4_count := by decide +kernel
theorem in_X4_count_X4 : ∀ w ∈ wsX40, w ∈ wsX4_count := fun _ h => List.mem_cons_of_mem _ (List.mem_append_right _ h)
set_option maxHeartbeats 4000000 in
set_option maxRecDepth 100000 in
theorem c_X4_count (l : Launch) (D : va_G) (cI cZ cW cC : ClassId) (ad : Nat → Nat) (ln st gv oF kF fF sF bF mF hF : Nat → Int32) (kp cm m1 m2 : Int32) (fo bo : Nat → Nat) (n k : Nat) (hn : n ≤ 40) (hk : k ≤ 30) (HC : zHC fo bo oF kF fF bF n k) (ek : kp = nI k) (en : cm = nI n) (wh : Int32) : zq_ro l D cI cZ cW cC yX4_count wsX4_count ({ frames := 6, cells := 0, slots := 0, locals := 139 } : Room) [.ref (ad 0), .int wh] (mW cI cZ ad ln st gv oF kF fF sF bF mF hF kp cm m1 m2) (fun v => v = some (.int (zcnt n k wh ln (fun f => nI (fb_ct (zref (zG gv 31) f) 256)) (fun i => (zstd (zheld (zdn (zG gv 31) fo kF fF sF i)) (zlk (fun t => zheld (zdn (zG gv t) fo kF fF sF i)) (bo i) (k + 1)))) mF))) := by
  refine zq_roI (own := RX4) (by decide) rfl rfl (Nat.le_of_ble_eq_true rfl) ?_
  intro p e s m below meth c Q ls hF hP hK hl ret
  obtain ⟨hx, hb, hml, hown, hts⟩ := hF
  have hl : lv_has ls 4 [(0, .ref (ad 0)), (1, .int wh)] := hl
  refine lv_iconst (v := (0 : Int32)) hx hb dX4_count_0 (by decide) ?_
  refine lv_istore_n (lv' := [(2, .int (nI 0)), (0, .ref (ad 0)), (1, .int wh)]) hx hb dX4_count_1 rfl hl (by decide) rfl (fun ls hl => ?_)
  refine lv_iload_n hx hb dX4_count_2 rfl (lv_at hl 2 rfl) ?_
  refine lv_bipush (v := (nI 10)) hx hb dX4_count_3 (by decide) ?_
  refine lv_bipush (v := (nI 15)) hx hb dX4_count_5 (by decide) ?_
  refine zq_cS (rest := []) ⟨hx, hb, hml, hown, hts⟩ (zq_ro_mono (c_X4_in l D cI cZ cW cC wh (nI 10) (nI 15)) (fun v h => show (v = some (.int 1) ∧ ∃ j, j < 6 ∧ wh = nI (10 + j)) ∨ (v = some (.int 0) ∧ ¬ ∃ j, j < 6 ∧ wh = nI (10 + j)) from h.imp (fun q => ⟨q.1, zrng (b := 10) (n := 5) (by omega) q.2⟩) (fun q => ⟨q.1, (fun ⟨j, hj, e⟩ => q.2 (by rw [e]; exact ⟨nI_le (by omega) (by omega), nI_le (by omega) (by omega)⟩) : ¬ ∃ j, j < 6 ∧ wh = nI (10 + j))⟩))) (va_cwS 3 hts gX4_count_X4_in rfl rfl rfl (by decide +kernel) ⟨Nat.le_of_ble_eq_true rfl, Nat.le_of_ble_eq_true rfl⟩) hK (fun k q h => by simp at h) rfl hl.1 rfl (Nat.le_of_ble_eq_true rfl) dX4_count_7 ⟨Nat.le_of_ble_eq_true rfl, Nat.le_of_ble_eq_true rfl⟩ (fun v hv => ?_)
  rcases hv with ⟨rfl, j, hj, rfl⟩ | ⟨rfl, hy1⟩
  · refine W.eq (g2 := F0 m 10 ls [.int (1 : Int32)]) rfl ?_
    refine lv_if_eq (tgt := 23) hx hb dX4_count_10 (by decide) (fun c10 => absurd c10 (by decide)) (fun c10 => ?_)
    refine lv_aload_n hx hb dX4_count_13 rfl (lv_at hl 1 rfl) ?_
    refine zq_get hx hb hts in_X4_count_X4 hown hK hP 0 rfl rfl 0 (by decide) (hts _ w_X4_count__fieldLink_RX4_9_WordsBesideModel_longs_I__8385b9) rfl dX4_count_14 ?_
    refine lv_iload_n hx hb dX4_count_17 rfl (lv_at hl 2 rfl) ?_
    refine lv_bipush (v := (nI 10)) hx hb dX4_count_18 (by decide) ?_
    refine lv_isub hx hb dX4_count_20 ?_
    refine zq_te (y := (nI j)) (by rw [pk_sub (by omega), show 10 + j - 10 = j by omega]) ?_
    refine zq_ild hx hb hK hP 1 rfl j rfl (by omega) (by decide) dX4_count_21 ?_
    exact ret _ _ _ (by rw [zcnt_10 hj]) dX4_count_22
  · refine W.eq (g2 := F0 m 10 ls [.int (0 : Int32)]) rfl ?_
    refine lv_if_eq (tgt := 23) hx hb dX4_count_10 (by decide) (fun c10 => ?_) (fun c10 => absurd c10 (by decide))
    refine lv_iload_n hx hb dX4_count_23 rfl (lv_at hl 2 rfl) ?_
    refine lv_bipush (v := (nI 20)) hx hb dX4_count_24 (by decide) ?_
    refine lv_bipush (v := (nI 25)) hx hb dX4_count_26 (by decide) ?_
    refine zq_cS (rest := []) ⟨hx, hb, hml, hown, hts⟩ (zq_ro_mono (c_X4_in l D cI cZ cW cC wh (nI 20) (nI 25)) (fun v h => show (v = some (.int 1) ∧ ∃ j, j < 6 ∧ wh = nI (20 + j)) ∨ (v = some (.int 0) ∧ ¬ ∃ j, j < 6 ∧ wh = nI (20 + j)) from h.imp (fun q => ⟨q.1, zrng (b := 20) (n := 5) (by omega) q.2⟩) (fun q => ⟨q.1, (fun ⟨j, hj, e⟩ => q.2 (by rw [e]; exact ⟨nI_le (by omega) (by omega), nI_le (by omega) (by omega)⟩) : ¬ ∃ j, j < 6 ∧ wh = nI (20 + j))⟩))) (va_cwS 3 hts gX4_count_X4_in rfl rfl rfl (by decide +kernel) ⟨Nat.le_of_ble_eq_true rfl, Nat.le_of_ble_eq_true rfl⟩) hK (fun k q h => by simp at h) rfl hl.1 rfl (Nat.le_of_ble_eq_true rfl) dX4_count_28 ⟨Nat.le_of_ble_eq_true rfl, Nat.le_of_ble_eq_true rfl⟩ (fun v hv => ?_)
    rcases hv with ⟨rfl, j, hj, rfl⟩ | ⟨rfl, hy2⟩
    · refine W.eq (g2 := F0 m 31 ls [.int (1 : Int32)]) rfl ?_
      refine lv_if_eq (tgt := 43) hx hb dX4_count_31 (by decide) (fun c31 => absurd c31 (by decide)) (fun c31 => ?_)
      refine lv_aload_n hx hb dX4_count_34 rfl (lv_at hl 1 rfl) ?_
      refine lv_iload_n hx hb dX4_count_35 rfl (lv_at hl 2 rfl) ?_
      refine lv_bipush (v := (nI 20)) hx hb dX4_count_36 (by decide) ?_
      refine lv_isub hx hb dX4_count_38 ?_
      refine zq_te (y := (nI j)) (by rw [pk_sub (by omega), show 20 + j - 20 = j by omega]) ?_
      refine zq_cV (rest := []) ⟨hx, hb, hml, hown, hts⟩ (c_X4_refused l D cI cZ cW cC ad ln st gv oF kF fF sF bF mF hF kp cm m1 m2 j (by omega)) (cwV 1 hts gX4_count_X4_refused rfl rfl rfl (by decide +kernel) ⟨Nat.le_of_ble_eq_true rfl, Nat.le_of_ble_eq_true rfl⟩) hK hP 4 0 rfl rfl rfl hl.1 rfl (Nat.le_of_ble_eq_true rfl) dX4_count_39 ⟨Nat.le_of_ble_eq_true rfl, Nat.le_of_ble_eq_true rfl⟩ (fun v hv => ?_)
      obtain rfl := hv
      refine W.eq (g2 := F0 m 42 ls [.int (nI (fb_ct (zref (zG gv 31) j) 256))]) rfl ?_
      exact ret _ _ _ (by rw [zcnt_20 hj]) dX4_count_42
    · refine W.eq (g2 := F0 m 31 ls [.int (0 : Int32)]) rfl ?_
      refine lv_if_eq (tgt := 43) hx hb dX4_count_31 (by decide) (fun c31 => ?_) (fun c31 => absurd c31 (by decide))
      refine lv_iload_n hx hb dX4_count_43 rfl (lv_at hl 2 rfl) ?_
      refine lv_iconst (v := (0 : Int32)) hx hb dX4_count_44 (by decide) ?_
      refine lv_iconst (v := (nI 5)) hx hb dX4_count_45 (by decide) ?_
      refine zq_cS (rest := []) ⟨hx, hb, hml, hown, hts⟩ (zq_ro_mono (cz_X4_in l D cI cZ cW cC wh 5 (by omega)) (fun v h => show (v = some (.int 1) ∧ wh = 0) ∨ (v = some (.int 1) ∧ wh = 1) ∨ (v = some (.int 1) ∧ wh = 2) ∨ (v = some (.int 1) ∧ wh = 3) ∨ (v = some (.int 1) ∧ wh = 4) ∨ (v = some (.int 1) ∧ wh = 5) ∨ (v = some (.int 0) ∧ ¬ zr 6 wh) from by rcases h with ⟨h1, h2⟩ | h2; rcases z6.mp h2 with q | q | q | q | q | q <;> simp [h1, q]; exact Or.inr (Or.inr (Or.inr (Or.inr (Or.inr (Or.inr h2))))))) (va_cwS 3 hts gX4_count_X4_in rfl rfl rfl (by decide +kernel) ⟨Nat.le_of_ble_eq_true rfl, Nat.le_of_ble_eq_true rfl⟩) hK (fun k q h => by simp at h) rfl hl.1 rfl (Nat.le_of_ble_eq_true rfl) dX4_count_46 ⟨Nat.le_of_ble_eq_true rfl, Nat.le_of_ble_eq_true rfl⟩ (fun v hv => ?_)
      rcases hv with ⟨rfl, rfl⟩ | ⟨rfl, rfl⟩ | ⟨rfl, rfl⟩ | ⟨rfl, rfl⟩ | ⟨rfl, rfl⟩ | ⟨rfl, rfl⟩ | ⟨rfl, hy5⟩
      · refine W.eq (g2 := F0 m 49 ls [.int (1 : Int32)]) rfl ?_
        refine lv_if_ne (tgt := 54) hx hb dX4_count_49 (by decide) (fun c49 => ?_) (fun c49 => absurd c49 (by decide))
        refine lv_iload_n hx hb dX4_count_54 rfl (lv_at hl 2 rfl) ?_
        refine lv_if_ne (tgt := 63) hx hb dX4_count_55 (by decide) (fun c55 => absurd c55 (by decide)) (fun c55 => ?_)
        refine lv_aload_n hx hb dX4_count_58 rfl (lv_at hl 1 rfl) ?_
        refine zq_get hx hb hts in_X4_count_X4 hown hK hP 0 rfl rfl 4 (by decide) (hts _ w_X4_count__fieldLink_RX4_79_WordsBesideModel_claims_I__a0b76b) rfl dX4_count_59 ?_
        exact ret _ _ _ (by rw [zcnt_lo hy1 hy2, if_pos rfl, en]) dX4_count_62
      · refine W.eq (g2 := F0 m 49 ls [.int (1 : Int32)]) rfl ?_
        refine lv_if_ne (tgt := 54) hx hb dX4_count_49 (by decide) (fun c49 => ?_) (fun c49 => absurd c49 (by decide))
        refine lv_iload_n hx hb dX4_count_54 rfl (lv_at hl 2 rfl) ?_
        refine lv_if_ne (tgt := 63) hx hb dX4_count_55 (by decide) (fun c55 => ?_) (fun c55 => absurd c55 (by decide))
        refine lv_iload_n hx hb dX4_count_63 rfl (lv_at hl 2 rfl) ?_
        refine lv_iconst (v := (1 : Int32)) hx hb dX4_count_64 (by decide) ?_
        refine lv_icmp_ne (tgt := 73) hx hb dX4_count_65 (by decide) (fun c65 => absurd c65 (by decide)) (fun c65 => ?_)
        refine lv_aload_n hx hb dX4_count_68 rfl (lv_at hl 1 rfl) ?_
        refine zq_get hx hb hts in_X4_count_X4 hown hK hP 0 rfl rfl 2 (by decide) (hts _ w_X4_count__fieldLink_RX4_75_WordsBesideModel_kept_I__b97d2f) rfl dX4_count_69 ?_
        exact ret _ _ _ (by rw [zcnt_lo hy1 hy2, if_neg (by decide), if_pos rfl, ek]) dX4_count_72
      · refine W.eq (g2 := F0 m 49 ls [.int (1 : Int32)]) rfl ?_
        refine lv_if_ne (tgt := 54) hx hb dX4_count_49 (by decide) (fun c49 => ?_) (fun c49 => absurd c49 (by decide))
        refine lv_iload_n hx hb dX4_count_54 rfl (lv_at hl 2 rfl) ?_
        refine lv_if_ne (tgt := 63) hx hb dX4_count_55 (by decide) (fun c55 => ?_) (fun c55 => absurd c55 (by decide))
        refine lv_iload_n hx hb dX4_count_63 rfl (lv_at hl 2 rfl) ?_
        refine lv_iconst (v := (1 : Int32)) hx hb dX4_count_64 (by decide) ?_
        refine lv_icmp_ne (tgt := 73) hx hb dX4_count_65 (by decide) (fun c65 => ?_) (fun c65 => absurd c65 (by decide))
        refine lv_iconst (v := (0 : Int32)) hx hb dX4_count_73 (by decide) ?_
        refine lv_istore_n (lv' := [(3, .int (nI 0)), (2, .int (nI 0)), (0, .ref (ad 0)), (1, .int (2 : Int32))]) hx hb dX4_count_74 rfl hl (by decide) rfl (fun ls hl => ?_)
        have loop75 : ∀ (fu75 : Nat) (j a : Nat) (ls : Array Slot), (n - j) < fu75 → (j ≤ n) → (a = fb_ct (fun i => decide ((zstd (zheld (zdn (zG gv 31) fo kF fF sF i)) (zlk (fun t => zheld (zdn (zG gv t) fo kF fF sF i)) (bo i) (k + 1))) = 0)) j) → lv_has ls 4 [(0, .ref (ad 0)), (1, .int (2 : Int32)), (2, .int (nI a)), (3, .int (nI j))] → W p l e ({ frames := 6, cells := 0, slots := 0, locals := 139 } : Room) s m ([.ref (ad 0), .int (2 : Int32)] : List Value).toArray below meth c s.heap [] 0 0 Q (F0 m 75 ls []) := by
          intro fu75
          induction fu75 with
          | zero => intro _ _ _ hmu; exact absurd hmu (Nat.not_lt_zero _)
          | succ fu75 ih75 =>
            intro j a ls hmu75 hj ea hl
            refine lv_iload_n hx hb dX4_count_75 rfl (lv_at hl 3 rfl) ?_
            refine lv_aload_n hx hb dX4_count_76 rfl (lv_at hl 0 rfl) ?_
            refine zq_get hx hb hts in_X4_count_X4 hown hK hP 0 rfl rfl 4 (by decide) (hts _ w_X4_count__fieldLink_RX4_79_WordsBesideModel_claims_I__a0b76b) rfl dX4_count_77 ?_
            refine zq_te (y := (nI n)) en ?_
            refine lv_icmp_ge (tgt := 130) hx hb dX4_count_80 (by decide) (fun c80 => ?_) (fun c80 => ?_)
            · have h80 := zle c80
              refine lv_iload_n hx hb dX4_count_130 rfl (lv_at hl 2 rfl) ?_
              exact ret _ _ _ (by rw [zcnt_lo hy1 hy2, ea, show j = n by omega]; rfl) dX4_count_131
            · have h80 := znle c80
              refine lv_iload_n hx hb dX4_count_83 rfl (lv_at hl 2 rfl) ?_
              refine lv_iload_n hx hb dX4_count_84 rfl (lv_at hl 1 rfl) ?_
              refine lv_iconst (v := (5 : Int32)) hx hb dX4_count_85 (by decide) ?_
              refine lv_icmp_ne (tgt := 106) hx hb dX4_count_86 (by decide) (fun c86 => ?_) (fun c86 => absurd c86 (by decide))
              refine lv_aload_n hx hb dX4_count_106 rfl (lv_at hl 0 rfl) ?_
              refine lv_iload_n hx hb dX4_count_107 rfl (lv_at hl 3 rfl) ?_
              refine zq_cV (rest := [.int (nI a)]) ⟨hx, hb, hml, hown, hts⟩ (c_X4_stateOf l D cI cZ cW cC ad ln st gv oF kF fF sF bF mF hF kp cm m1 m2 fo bo n k hn hk HC ek j (by omega)) (cwV 1 hts gX4_count_X4_stateOf rfl rfl rfl (by decide +kernel) ⟨Nat.le_of_ble_eq_true rfl, Nat.le_of_ble_eq_true rfl⟩) hK hP 4 0 rfl rfl rfl hl.1 rfl (Nat.le_of_ble_eq_true rfl) dX4_count_108 ⟨Nat.le_of_ble_eq_true rfl, Nat.le_of_ble_eq_true rfl⟩ (fun v hv => ?_)
              obtain rfl := hv
              refine W.eq (g2 := F0 m 111 ls [.int (zstd (zheld (zdn (zG gv 31) fo kF fF sF j)) (zlk (fun t => zheld (zdn (zG gv t) fo kF fF sF j)) (bo j) (k + 1))), .int (nI a)]) rfl ?_
              refine lv_iload_n hx hb dX4_count_111 rfl (lv_at hl 1 rfl) ?_
              refine lv_iconst (v := (2 : Int32)) hx hb dX4_count_112 (by decide) ?_
              refine lv_isub hx hb dX4_count_113 ?_
              refine zq_te (y := (0 : Int32)) (by decide) ?_
              refine lv_icmp_ne (tgt := 121) hx hb dX4_count_114 (by decide) (fun c114 => ?_) (fun c114 => ?_)
              · refine lv_iconst (v := (0 : Int32)) hx hb dX4_count_121 (by decide) ?_
                refine lv_iadd hx hb dX4_count_122 ?_
                refine zq_te (y := (nI a)) (Int32.add_zero _) ?_
                refine lv_istore_n (lv' := [(2, .int (nI a)), (0, .ref (ad 0)), (1, .int (2 : Int32)), (3, .int (nI j))]) hx hb dX4_count_123 rfl hl (by decide) rfl (fun ls hl => ?_)
                refine lv_iinc (v := (nI (j + 1))) (lv' := [(3, .int (nI (j + 1))), (2, .int (nI a)), (0, .ref (ad 0)), (1, .int (2 : Int32))]) hx hb dX4_count_124 hl (k := 3) rfl ((nI_succ _).symm) (by decide) rfl (fun ls hl => ?_)
                refine lv_goto (tgt := 75) hx hb dX4_count_127 (by decide) ?_
                exact ih75 (j + 1) a ls (by omega) (by omega) (by rw [fb_ct_succ, ← ea, if_neg (by simp only [c114]; simp), Nat.add_zero]) (lv_sub hl [2, 3, 1, 0] rfl)
              · refine lv_iconst (v := (1 : Int32)) hx hb dX4_count_117 (by decide) ?_
                refine lv_goto (tgt := 122) hx hb dX4_count_118 (by decide) ?_
                refine lv_iadd hx hb dX4_count_122 ?_
                refine zq_te (y := (nI (a + 1))) (nI_1 _) ?_
                refine lv_istore_n (lv' := [(2, .int (nI (a + 1))), (0, .ref (ad 0)), (1, .int (2 : Int32)), (3, .int (nI j))]) hx hb dX4_count_123 rfl hl (by decide) rfl (fun ls hl => ?_)
                refine lv_iinc (v := (nI (j + 1))) (lv' := [(3, .int (nI (j + 1))), (2, .int (nI (a + 1))), (0, .ref (ad 0)), (1, .int (2 : Int32))]) hx hb dX4_count_124 hl (k := 3) rfl ((nI_succ _).symm) (by decide) rfl (fun ls hl => ?_)
                refine lv_goto (tgt := 75) hx hb dX4_count_127 (by decide) ?_
                exact ih75 (j + 1) (a + 1) ls (by omega) (by omega) (by rw [fb_ct_succ, ← ea, if_pos (by simp only [c114]; simp)]) (lv_sub hl [2, 3, 1, 0] rfl)
        exact loop75 (n + 1) 0 0 ls (by omega) (by omega) rfl (lv_sub hl [2, 3, 1, 0] rfl)
      · refine W.eq (g2 := F0 m 49 ls [.int (1 : Int32)]) rfl ?_
        refine lv_if_ne (tgt := 54) hx hb dX4_count_49 (by decide) (fun c49 => ?_) (fun c49 => absurd c49 (by decide))
        refine lv_iload_n hx hb dX4_count_54 rfl (lv_at hl 2 rfl) ?_
        refine lv_if_ne (tgt := 63) hx hb dX4_count_55 (by decide) (fun c55 => ?_) (fun c55 => absurd c55 (by decide))
        refine lv_iload_n hx hb dX4_count_63 rfl (lv_at hl 2 rfl) ?_
        refine lv_iconst (v := (1 : Int32)) hx hb dX4_count_64 (by decide) ?_
        refine lv_icmp_ne (tgt := 73) hx hb dX4_count_65 (by decide) (fun c65 => ?_) (fun c65 => absurd c65 (by decide))
        refine lv_iconst (v := (0 : Int32)) hx hb dX4_count_73 (by decide) ?_
        refine lv_istore_n (lv' := [(3, .int (nI 0)), (2, .int (nI 0)), (0, .ref (ad 0)), (1, .int (3 : Int32))]) hx hb dX4_count_74 rfl hl (by decide) rfl (fun ls hl => ?_)
        have loop75 : ∀ (fu75 : Nat) (j a : Nat) (ls : Array Slot), (n - j) < fu75 → (j ≤ n) → (a = fb_ct (fun i => decide ((zstd (zheld (zdn (zG gv 31) fo kF fF sF i)) (zlk (fun t => zheld (zdn (zG gv t) fo kF fF sF i)) (bo i) (k + 1))) = 1)) j) → lv_has ls 4 [(0, .ref (ad 0)), (1, .int (3 : Int32)), (2, .int (nI a)), (3, .int (nI j))] → W p l e ({ frames := 6, cells := 0, slots := 0, locals := 139 } : Room) s m ([.ref (ad 0), .int (3 : Int32)] : List Value).toArray below meth c s.heap [] 0 0 Q (F0 m 75 ls []) := by
          intro fu75
          induction fu75 with
          | zero => intro _ _ _ hmu; exact absurd hmu (Nat.not_lt_zero _)
          | succ fu75 ih75 =>
            intro j a ls hmu75 hj ea hl
            refine lv_iload_n hx hb dX4_count_75 rfl (lv_at hl 3 rfl) ?_
            refine lv_aload_n hx hb dX4_count_76 rfl (lv_at hl 0 rfl) ?_
            refine zq_get hx hb hts in_X4_count_X4 hown hK hP 0 rfl rfl 4 (by decide) (hts _ w_X4_count__fieldLink_RX4_79_WordsBesideModel_claims_I__a0b76b) rfl dX4_count_77 ?_
            refine zq_te (y := (nI n)) en ?_
            refine lv_icmp_ge (tgt := 130) hx hb dX4_count_80 (by decide) (fun c80 => ?_) (fun c80 => ?_)
            · have h80 := zle c80
              refine lv_iload_n hx hb dX4_count_130 rfl (lv_at hl 2 rfl) ?_
              exact ret _ _ _ (by rw [zcnt_lo hy1 hy2, ea, show j = n by omega]; rfl) dX4_count_131
            · have h80 := znle c80
              refine lv_iload_n hx hb dX4_count_83 rfl (lv_at hl 2 rfl) ?_
              refine lv_iload_n hx hb dX4_count_84 rfl (lv_at hl 1 rfl) ?_
              refine lv_iconst (v := (5 : Int32)) hx hb dX4_count_85 (by decide) ?_
              refine lv_icmp_ne (tgt := 106) hx hb dX4_count_86 (by decide) (fun c86 => ?_) (fun c86 => absurd c86 (by decide))
              refine lv_aload_n hx hb dX4_count_106 rfl (lv_at hl 0 rfl) ?_
              refine lv_iload_n hx hb dX4_count_107 rfl (lv_at hl 3 rfl) ?_
              refine zq_cV (rest := [.int (nI a)]) ⟨hx, hb, hml, hown, hts⟩ (c_X4_stateOf l D cI cZ cW cC ad ln st gv oF kF fF sF bF mF hF kp cm m1 m2 fo bo n k hn hk HC ek j (by omega)) (cwV 1 hts gX4_count_X4_stateOf rfl rfl rfl (by decide +kernel) ⟨Nat.le_of_ble_eq_true rfl, Nat.le_of_ble_eq_true rfl⟩) hK hP 4 0 rfl rfl rfl hl.1 rfl (Nat.le_of_ble_eq_true rfl) dX4_count_108 ⟨Nat.le_of_ble_eq_true rfl, Nat.le_of_ble_eq_true rfl⟩ (fun v hv => ?_)
              obtain rfl := hv
              refine W.eq (g2 := F0 m 111 ls [.int (zstd (zheld (zdn (zG gv 31) fo kF fF sF j)) (zlk (fun t => zheld (zdn (zG gv t) fo kF fF sF j)) (bo j) (k + 1))), .int (nI a)]) rfl ?_
              refine lv_iload_n hx hb dX4_count_111 rfl (lv_at hl 1 rfl) ?_
              refine lv_iconst (v := (2 : Int32)) hx hb dX4_count_112 (by decide) ?_
              refine lv_isub hx hb dX4_count_113 ?_
              refine zq_te (y := (1 : Int32)) (by decide) ?_
              refine lv_icmp_ne (tgt := 121) hx hb dX4_count_114 (by decide) (fun c114 => ?_) (fun c114 => ?_)
              · refine lv_iconst (v := (0 : Int32)) hx hb dX4_count_121 (by decide) ?_
                refine lv_iadd hx hb dX4_count_122 ?_
                refine zq_te (y := (nI a)) (Int32.add_zero _) ?_
                refine lv_istore_n (lv' := [(2, .int (nI a)), (0, .ref (ad 0)), (1, .int (3 : Int32)), (3, .int (nI j))]) hx hb dX4_count_123 rfl hl (by decide) rfl (fun ls hl => ?_)
                refine lv_iinc (v := (nI (j + 1))) (lv' := [(3, .int (nI (j + 1))), (2, .int (nI a)), (0, .ref (ad 0)), (1, .int (3 : Int32))]) hx hb dX4_count_124 hl (k := 3) rfl ((nI_succ _).symm) (by decide) rfl (fun ls hl => ?_)
                refine lv_goto (tgt := 75) hx hb dX4_count_127 (by decide) ?_
                exact ih75 (j + 1) a ls (by omega) (by omega) (by rw [fb_ct_succ, ← ea, if_neg (by simp only [c114]; simp), Nat.add_zero]) (lv_sub hl [2, 3, 1, 0] rfl)
              · refine lv_iconst (v := (1 : Int32)) hx hb dX4_count_117 (by decide) ?_
                refine lv_goto (tgt := 122) hx hb dX4_count_118 (by decide) ?_
                refine lv_iadd hx hb dX4_count_122 ?_
                refine zq_te (y := (nI (a + 1))) (nI_1 _) ?_
                refine lv_istore_n (lv' := [(2, .int (nI (a + 1))), (0, .ref (ad 0)), (1, .int (3 : Int32)), (3, .int (nI j))]) hx hb dX4_count_123 rfl hl (by decide) rfl (fun ls hl => ?_)
                refine lv_iinc (v := (nI (j + 1))) (lv' := [(3, .int (nI (j + 1))), (2, .int (nI (a + 1))), (0, .ref (ad 0)), (1, .int (3 : Int32))]) hx hb dX4_count_124 hl (k := 3) rfl ((nI_succ _).symm) (by decide) rfl (fun ls hl => ?_)
                refine lv_goto (tgt := 75) hx hb dX4_count_127 (by decide) ?_
                exact ih75 (j + 1) (a + 1) ls (by omega) (by omega) (by rw [fb_ct_succ, ← ea, if_pos (by simp only [c114]; simp)]) (lv_sub hl [2, 3, 1, 0] rfl)
        exact loop75 (n + 1) 0 0 ls (by omega) (by omega) rfl (lv_sub hl [2, 3, 1, 0] rfl)
      · refine W.eq (g2 := F0 m 49 ls [.int (1 : Int32)]) rfl ?_
        refine lv_if_ne (tgt := 54) hx hb dX4_count_49 (by decide) (fun c49 => ?_) (fun c49 => absurd c49 (by decide))
        refine lv_iload_n hx hb dX4_count_54 rfl (lv_at hl 2 rfl) ?_
        refine lv_if_ne (tgt := 63) hx hb dX4_count_55 (by decide) (fun c55 => ?_) (fun c55 => absurd c55 (by decide))
        refine lv_iload_n hx hb dX4_count_63 rfl (lv_at hl 2 rfl) ?_
        refine lv_iconst (v := (1 : Int32)) hx hb dX4_count_64 (by decide) ?_
        refine lv_icmp_ne (tgt := 73) hx hb dX4_count_65 (by decide) (fun c65 => ?_) (fun c65 => absurd c65 (by decide))
        refine lv_iconst (v := (0 : Int32)) hx hb dX4_count_73 (by decide) ?_
        refine lv_istore_n (lv' := [(3, .int (nI 0)), (2, .int (nI 0)), (0, .ref (ad 0)), (1, .int (4 : Int32))]) hx hb dX4_count_74 rfl hl (by decide) rfl (fun ls hl => ?_)
        have loop75 : ∀ (fu75 : Nat) (j a : Nat) (ls : Array Slot), (n - j) < fu75 → (j ≤ n) → (a = fb_ct (fun i => decide ((zstd (zheld (zdn (zG gv 31) fo kF fF sF i)) (zlk (fun t => zheld (zdn (zG gv t) fo kF fF sF i)) (bo i) (k + 1))) = 2)) j) → lv_has ls 4 [(0, .ref (ad 0)), (1, .int (4 : Int32)), (2, .int (nI a)), (3, .int (nI j))] → W p l e ({ frames := 6, cells := 0, slots := 0, locals := 139 } : Room) s m ([.ref (ad 0), .int (4 : Int32)] : List Value).toArray below meth c s.heap [] 0 0 Q (F0 m 75 ls []) := by
          intro fu75
          induction fu75 with
          | zero => intro _ _ _ hmu; exact absurd hmu (Nat.not_lt_zero _)
          | succ fu75 ih75 =>
            intro j a ls hmu75 hj ea hl
            refine lv_iload_n hx hb dX4_count_75 rfl (lv_at hl 3 rfl) ?_
            refine lv_aload_n hx hb dX4_count_76 rfl (lv_at hl 0 rfl) ?_
            refine zq_get hx hb hts in_X4_count_X4 hown hK hP 0 rfl rfl 4 (by decide) (hts _ w_X4_count__fieldLink_RX4_79_WordsBesideModel_claims_I__a0b76b) rfl dX4_count_77 ?_
            refine zq_te (y := (nI n)) en ?_
            refine lv_icmp_ge (tgt := 130) hx hb dX4_count_80 (by decide) (fun c80 => ?_) (fun c80 => ?_)
            · have h80 := zle c80
              refine lv_iload_n hx hb dX4_count_130 rfl (lv_at hl 2 rfl) ?_
              exact ret _ _ _ (by rw [zcnt_lo hy1 hy2, ea, show j = n by omega]; rfl) dX4_count_131
            · have h80 := znle c80
              refine lv_iload_n hx hb dX4_count_83 rfl (lv_at hl 2 rfl) ?_
              refine lv_iload_n hx hb dX4_count_84 rfl (lv_at hl 1 rfl) ?_
              refine lv_iconst (v := (5 : Int32)) hx hb dX4_count_85 (by decide) ?_
              refine lv_icmp_ne (tgt := 106) hx hb dX4_count_86 (by decide) (fun c86 => ?_) (fun c86 => absurd c86 (by decide))
              refine lv_aload_n hx hb dX4_count_106 rfl (lv_at hl 0 rfl) ?_
              refine lv_iload_n hx hb dX4_count_107 rfl (lv_at hl 3 rfl) ?_
              refine zq_cV (rest := [.int (nI a)]) ⟨hx, hb, hml, hown, hts⟩ (c_X4_stateOf l D cI cZ cW cC ad ln st gv oF kF fF sF bF mF hF kp cm m1 m2 fo bo n k hn hk HC ek j (by omega)) (cwV 1 hts gX4_count_X4_stateOf rfl rfl rfl (by decide +kernel) ⟨Nat.le_of_ble_eq_true rfl, Nat.le_of_ble_eq_true rfl⟩) hK hP 4 0 rfl rfl rfl hl.1 rfl (Nat.le_of_ble_eq_true rfl) dX4_count_108 ⟨Nat.le_of_ble_eq_true rfl, Nat.le_of_ble_eq_true rfl⟩ (fun v hv => ?_)
              obtain rfl := hv
              refine W.eq (g2 := F0 m 111 ls [.int (zstd (zheld (zdn (zG gv 31) fo kF fF sF j)) (zlk (fun t => zheld (zdn (zG gv t) fo kF fF sF j)) (bo j) (k + 1))), .int (nI a)]) rfl ?_
              refine lv_iload_n hx hb dX4_count_111 rfl (lv_at hl 1 rfl) ?_
              refine lv_iconst (v := (2 : Int32)) hx hb dX4_count_112 (by decide) ?_
              refine lv_isub hx hb dX4_count_113 ?_
              refine zq_te (y := (2 : Int32)) (by decide) ?_
              refine lv_icmp_ne (tgt := 121) hx hb dX4_count_114 (by decide) (fun c114 => ?_) (fun c114 => ?_)
              · refine lv_iconst (v := (0 : Int32)) hx hb dX4_count_121 (by decide) ?_
                refine lv_iadd hx hb dX4_count_122 ?_
                refine zq_te (y := (nI a)) (Int32.add_zero _) ?_
                refine lv_istore_n (lv' := [(2, .int (nI a)), (0, .ref (ad 0)), (1, .int (4 : Int32)), (3, .int (nI j))]) hx hb dX4_count_123 rfl hl (by decide) rfl (fun ls hl => ?_)
                refine lv_iinc (v := (nI (j + 1))) (lv' := [(3, .int (nI (j + 1))), (2, .int (nI a)), (0, .ref (ad 0)), (1, .int (4 : Int32))]) hx hb dX4_count_124 hl (k := 3) rfl ((nI_succ _).symm) (by decide) rfl (fun ls hl => ?_)
                refine lv_goto (tgt := 75) hx hb dX4_count_127 (by decide) ?_
                exact ih75 (j + 1) a ls (by omega) (by omega) (by rw [fb_ct_succ, ← ea, if_neg (by simp only [c114]; simp), Nat.add_zero]) (lv_sub hl [2, 3, 1, 0] rfl)
              · refine lv_iconst (v := (1 : Int32)) hx hb dX4_count_117 (by decide) ?_
                refine lv_goto (tgt := 122) hx hb dX4_count_118 (by decide) ?_
                refine lv_iadd hx hb dX4_count_122 ?_
                refine zq_te (y := (nI (a + 1))) (nI_1 _) ?_
                refine lv_istore_n (lv' := [(2, .int (nI (a + 1))), (0, .ref (ad 0)), (1, .int (4 : Int32)), (3, .int (nI j))]) hx hb dX4_count_123 rfl hl (by decide) rfl (fun ls hl => ?_)
                refine lv_iinc (v := (nI (j + 1))) (lv' := [(3, .int (nI (j + 1))), (2, .int (nI (a + 1))), (0, .ref (ad 0)), (1, .int (4 : Int32))]) hx hb dX4_count_124 hl (k := 3) rfl ((nI_succ _).symm) (by decide) rfl (fun ls hl => ?_)
                refine lv_goto (tgt := 75) hx hb dX4_count_127 (by decide) ?_
                exact ih75 (j + 1) (a + 1) ls (by omega) (by omega) (by rw [fb_ct_succ, ← ea, if_pos (by simp only [c114]; simp)]) (lv_sub hl [2, 3, 1, 0] rfl)
        exact loop75 (n + 1) 0 0 ls (by omega) (by omega) rfl (lv_sub hl [2, 3, 1, 0] rfl)
      · refine W.eq (g2 := F0 m 49 ls [.int (1 : Int32)]) rfl ?_
        refine lv_if_ne (tgt := 54) hx hb dX4_count_49 (by decide) (fun c49 => ?_) (fun c49 => absurd c49 (by decide))
        refine lv_iload_n hx hb dX4_count_54 rfl (lv_at hl 2 rfl) ?_
        refine lv_if_ne (tgt := 63) hx hb dX4_count_55 (by decide) (fun c55 => ?_) (fun c55 => absurd c55 (by decide))
        refine lv_iload_n hx hb dX4_count_63 rfl (lv_at hl 2 rfl) ?_
        refine lv_iconst (v := (1 : Int32)) hx hb dX4_count_64 (by decide) ?_
        refine lv_icmp_ne (tgt := 73) hx hb dX4_count_65 (by decide) (fun c65 => ?_) (fun c65 => absurd c65 (by decide))
        refine lv_iconst (v := (0 : Int32)) hx hb dX4_count_73 (by decide) ?_
        refine lv_istore_n (lv' := [(3, .int (nI 0)), (2, .int (nI 0)), (0, .ref (ad 0)), (1, .int (5 : Int32))]) hx hb dX4_count_74 rfl hl (by decide) rfl (fun ls hl => ?_)
        have loop75 : ∀ (fu75 : Nat) (j a : Nat) (ls : Array Slot), (n - j) < fu75 → (j ≤ n) → (a = fb_ct (fun i => decide (¬ mF i = 0)) j) → lv_has ls 4 [(0, .ref (ad 0)), (1, .int (5 : Int32)), (2, .int (nI a)), (3, .int (nI j))] → W p l e ({ frames := 6, cells := 0, slots := 0, locals := 139 } : Room) s m ([.ref (ad 0), .int (5 : Int32)] : List Value).toArray below meth c s.heap [] 0 0 Q (F0 m 75 ls []) := by
          intro fu75
          induction fu75 with
          | zero => intro _ _ _ hmu; exact absurd hmu (Nat.not_lt_zero _)
          | succ fu75 ih75 =>
            intro j a ls hmu75 hj ea hl
            refine lv_iload_n hx hb dX4_count_75 rfl (lv_at hl 3 rfl) ?_
            refine lv_aload_n hx hb dX4_count_76 rfl (lv_at hl 0 rfl) ?_
            refine zq_get hx hb hts in_X4_count_X4 hown hK hP 0 rfl rfl 4 (by decide) (hts _ w_X4_count__fieldLink_RX4_79_WordsBesideModel_claims_I__a0b76b) rfl dX4_count_77 ?_
            refine zq_te (y := (nI n)) en ?_
            refine lv_icmp_ge (tgt := 130) hx hb dX4_count_80 (by decide) (fun c80 => ?_) (fun c80 => ?_)
            · have h80 := zle c80
              refine lv_iload_n hx hb dX4_count_130 rfl (lv_at hl 2 rfl) ?_
              exact ret _ _ _ (by rw [zcnt_lo hy1 hy2, ea, show j = n by omega]; rfl) dX4_count_131
            · have h80 := znle c80
              refine lv_iload_n hx hb dX4_count_83 rfl (lv_at hl 2 rfl) ?_
              refine lv_iload_n hx hb dX4_count_84 rfl (lv_at hl 1 rfl) ?_
              refine lv_iconst (v := (5 : Int32)) hx hb dX4_count_85 (by decide) ?_
              refine lv_icmp_ne (tgt := 106) hx hb dX4_count_86 (by decide) (fun c86 => absurd c86 (by decide)) (fun c86 => ?_)
              refine lv_aload_n hx hb dX4_count_89 rfl (lv_at hl 0 rfl) ?_
              refine zq_get hx hb hts in_X4_count_X4 hown hK hP 0 rfl rfl 10 (by decide) (hts _ w_X4_count__fieldLink_RX4_35_WordsBesideModel_isMarked_Z__f949ba) rfl dX4_count_90 ?_
              refine lv_iload_n hx hb dX4_count_93 rfl (lv_at hl 3 rfl) ?_
              refine zq_zld hx hb hK hP 9 rfl j rfl (by omega) (by decide) dX4_count_94 ?_
              refine lv_if_eq (tgt := 102) hx hb dX4_count_95 (by decide) (fun c95 => ?_) (fun c95 => ?_)
              · refine lv_iconst (v := (0 : Int32)) hx hb dX4_count_102 (by decide) ?_
                refine lv_goto (tgt := 122) hx hb dX4_count_103 (by decide) ?_
                refine lv_iadd hx hb dX4_count_122 ?_
                refine zq_te (y := (nI a)) (Int32.add_zero _) ?_
                refine lv_istore_n (lv' := [(2, .int (nI a)), (0, .ref (ad 0)), (1, .int (5 : Int32)), (3, .int (nI j))]) hx hb dX4_count_123 rfl hl (by decide) rfl (fun ls hl => ?_)
                refine lv_iinc (v := (nI (j + 1))) (lv' := [(3, .int (nI (j + 1))), (2, .int (nI a)), (0, .ref (ad 0)), (1, .int (5 : Int32))]) hx hb dX4_count_124 hl (k := 3) rfl ((nI_succ _).symm) (by decide) rfl (fun ls hl => ?_)
                refine lv_goto (tgt := 75) hx hb dX4_count_127 (by decide) ?_
                exact ih75 (j + 1) a ls (by omega) (by omega) (by rw [fb_ct_succ, ← ea, if_neg (by simp [c95]), Nat.add_zero]) (lv_sub hl [2, 3, 1, 0] rfl)
              · refine lv_iconst (v := (1 : Int32)) hx hb dX4_count_98 (by decide) ?_
                refine lv_goto (tgt := 122) hx hb dX4_count_99 (by decide) ?_
                refine lv_iadd hx hb dX4_count_122 ?_
                refine zq_te (y := (nI (a + 1))) (nI_1 _) ?_
                refine lv_istore_n (lv' := [(2, .int (nI (a + 1))), (0, .ref (ad 0)), (1, .int (5 : Int32)), (3, .int (nI j))]) hx hb dX4_count_123 rfl hl (by decide) rfl (fun ls hl => ?_)
                refine lv_iinc (v := (nI (j + 1))) (lv' := [(3, .int (nI (j + 1))), (2, .int (nI (a + 1))), (0, .ref (ad 0)), (1, .int (5 : Int32))]) hx hb dX4_count_124 hl (k := 3) rfl ((nI_succ _).symm) (by decide) rfl (fun ls hl => ?_)
                refine lv_goto (tgt := 75) hx hb dX4_count_127 (by decide) ?_
                exact ih75 (j + 1) (a + 1) ls (by omega) (by omega) (by rw [fb_ct_succ, ← ea, if_pos (by simp [c95])]) (lv_sub hl [2, 3, 1, 0] rfl)
        exact loop75 (n + 1) 0 0 ls (by omega) (by omega) rfl (lv_sub hl [2, 3, 1, 0] rfl)
      · refine W.eq (g2 := F0 m 49 ls [.int (0 : Int32)]) rfl ?_
        refine lv_if_ne (tgt := 54) hx hb dX4_count_49 (by decide) (fun c49 => absurd c49 (by decide)) (fun c49 => ?_)
        refine lv_iconst (v := (-1 : Int32)) hx hb dX4_count_52 (by decide) ?_
        exact ret _ _ _ (by rw [zcnt_no hy1 hy2 hy5]) dX4_count_53

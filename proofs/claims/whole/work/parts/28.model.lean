/-! the reference: mend, mended -/
theorem zHC_f {fo bo : Nat → Nat} {oF kF fF fF2 bF : Nat → Int32} {n k i : Nat} (h : zHC fo bo oF kF fF bF n k) (h6 : kF i = 6) (he : ∀ q, q ≠ i → fF2 q = fF q) : zHC fo bo oF kF fF2 bF n k := by
  intro q hq
  by_cases e : q = i
  · subst e
    obtain ⟨a1, a2, a3, -, -, -, a7, a8⟩ := h q hq
    exact ⟨a1, a2, a3, fun z => absurd (h6.symm.trans z) (by decide), fun z => absurd (h6.symm.trans z) (by decide), fun z => absurd (h6.symm.trans z) (by decide), a7, a8⟩
  · rw [he q e]
    exact h q hq
def zm1 (G : Nat → Int32) (f : Nat) (kd p : Int32) : Int32 := if kd = 0 then zlst G f 256 else if kd = 3 then nI (zgd (zgc G f 256) 1000) else if kd = 5 then G (256 * f + p.toNatClampNeg) else if kd = 6 then zRF G f else zNO
def zm2 (G : Nat → Int32) (f : Nat) (kd : Int32) : Int32 := if kd = 0 then zmst G f 256 else zNO
/-- there is a mend of the claim i -/
def zmo (G : Nat → Int32) (fo : Nat → Nat) (kF fF sF : Nat → Int32) (n : Nat) (cl : Int32) (i : Nat) : Prop := i < n ∧ cl = nI i ∧ zheld (zdn G fo kF fF sF i) = false ∧ ¬ zm1 G (fo i) (kF i) (fF i) = zNO
noncomputable def zmend (G : Nat → Int32) (fo : Nat → Nat) (kF fF sF : Nat → Int32) (n : Nat) (cl wh : Int32) : Int32 := by
  classical
  exact if zr n cl ∧ zheld (zdn G fo kF fF sF cl.toNatClampNeg) = false then (if wh = 0 then zm1 G (fo cl.toNatClampNeg) (kF cl.toNatClampNeg) (fF cl.toNatClampNeg) else if wh = 1 then zm2 G (fo cl.toNatClampNeg) (kF cl.toNatClampNeg) else zNO) else zNO
theorem zmend_in {G : Nat → Int32} {fo : Nat → Nat} {kF fF sF : Nat → Int32} {n i : Nat} {wh : Int32} (hn : n ≤ 40) (hi : i < n) (hh : zheld (zdn G fo kF fF sF i) = false) : zmend G fo kF fF sF n (nI i) wh = if wh = 0 then zm1 G (fo i) (kF i) (fF i) else if wh = 1 then zm2 G (fo i) (kF i) else zNO := by
  unfold zmend
  rw [nI_clamp (by omega), if_pos ⟨zr_nI hi, hh⟩]
theorem zmend_no {G : Nat → Int32} {fo : Nat → Nat} {kF fF sF : Nat → Int32} {n : Nat} {cl wh : Int32} (h : ¬ (∃ i, i < n ∧ cl = nI i ∧ zheld (zdn G fo kF fF sF i) = false)) (hn : n ≤ 40) : zmend G fo kF fF sF n cl wh = zNO := by
  unfold zmend
  rw [if_neg]
  rintro ⟨⟨i, hi, rfl⟩, hh⟩
  rw [nI_clamp (by omega)] at hh
  exact h ⟨i, hi, rfl, hh⟩
theorem zlm (G : Nat → Int32) (f : Nat) : ∀ n, zlst G f n = zNO ↔ zmst G f n = zNO
  | 0 => by simp [zlst, zmst]
  | n + 1 => by
    have ih := zlm G f n
    by_cases hv : G (256 * f + n) = zNO
    · rw [zlst, zmst, if_neg (fun q => q.1 hv), if_neg (by rw [hv]; exact znNO)]
      exact ih
    · have e1 : ¬ zlst G f (n + 1) = zNO := by
        rw [zlst]
        split
        · exact hv
        · rename_i hc
          exact fun q => hc ⟨hv, Or.inl q⟩
      have e2 : ¬ zmst G f (n + 1) = zNO := by
        rw [zmst]
        split
        · exact hv
        · rename_i hc
          exact fun q => hc (by rw [q]; exact zgtNO hv)
      exact ⟨fun q => absurd q e1, fun q => absurd q e2⟩
theorem zmend_nm {G : Nat → Int32} {fo : Nat → Nat} {kF fF sF : Nat → Int32} {n : Nat} {cl wh : Int32} (h : ¬ ∃ i, zmo G fo kF fF sF n cl i) (hn : n ≤ 40) : zmend G fo kF fF sF n cl wh = zNO := by
  by_cases q : ∃ i, i < n ∧ cl = nI i ∧ zheld (zdn G fo kF fF sF i) = false
  · obtain ⟨i, hi, rfl, hh⟩ := q
    have h1 : zm1 G (fo i) (kF i) (fF i) = zNO := by
      by_cases z : zm1 G (fo i) (kF i) (fF i) = zNO
      · exact z
      · exact absurd ⟨i, hi, rfl, hh, z⟩ h
    have h2 : zm2 G (fo i) (kF i) = zNO := by
      unfold zm2
      split
      · rename_i hk
        unfold zm1 at h1
        rw [if_pos hk] at h1
        exact (zlm G (fo i) 256).mp h1
      · rfl
    rw [zmend_in hn hi hh, h1, h2]
    simp
  · exact zmend_no q hn
theorem zgd_ne {c : Nat} : ¬ nI (zgd c 1000) = zNO := fun q => by
  have h := zgd_le c 1000
  exact absurd (show nI (zgd c 1000) < 0 by rw [q]; decide) (nI_pos (by omega))
theorem zif6 {b : Bool} : (if b then (1 : Int32) else 0) = 0 ∨ (if b then (1 : Int32) else 0) = 1 := by cases b <;> simp

theorem w_X4_refuses__fieldLink_RX4_109_WordsBesideModel_mendOne_I__796736 : (.fieldLink RX4 109 "WordsBesideModel" "mendOne" "I" : Cond) ∈ wsX4_refuses := by decide +kernel
theorem w_X4_refuses__fieldLink_RX4_26_WordsBesideModel_first_I__de9671 : (.fieldLink RX4 26 "WordsBesideModel" "first" "[I" : Cond) ∈ wsX4_refuses := by decide +kernel
theorem in_X4_refuses_X4 : ∀ w ∈ wsX40, w ∈ wsX4_refuses := fun _ h => List.mem_cons_of_mem _ (List.mem_append_right _ h)
set_option maxHeartbeats 4000000 in
set_option maxRecDepth 100000 in
theorem c_X4_refuses (l : Launch) (D : va_G) (cI cZ cW cC : ClassId) (ad : Nat → Nat) (ln st gv oF kF fF sF bF mF hF : Nat → Int32) (kp cm m1 m2 : Int32) (fo bo : Nat → Nat) (n k : Nat) (hn : n ≤ 40) (hk : k ≤ 30) (HC : zHC fo bo oF kF fF bF n k) (i : Nat) (hi : i < n) (h6 : kF i = 6) (sz : Nat) : zq_mu l D cI cZ cW cC yX4_refuses wsX4_refuses ({ frames := 5, cells := 0, slots := 0, locals := 117 } : Room) [.ref (ad 0), .int (nI i)] (mW cI cZ ad ln st gv oF kF fF sF bF mF hF kp cm m1 m2) sz (fun v w1 => (∃ a1 : Int32, w1 = (mW cI cZ ad ln st gv oF kF fF sF bF mF hF kp cm a1 m2) ∧ v = some (.int 1) ∧ a1 = zRF (zG gv 31) (fo i) ∧ ¬ zRF (zG gv 31) (fo i) = zNO) ∨ (∃ a1 : Int32, w1 = (mW cI cZ ad ln st gv oF kF fF sF bF mF hF kp cm a1 m2) ∧ v = some (.int 0) ∧ zRF (zG gv 31) (fo i) = zNO)) 0 0 := by
  refine zq_muZ (own := RX4) (by decide) rfl rfl (Nat.le_of_ble_eq_true rfl) ?_
  intro p e s m below meth c Q A ls hsz hF hin hA hP hK hD hS hl ret
  obtain ⟨hx, hb, hml, hown, hts⟩ := hF
  have hl : lv_has ls 5 [(0, .ref (ad 0)), (1, .int (nI i))] := hl
  refine lv_aload_n hx hb dX4_refuses_0 rfl (lv_at hl 0 rfl) ?_
  refine zq_get hx hb hts in_X4_refuses_X4 hown hK hP 0 rfl rfl 7 (by decide) (hts _ w_X4_refuses__fieldLink_RX4_26_WordsBesideModel_first_I__de9671) rfl dX4_refuses_1 ?_
  refine lv_iload_n hx hb dX4_refuses_4 rfl (lv_at hl 1 rfl) ?_
  refine zq_ild hx hb hK hP 6 rfl i rfl (by omega) (by decide) dX4_refuses_5 ?_
  refine lv_istore_n (lv' := [(2, .int (fF i)), (0, .ref (ad 0)), (1, .int (nI i))]) hx hb dX4_refuses_6 rfl hl (by decide) rfl (fun ls hl => ?_)
  refine lv_iconst (v := (0 : Int32)) hx hb dX4_refuses_7 (by decide) ?_
  refine lv_istore_n (lv' := [(3, .int (0 : Int32)), (2, .int (fF i)), (0, .ref (ad 0)), (1, .int (nI i))]) hx hb dX4_refuses_8 rfl hl (by decide) rfl (fun ls hl => ?_)
  refine lv_iconst (v := (nI 0)) hx hb dX4_refuses_9 (by decide) ?_
  refine lv_istore (lv' := [(4, .int (nI 0)), (3, .int (0 : Int32)), (2, .int (fF i)), (0, .ref (ad 0)), (1, .int (nI i))]) hx hb dX4_refuses_10 hl (by decide) rfl (fun ls hl => ?_)
  have loop12 : ∀ (fu12 : Nat) (j : Nat) (b : Bool) (fk : Nat → Int32) (a1 : Int32) (H : Heap) (locs : List Loc) (ls : Array Slot), (17 - j) < fu12 → (j ≤ 17) → (∀ q, q ≠ i → fk q = fF q) → (b = false → ∀ q, q < j → ¬ zh6 (zG gv 31) (fo i) q) → (b = true → ∃ q, q ≤ 16 ∧ zh6 (zG gv 31) (fo i) q ∧ a1 = nI q) → va_P D vwCl (mW cI cZ ad ln st gv oF kF fk sF bF mF hF kp cm a1 m2) H → va_D A (mW cI cZ ad ln st gv oF kF fk sF bF mF hF kp cm a1 m2) → va_S A s.heap H locs → lv_has ls 5 [(0, .ref (ad 0)), (1, .int (nI i)), (2, .int (fF i)), (3, .int (if b then (1 : Int32) else 0)), (4, .int (nI j))] → W p l e ({ frames := 5, cells := 0, slots := 0, locals := 117 } : Room) s m ([.ref (ad 0), .int (nI i)] : List Value).toArray below meth c H locs 0 0 Q (F0 m 12 ls []) := by
    intro fu12
    induction fu12 with
    | zero => intro _ _ _ _ _ _ _ hmu; exact absurd hmu (Nat.not_lt_zero _)
    | succ fu12 ih12 =>
      intro j b fk a1 H locs ls hmu12 hj hfk hb0 hb1 hP hD hS hl
      refine lv_iload hx hb dX4_refuses_12 (lv_at hl 4 rfl) ?_
      refine lv_bipush (v := (nI 16)) hx hb dX4_refuses_14 (by decide) ?_
      refine lv_icmp_gt (tgt := 49) hx hb dX4_refuses_16 (by decide) (fun c16 => ?_) (fun c16 => ?_)
      · have h16 := zlt c16
        refine lv_aload_n hx hb dX4_refuses_49 rfl (lv_at hl 0 rfl) ?_
        refine zq_get hx hb hts in_X4_refuses_X4 hown hK hP 0 rfl rfl 7 (by decide) (hts _ w_X4_refuses__fieldLink_RX4_26_WordsBesideModel_first_I__de9671) rfl dX4_refuses_50 ?_
        refine lv_iload_n hx hb dX4_refuses_53 rfl (lv_at hl 1 rfl) ?_
        refine lv_iload_n hx hb dX4_refuses_54 rfl (lv_at hl 2 rfl) ?_
        refine zq_ist hx hb hK hP hD hS 6 rfl i rfl (by omega) (by decide) dX4_refuses_55 (fun H locs hP hD hS => ?_)
        have hP : va_P D vwCl (mW cI cZ ad ln st gv oF kF (upd fk i (fF i)) sF bF mF hF kp cm a1 m2) H := hP
        have hD : va_D A (mW cI cZ ad ln st gv oF kF (upd fk i (fF i)) sF bF mF hF kp cm a1 m2) := hD
        refine lv_iload_n hx hb dX4_refuses_56 rfl (lv_at hl 3 rfl) ?_
        exact ret _ _ _ _ _ _ zif6 (by
                                        have efk : upd fk i (fF i) = fF := funext (fun q => by by_cases e : q = i <;> simp [upd, e, hfk q])
                                        rcases hb9 : b with _ | _
                                        · exact Or.inr ⟨a1, by rw [efk], rfl, zh6_n (fun q hq => hb0 hb9 q (by omega))⟩
                                        · obtain ⟨q, h1, h2, h3⟩ := hb1 hb9
                                          have h4 := zh6_y h1 h2
                                          exact Or.inl ⟨a1, by rw [efk], rfl, by rw [h3, h4], by rw [h4]; exact fun z => nI_pos (n := q) (by omega) (by rw [z]; decide)⟩) hP hD hS dX4_refuses_57
      · have h16 := znlt c16
        refine lv_iload_n hx hb dX4_refuses_19 rfl (lv_at hl 3 rfl) ?_
        refine lv_if_ne (tgt := 49) hx hb dX4_refuses_20 (by decide) (fun c20 => ?_) (fun c20 => ?_)
        · have hbf := zct_aa c20
          refine lv_aload_n hx hb dX4_refuses_49 rfl (lv_at hl 0 rfl) ?_
          refine zq_get hx hb hts in_X4_refuses_X4 hown hK hP 0 rfl rfl 7 (by decide) (hts _ w_X4_refuses__fieldLink_RX4_26_WordsBesideModel_first_I__de9671) rfl dX4_refuses_50 ?_
          refine lv_iload_n hx hb dX4_refuses_53 rfl (lv_at hl 1 rfl) ?_
          refine lv_iload_n hx hb dX4_refuses_54 rfl (lv_at hl 2 rfl) ?_
          refine zq_ist hx hb hK hP hD hS 6 rfl i rfl (by omega) (by decide) dX4_refuses_55 (fun H locs hP hD hS => ?_)
          have hP : va_P D vwCl (mW cI cZ ad ln st gv oF kF (upd fk i (fF i)) sF bF mF hF kp cm a1 m2) H := hP
          have hD : va_D A (mW cI cZ ad ln st gv oF kF (upd fk i (fF i)) sF bF mF hF kp cm a1 m2) := hD
          refine lv_iload_n hx hb dX4_refuses_56 rfl (lv_at hl 3 rfl) ?_
          exact ret _ _ _ _ _ _ zif6 (by
                                        have efk : upd fk i (fF i) = fF := funext (fun q => by by_cases e : q = i <;> simp [upd, e, hfk q])
                                        rcases hb9 : b with _ | _
                                        · exact Or.inr ⟨a1, by rw [efk], rfl, zh6_n (fun q hq => hb0 hb9 q (by rw [hbf] at hb9; cases hb9))⟩
                                        · obtain ⟨q, h1, h2, h3⟩ := hb1 hb9
                                          have h4 := zh6_y h1 h2
                                          exact Or.inl ⟨a1, by rw [efk], rfl, by rw [h3, h4], by rw [h4]; exact fun z => nI_pos (n := q) (by omega) (by rw [z]; decide)⟩) hP hD hS dX4_refuses_57
        · have hbf := zct_bb c20
          refine lv_aload_n hx hb dX4_refuses_23 rfl (lv_at hl 0 rfl) ?_
          refine zq_get hx hb hts in_X4_refuses_X4 hown hK hP 0 rfl rfl 7 (by decide) (hts _ w_X4_refuses__fieldLink_RX4_26_WordsBesideModel_first_I__de9671) rfl dX4_refuses_24 ?_
          refine lv_iload_n hx hb dX4_refuses_27 rfl (lv_at hl 1 rfl) ?_
          refine lv_iload hx hb dX4_refuses_28 (lv_at hl 4 rfl) ?_
          refine zq_ist hx hb hK hP hD hS 6 rfl i rfl (by omega) (by decide) dX4_refuses_30 (fun H locs hP hD hS => ?_)
          have hP : va_P D vwCl (mW cI cZ ad ln st gv oF kF (upd fk i (nI j)) sF bF mF hF kp cm a1 m2) H := hP
          have hD : va_D A (mW cI cZ ad ln st gv oF kF (upd fk i (nI j)) sF bF mF hF kp cm a1 m2) := hD
          refine lv_aload_n hx hb dX4_refuses_31 rfl (lv_at hl 0 rfl) ?_
          refine lv_iload_n hx hb dX4_refuses_32 rfl (lv_at hl 1 rfl) ?_
          refine zq_cV (rest := []) ⟨hx, hb, hml, hown, hts⟩ (c_X4_isHeld l D cI cZ cW cC ad ln st gv oF kF (upd fk i (nI j)) sF bF mF hF kp cm a1 m2 fo bo n k hn hk (zHC_f HC h6 (fun q hq => by rw [pk_un hq]; exact hfk q hq)) i hi) (cwV 1 hts gX4_refuses_X4_isHeld rfl rfl rfl (by decide +kernel) ⟨Nat.le_of_ble_eq_true rfl, Nat.le_of_ble_eq_true rfl⟩) hK hP 4 0 rfl rfl rfl hl.1 rfl (Nat.le_of_ble_eq_true rfl) dX4_refuses_33 ⟨Nat.le_of_ble_eq_true rfl, Nat.le_of_ble_eq_true rfl⟩ (fun v hv => ?_)
          obtain rfl := hv
          refine W.eq (g2 := F0 m 36 ls [.int (if (zheld (zdn (zG gv 31) fo kF (upd fk i (nI j)) sF i)) then (1 : Int32) else 0)]) rfl ?_
          refine lv_istore_n (lv' := [(3, .int (if (zheld (zdn (zG gv 31) fo kF (upd fk i (nI j)) sF i)) then (1 : Int32) else 0)), (0, .ref (ad 0)), (1, .int (nI i)), (2, .int (fF i)), (4, .int (nI j))]) hx hb dX4_refuses_36 rfl hl (by decide) rfl (fun ls hl => ?_)
          refine lv_aload_n hx hb dX4_refuses_37 rfl (lv_at hl 1 rfl) ?_
          refine lv_iload hx hb dX4_refuses_38 (lv_at hl 4 rfl) ?_
          refine zq_put hx hb hts in_X4_refuses_X4 tyX4 tyX4_ok nmX4 hown hK hP hD hS 0 rfl rfl 11 (by decide) (hts _ w_X4_refuses__fieldLink_RX4_109_WordsBesideModel_mendOne_I__796736) rfl rfl rfl (Nat.le_of_ble_eq_true rfl) dX4_refuses_40 (fun H locs hP hD hS => ?_)
          have hP : va_P D vwCl (mW cI cZ ad ln st gv oF kF (upd fk i (nI j)) sF bF mF hF kp cm (nI j) m2) H := hP
          have hD : va_D A (mW cI cZ ad ln st gv oF kF (upd fk i (nI j)) sF bF mF hF kp cm (nI j) m2) := hD
          refine lv_iinc (v := (nI (j + 1))) (lv' := [(4, .int (nI (j + 1))), (3, .int (if (zheld (zdn (zG gv 31) fo kF (upd fk i (nI j)) sF i)) then (1 : Int32) else 0)), (0, .ref (ad 0)), (1, .int (nI i)), (2, .int (fF i))]) hx hb dX4_refuses_43 hl (k := 4) rfl ((nI_succ _).symm) (by decide) rfl (fun ls hl => ?_)
          refine lv_goto (tgt := 12) hx hb dX4_refuses_46 (by decide) ?_
          exact ih12 (j + 1) (zheld (zdn (zG gv 31) fo kF (upd fk i (nI j)) sF i)) (upd fk i (nI j)) (nI j) _ _ ls (by omega) (by omega) (fun q hq => by rw [pk_un hq]; exact hfk q hq) (fun h => lt_s (hb0 hbf) (fun z => by have h9 := (zden6 (q := sF i) h6 (by omega)).mpr z; rw [zdn, pk_us, h9] at h; cases h)) (fun h => ⟨j, by omega, (zden6 (q := sF i) h6 (by omega)).mp (by rw [zdn, pk_us] at h; exact h), rfl⟩) hP hD hS (lv_sub hl [2, 3, 4, 1, 0] rfl)
  exact loop12 (17 + 1) 0 false fF m1 _ _ ls (by omega) (by omega) (fun _ _ => rfl) (fun _ q hq => absurd hq (Nat.not_lt_zero q)) (fun h => absurd h (by decide)) hP hD hS (lv_sub hl [3, 4, 2, 1, 0] rfl)
theorem w_X4_mends__constant_RX4_64_2147483648__c0c951 : (.constant RX4 64 (-2147483648) : Cond) ∈ wsX4_mends := by decide +kernel
theorem w_X4_mends__fieldLink_RX4_109_WordsBesideModel_mendOne_I__796736 : (.fieldLink RX4 109 "WordsBesideModel" "mendOne" "I" : Cond) ∈ wsX4_mends := by decide +kernel
theorem w_X4_mends__fieldLink_RX4_20_WordsBesideModel_of_I__9fac8e : (.fieldLink RX4 20 "WordsBesideModel" "of" "[I" : Cond) ∈ wsX4_mends := by decide +kernel
theorem w_X4_mends__fieldLink_RX4_23_WordsBesideModel_kind_I__cf4f2c : (.fieldLink RX4 23 "WordsBesideModel" "kind" "[I" : Cond) ∈ wsX4_mends := by decide +kernel
theorem w_X4_mends__fieldLink_RX4_26_WordsBesideModel_first_I__de9671 : (.fieldLink RX4 26 "WordsBesideModel" "first" "[I" : Cond) ∈ wsX4_mends := by decide +kernel
theorem in_X4_mends_X4 : ∀ w ∈ wsX40, w ∈ wsX4_mends := fun _ h => List.mem_cons_of_mem _ (List.mem_append_right _ h)
set_option maxHeartbeats 4000000 in
set_option maxRecDepth 100000 in
theorem c_X4_mends (l : Launch) (D : va_G) (cI cZ cW cC : ClassId) (ad : Nat → Nat) (ln st gv oF kF fF sF bF mF hF : Nat → Int32) (kp cm m1 m2 : Int32) (fo bo : Nat → Nat) (n k : Nat) (hn : n ≤ 40) (hk : k ≤ 30) (HC : zHC fo bo oF kF fF bF n k) (hB : zB (zG gv 31) 1536) (en : cm = nI n) (cl : Int32) (sz : Nat) : zq_mu l D cI cZ cW cC yX4_mends wsX4_mends ({ frames := 6, cells := 0, slots := 0, locals := 141 } : Room) [.ref (ad 0), .int cl] (mW cI cZ ad ln st gv oF kF fF sF bF mF hF kp cm m1 m2) sz (fun v w1 => (∃ i, zmo (zG gv 31) fo kF fF sF n cl i ∧ v = some (.int 1) ∧ ∃ a1 a2 : Int32, w1 = (mW cI cZ ad ln st gv oF kF fF sF bF mF hF kp cm a1 a2) ∧ a1 = (zm1 (zG gv 31) (fo i) (kF i) (fF i)) ∧ (kF i = 0 → a2 = zmst (zG gv 31) (fo i) 256)) ∨ (¬ (∃ i, zmo (zG gv 31) fo kF fF sF n cl i) ∧ v = some (.int 0) ∧ ∃ a1 a2 : Int32, w1 = (mW cI cZ ad ln st gv oF kF fF sF bF mF hF kp cm a1 a2))) 0 0 := by
  refine zq_muZ (own := RX4) (by decide) rfl rfl (Nat.le_of_ble_eq_true rfl) ?_
  intro p e s m below meth c Q A ls hsz hF hin hA hP hK hD hS hl ret
  obtain ⟨hx, hb, hml, hown, hts⟩ := hF
  have hl : lv_has ls 2 [(0, .ref (ad 0)), (1, .int cl)] := hl
  refine lv_aload_n hx hb dX4_mends_0 rfl (lv_at hl 0 rfl) ?_
  refine lv_iload_n hx hb dX4_mends_1 rfl (lv_at hl 1 rfl) ?_
  refine zq_cV (rest := []) ⟨hx, hb, hml, hown, hts⟩ (c_X4_isClaim l D cI cZ cW cC ad ln st gv oF kF fF sF bF mF hF kp cm m1 m2 n hn en cl) (cwV 1 hts gX4_mends_X4_isClaim rfl rfl rfl (by decide +kernel) ⟨Nat.le_of_ble_eq_true rfl, Nat.le_of_ble_eq_true rfl⟩) hK hP 4 0 rfl rfl rfl hl.1 rfl (Nat.le_of_ble_eq_true rfl) dX4_mends_2 ⟨Nat.le_of_ble_eq_true rfl, Nat.le_of_ble_eq_true rfl⟩ (fun v hv => ?_)
  rcases hv with ⟨rfl, i, hi, rfl⟩ | ⟨rfl, hyc⟩
  · refine W.eq (g2 := F0 m 5 ls [.int (1 : Int32)]) rfl ?_
    obtain ⟨ho, hf, hk8, h3, h5, h7, hbb, hbk⟩ := HC i hi
    refine lv_if_eq (tgt := 16) hx hb dX4_mends_5 (by decide) (fun c5 => absurd c5 (by decide)) (fun c5 => ?_)
    refine lv_aload_n hx hb dX4_mends_8 rfl (lv_at hl 0 rfl) ?_
    refine lv_iload_n hx hb dX4_mends_9 rfl (lv_at hl 1 rfl) ?_
    refine zq_cV (rest := []) ⟨hx, hb, hml, hown, hts⟩ (c_X4_isHeld l D cI cZ cW cC ad ln st gv oF kF fF sF bF mF hF kp cm m1 m2 fo bo n k hn hk HC i (by omega)) (cwV 1 hts gX4_mends_X4_isHeld rfl rfl rfl (by decide +kernel) ⟨Nat.le_of_ble_eq_true rfl, Nat.le_of_ble_eq_true rfl⟩) hK hP 4 0 rfl rfl rfl hl.1 rfl (Nat.le_of_ble_eq_true rfl) dX4_mends_10 ⟨Nat.le_of_ble_eq_true rfl, Nat.le_of_ble_eq_true rfl⟩ (fun v hv => ?_)
    obtain rfl := hv
    refine W.eq (g2 := F0 m 13 ls [.int (if zheld (zdn (zG gv 31) fo kF fF sF i) then (1 : Int32) else 0)]) rfl ?_
    refine lv_if_eq (tgt := 18) hx hb dX4_mends_13 (by decide) (fun c13 => ?_) (fun c13 => ?_)
    · have hh := zct_bb c13
      refine lv_aload_n hx hb dX4_mends_18 rfl (lv_at hl 0 rfl) ?_
      refine zq_get hx hb hts in_X4_mends_X4 hown hK hP 0 rfl rfl 6 (by decide) (hts _ w_X4_mends__fieldLink_RX4_23_WordsBesideModel_kind_I__cf4f2c) rfl dX4_mends_19 ?_
      refine lv_iload_n hx hb dX4_mends_22 rfl (lv_at hl 1 rfl) ?_
      refine zq_ild hx hb hK hP 5 rfl i rfl (by omega) (by decide) dX4_mends_23 ?_
      by_cases k24_0 : (kF i) = (0 : Int32)
      · refine lv_tableIn (tgt := 68) hx hb dX4_mends_24 (by rw [k24_0]; decide) (by rw [k24_0]; decide) (by rw [k24_0]; rfl) (by decide) ?_
        refine lv_aload_n hx hb dX4_mends_68 rfl (lv_at hl 0 rfl) ?_
        refine lv_iload_n hx hb dX4_mends_69 rfl (lv_at hl 1 rfl) ?_
        refine zq_cM (rest := []) ⟨hx, hb, hml, hown, hts⟩ (c_X4_spans l D cI cZ cW cC ad ln st gv oF kF fF sF bF mF hF kp cm m1 m2 fo bo n k hn hk HC hB i hi _) (cwV 1 hts gX4_mends_X4_spans rfl rfl rfl (by decide +kernel) ⟨Nat.le_of_ble_eq_true rfl, Nat.le_of_ble_eq_true rfl⟩) hK hP hD hS hA 4 0 rfl rfl rfl hl.1 rfl (Nat.le_of_ble_eq_true rfl) dX4_mends_70 ⟨Nat.le_of_ble_eq_true rfl, Nat.le_of_ble_eq_true rfl⟩ (fun v w1 H locs hv hP hD hS => ?_)
        obtain ⟨a1, a2, rfl, rfl, hsp⟩ := hv
        have hP : va_P D vwCl (mW cI cZ ad ln st gv oF kF fF sF bF mF hF kp cm a1 a2) H := hP
        have hD : va_D A (mW cI cZ ad ln st gv oF kF fF sF bF mF hF kp cm a1 a2) := hD
        refine W.eq (g2 := F0 m 73 ls [.int (if zlst (zG gv 31) (fo i) 256 = zNO then (0 : Int32) else 1)]) rfl ?_
        exact ret _ _ _ _ _ _ (by split <;> simp) (by
                                        have e0 : (zm1 (zG gv 31) (fo i) (kF i) (fF i)) = zlst (zG gv 31) (fo i) 256 := by simp [zm1, k24_0]
                                        by_cases hq : zlst (zG gv 31) (fo i) 256 = zNO
                                        · exact Or.inr ⟨(fun ⟨j, h1, h2, h3, h4⟩ => by have e2 := zeq h2; subst e2; rw [e0] at h4; exact h4 hq), by rw [if_pos hq], _, _, rfl⟩
                                        · exact Or.inl ⟨i, ⟨hi, rfl, hh, by rw [e0]; exact hq⟩, by rw [if_neg hq], _, _, rfl, by rw [e0]; exact (hsp hq).1, fun _ => (hsp hq).2⟩) hP hD hS dX4_mends_73
      · by_cases k24_1 : (kF i) = (1 : Int32)
        · refine lv_tableIn (tgt := 123) hx hb dX4_mends_24 (by rw [k24_1]; decide) (by rw [k24_1]; decide) (by rw [k24_1]; rfl) (by decide) ?_
          refine lv_iconst (v := (0 : Int32)) hx hb dX4_mends_123 (by decide) ?_
          exact ret _ _ _ _ _ _ (Or.inl rfl) (Or.inr ⟨(fun ⟨j, h1, h2, h3, h4⟩ => by have e2 := zeq h2; subst e2; exact h4 (by simp [zm1, k24_1])), rfl, _, _, rfl⟩) hP hD hS dX4_mends_124
        · by_cases k24_2 : (kF i) = (2 : Int32)
          · refine lv_tableIn (tgt := 123) hx hb dX4_mends_24 (by rw [k24_2]; decide) (by rw [k24_2]; decide) (by rw [k24_2]; rfl) (by decide) ?_
            refine lv_iconst (v := (0 : Int32)) hx hb dX4_mends_123 (by decide) ?_
            exact ret _ _ _ _ _ _ (Or.inl rfl) (Or.inr ⟨(fun ⟨j, h1, h2, h3, h4⟩ => by have e2 := zeq h2; subst e2; exact h4 (by simp [zm1, k24_2])), rfl, _, _, rfl⟩) hP hD hS dX4_mends_124
          · by_cases k24_3 : (kF i) = (3 : Int32)
            · refine lv_tableIn (tgt := 74) hx hb dX4_mends_24 (by rw [k24_3]; decide) (by rw [k24_3]; decide) (by rw [k24_3]; rfl) (by decide) ?_
              refine lv_aload_n hx hb dX4_mends_74 rfl (lv_at hl 0 rfl) ?_
              refine lv_iload_n hx hb dX4_mends_75 rfl (lv_at hl 1 rfl) ?_
              refine zq_cM (rest := []) ⟨hx, hb, hml, hown, hts⟩ (c_X4_divides l D cI cZ cW cC ad ln st gv oF kF fF sF bF mF hF kp cm m1 m2 fo bo n k hn hk HC hB i hi _) (cwV 1 hts gX4_mends_X4_divides rfl rfl rfl (by decide +kernel) ⟨Nat.le_of_ble_eq_true rfl, Nat.le_of_ble_eq_true rfl⟩) hK hP hD hS hA 4 0 rfl rfl rfl hl.1 rfl (Nat.le_of_ble_eq_true rfl) dX4_mends_76 ⟨Nat.le_of_ble_eq_true rfl, Nat.le_of_ble_eq_true rfl⟩ (fun v w1 H locs hv hP hD hS => ?_)
              obtain ⟨rfl, rfl⟩ := hv
              have hP : va_P D vwCl (mW cI cZ ad ln st gv oF kF fF sF bF mF hF kp cm (nI (zgd (zgc (zG gv 31) (fo i) 256) 1000)) m2) H := hP
              have hD : va_D A (mW cI cZ ad ln st gv oF kF fF sF bF mF hF kp cm (nI (zgd (zgc (zG gv 31) (fo i) 256) 1000)) m2) := hD
              refine W.eq (g2 := F0 m 79 ls [.int (1 : Int32)]) rfl ?_
              exact ret _ _ _ _ _ _ (Or.inr rfl) (Or.inl ⟨i, ⟨hi, rfl, hh, by simp only [zm1, k24_3]; exact zgd_ne⟩, rfl, _, _, rfl, by simp [zm1, k24_3], fun q => absurd (k24_3.symm.trans q) (by decide)⟩) hP hD hS dX4_mends_79
            · by_cases k24_4 : (kF i) = (4 : Int32)
              · refine lv_tableIn (tgt := 123) hx hb dX4_mends_24 (by rw [k24_4]; decide) (by rw [k24_4]; decide) (by rw [k24_4]; rfl) (by decide) ?_
                refine lv_iconst (v := (0 : Int32)) hx hb dX4_mends_123 (by decide) ?_
                exact ret _ _ _ _ _ _ (Or.inl rfl) (Or.inr ⟨(fun ⟨j, h1, h2, h3, h4⟩ => by have e2 := zeq h2; subst e2; exact h4 (by simp [zm1, k24_4])), rfl, _, _, rfl⟩) hP hD hS dX4_mends_124
              · by_cases k24_5 : (kF i) = (5 : Int32)
                · refine lv_tableIn (tgt := 80) hx hb dX4_mends_24 (by rw [k24_5]; decide) (by rw [k24_5]; decide) (by rw [k24_5]; rfl) (by decide) ?_
                  obtain ⟨pn, hpn, ep⟩ := h5 k24_5
                  have e5 : (zm1 (zG gv 31) (fo i) (kF i) (fF i)) = zG gv 31 (256 * fo i + pn) := by simp [zm1, k24_5, ep, nI_clamp (show pn < 2 ^ 31 by omega)]
                  refine lv_aload_n hx hb dX4_mends_80 rfl (lv_at hl 0 rfl) ?_
                  refine lv_aload_n hx hb dX4_mends_81 rfl (lv_at hl 0 rfl) ?_
                  refine lv_bipush (v := (nI 31)) hx hb dX4_mends_82 (by decide) ?_
                  refine lv_aload_n hx hb dX4_mends_84 rfl (lv_at hl 0 rfl) ?_
                  refine zq_get hx hb hts in_X4_mends_X4 hown hK hP 0 rfl rfl 5 (by decide) (hts _ w_X4_mends__fieldLink_RX4_20_WordsBesideModel_of_I__9fac8e) rfl dX4_mends_85 ?_
                  refine lv_iload_n hx hb dX4_mends_88 rfl (lv_at hl 1 rfl) ?_
                  refine zq_ild hx hb hK hP 4 rfl i rfl (by omega) (by decide) dX4_mends_89 ?_
                  refine zq_te (y := (nI (fo i))) ho ?_
                  refine lv_aload_n hx hb dX4_mends_90 rfl (lv_at hl 0 rfl) ?_
                  refine zq_get hx hb hts in_X4_mends_X4 hown hK hP 0 rfl rfl 7 (by decide) (hts _ w_X4_mends__fieldLink_RX4_26_WordsBesideModel_first_I__de9671) rfl dX4_mends_91 ?_
                  refine lv_iload_n hx hb dX4_mends_94 rfl (lv_at hl 1 rfl) ?_
                  refine zq_ild hx hb hK hP 6 rfl i rfl (by omega) (by decide) dX4_mends_95 ?_
                  refine zq_te (y := (nI pn)) ep ?_
                  refine zq_cV (rest := [.ref (ad 0)]) ⟨hx, hb, hml, hown, hts⟩ (c_X4_give l D cI cZ cW cC ad ln st gv oF kF fF sF bF mF hF kp cm m1 m2 31 (fo i) pn (by omega) (by omega) (by omega)) (cwV 3 hts gX4_mends_X4_give rfl rfl rfl (by decide +kernel) ⟨Nat.le_of_ble_eq_true rfl, Nat.le_of_ble_eq_true rfl⟩) hK hP 4 0 rfl rfl rfl hl.1 rfl (Nat.le_of_ble_eq_true rfl) dX4_mends_96 ⟨Nat.le_of_ble_eq_true rfl, Nat.le_of_ble_eq_true rfl⟩ (fun v hv => ?_)
                  obtain rfl := hv
                  refine W.eq (g2 := F0 m 99 ls [.int (zG gv 31 (256 * (fo i) + pn)), .ref (ad 0)]) rfl ?_
                  refine zq_put hx hb hts in_X4_mends_X4 tyX4 tyX4_ok nmX4 hown hK hP hD hS 0 rfl rfl 11 (by decide) (hts _ w_X4_mends__fieldLink_RX4_109_WordsBesideModel_mendOne_I__796736) rfl rfl rfl (Nat.le_of_ble_eq_true rfl) dX4_mends_99 (fun H locs hP hD hS => ?_)
                  have hP : va_P D vwCl (mW cI cZ ad ln st gv oF kF fF sF bF mF hF kp cm (zG gv 31 (256 * (fo i) + pn)) m2) H := hP
                  have hD : va_D A (mW cI cZ ad ln st gv oF kF fF sF bF mF hF kp cm (zG gv 31 (256 * (fo i) + pn)) m2) := hD
                  refine lv_aload_n hx hb dX4_mends_102 rfl (lv_at hl 0 rfl) ?_
                  refine zq_get hx hb hts in_X4_mends_X4 hown hK hP 0 rfl rfl 11 (by decide) (hts _ w_X4_mends__fieldLink_RX4_109_WordsBesideModel_mendOne_I__796736) rfl dX4_mends_103 ?_
                  refine lv_ldc (v := (-2147483648 : Int32)) hx hb hown (hts _ w_X4_mends__constant_RX4_64_2147483648__c0c951) dX4_mends_106 ?_
                  refine lv_icmp_eq (tgt := 115) hx hb dX4_mends_108 (by decide) (fun c108 => ?_) (fun c108 => ?_)
                  · refine lv_iconst (v := (0 : Int32)) hx hb dX4_mends_115 (by decide) ?_
                    exact ret _ _ _ _ _ _ (Or.inl rfl) (Or.inr ⟨(fun ⟨j, h1, h2, h3, h4⟩ => by have e2 := zeq h2; subst e2; rw [e5] at h4; exact h4 c108), rfl, _, _, rfl⟩) hP hD hS dX4_mends_116
                  · refine lv_iconst (v := (1 : Int32)) hx hb dX4_mends_111 (by decide) ?_
                    refine lv_goto (tgt := 116) hx hb dX4_mends_112 (by decide) ?_
                    exact ret _ _ _ _ _ _ (Or.inr rfl) (Or.inl ⟨i, ⟨hi, rfl, hh, by rw [e5]; exact c108⟩, rfl, _, _, rfl, e5.symm, fun q => absurd (k24_5.symm.trans q) (by decide)⟩) hP hD hS dX4_mends_116
                · by_cases k24_6 : (kF i) = (6 : Int32)
                  · refine lv_tableIn (tgt := 117) hx hb dX4_mends_24 (by rw [k24_6]; decide) (by rw [k24_6]; decide) (by rw [k24_6]; rfl) (by decide) ?_
                    refine lv_aload_n hx hb dX4_mends_117 rfl (lv_at hl 0 rfl) ?_
                    refine lv_iload_n hx hb dX4_mends_118 rfl (lv_at hl 1 rfl) ?_
                    refine zq_cM (rest := []) ⟨hx, hb, hml, hown, hts⟩ (c_X4_refuses l D cI cZ cW cC ad ln st gv oF kF fF sF bF mF hF kp cm m1 m2 fo bo n k hn hk HC i hi k24_6 _) (cwV 1 hts gX4_mends_X4_refuses rfl rfl rfl (by decide +kernel) ⟨Nat.le_of_ble_eq_true rfl, Nat.le_of_ble_eq_true rfl⟩) hK hP hD hS hA 4 0 rfl rfl rfl hl.1 rfl (Nat.le_of_ble_eq_true rfl) dX4_mends_119 ⟨Nat.le_of_ble_eq_true rfl, Nat.le_of_ble_eq_true rfl⟩ (fun v w1 H locs hv hP hD hS => ?_)
                    rcases hv with ⟨a1, rfl, rfl, ea1, hrf⟩ | ⟨a1, rfl, rfl, hrf⟩
                    · have hP : va_P D vwCl (mW cI cZ ad ln st gv oF kF fF sF bF mF hF kp cm a1 m2) H := hP
                      have hD : va_D A (mW cI cZ ad ln st gv oF kF fF sF bF mF hF kp cm a1 m2) := hD
                      refine W.eq (g2 := F0 m 122 ls [.int (1 : Int32)]) rfl ?_
                      exact ret _ _ _ _ _ _ (Or.inr rfl) (Or.inl ⟨i, ⟨hi, rfl, hh, by simp only [zm1, k24_6]; exact hrf⟩, rfl, _, _, rfl, by rw [ea1]; simp [zm1, k24_6], fun q => absurd (k24_6.symm.trans q) (by decide)⟩) hP hD hS dX4_mends_122
                    · have hP : va_P D vwCl (mW cI cZ ad ln st gv oF kF fF sF bF mF hF kp cm a1 m2) H := hP
                      have hD : va_D A (mW cI cZ ad ln st gv oF kF fF sF bF mF hF kp cm a1 m2) := hD
                      refine W.eq (g2 := F0 m 122 ls [.int (0 : Int32)]) rfl ?_
                      exact ret _ _ _ _ _ _ (Or.inl rfl) (Or.inr ⟨(fun ⟨j, h1, h2, h3, h4⟩ => by have e2 := zeq h2; subst e2; exact h4 (by simp [zm1, k24_6, hrf])), rfl, _, _, rfl⟩) hP hD hS dX4_mends_122
                  · refine lv_tableOut (tgt := 123) hx hb dX4_mends_24 (by have k24_0T := lv_neT k24_0 (a := 0) rfl; have k24_1T := lv_neT k24_1 (a := 1) rfl; have k24_2T := lv_neT k24_2 (a := 2) rfl; have k24_3T := lv_neT k24_3 (a := 3) rfl; have k24_4T := lv_neT k24_4 (a := 4) rfl; have k24_5T := lv_neT k24_5 (a := 5) rfl; have k24_6T := lv_neT k24_6 (a := 6) rfl; omega) (by decide) ?_
                    refine lv_iconst (v := (0 : Int32)) hx hb dX4_mends_123 (by decide) ?_
                    exact ret _ _ _ _ _ _ (Or.inl rfl) (Or.inr ⟨(fun ⟨j, h1, h2, h3, h4⟩ => by have e2 := zeq h2; subst e2; exact h4 (by simp [zm1, k24_0, k24_1, k24_2, k24_3, k24_4, k24_5, k24_6])), rfl, _, _, rfl⟩) hP hD hS dX4_mends_124
    · have hh := zct_aa c13
      refine lv_iconst (v := (0 : Int32)) hx hb dX4_mends_16 (by decide) ?_
      exact ret _ _ _ _ _ _ (Or.inl rfl) (Or.inr ⟨(fun ⟨j, h1, h2, h3, h4⟩ => by have e2 := zeq h2; subst e2; rw [hh] at h3; cases h3), rfl, _, _, rfl⟩) hP hD hS dX4_mends_17
  · refine W.eq (g2 := F0 m 5 ls [.int (0 : Int32)]) rfl ?_
    refine lv_if_eq (tgt := 16) hx hb dX4_mends_5 (by decide) (fun c5 => ?_) (fun c5 => absurd c5 (by decide))
    refine lv_iconst (v := (0 : Int32)) hx hb dX4_mends_16 (by decide) ?_
    exact ret _ _ _ _ _ _ (Or.inl rfl) (Or.inr ⟨(fun ⟨j, h1, h2, h3, h4⟩ => hyc ⟨j, h1, h2⟩), rfl, _, _, rfl⟩) hP hD hS dX4_mends_17

/-! the reference: writing methods -/
def zOK (st : Nat → Int32) (L : Nat → Nat) (G : Nat → Int32) (m : Nat) : Prop := ∀ f, f < m → ∀ r, r < 256 → G (256 * f + r) = zwk G st f r (L f) 0 false 0
theorem zvs_val {st : Nat → Int32} {f n : Nat} (h : zvs st f n) : zval st f n := fun k hk h9 => by
  obtain ⟨xn, hxn, ex, hx9, -⟩ := h k hk
  rw [ex] at h9 ⊢
  rw [pk_div (by omega) (by omega) (by omega)] at h9
  exact ⟨xn % 1000, hx9 (zeq h9), pk_rem (by omega) (by omega) (by omega)⟩
theorem zOK_s {st : Nat → Int32} {L : Nat → Nat} {G G' : Nat → Int32} {m : Nat} (hm : m < 6) (h : zOK st L G m) (hv : ∀ f, f < 6 → zvs st f (L f)) (h1 : ∀ j, j < 256 * m → G' j = G j) (h2 : ∀ r, r < 256 → G' (256 * m + r) = zwk G st m r (L m) 0 false 0) : zOK st L G' (m + 1) := by
  intro f hf r hr
  rcases Nat.lt_or_ge f m with q | q
  · rw [h1 _ (by omega), h f q r hr]
    exact zwk_cong0 (fun j hj => (h1 j (by omega)).symm) (by omega) hr (zvs_val (hv f (by omega))) 0
  · have e : f = m := by omega
    subst e
    rw [h2 r hr]
    exact zwk_cong0 (fun j hj => (h1 j (by omega)).symm) (by omega) hr (zvs_val (hv f (by omega))) 0
/-- two worlds that are right are one -/
theorem zOK_one {st : Nat → Int32} {L : Nat → Nat} {G G' : Nat → Int32} {m : Nat} (hm : m ≤ 6) (h : zOK st L G m) (h' : zOK st L G' m) (hv : ∀ f, f < 6 → zvs st f (L f)) : ∀ j, j < 256 * m → G j = G' j := by
  induction m with
  | zero => intro j hj; omega
  | succ m ih =>
    have ih := ih (by omega) (fun f hf => h f (by omega)) (fun f hf => h' f (by omega))
    intro j hj
    rcases Nat.lt_or_ge j (256 * m) with q | q
    · exact ih j q
    · have e : j = 256 * m + (j - 256 * m) := by omega
      rw [e, h m (by omega) _ (by omega), h' m (by omega) _ (by omega)]
      exact zwk_cong0 ih (by omega) (by omega) (zvs_val (hv m (by omega))) 0
theorem zwk_B (G : Nat → Int32) (st : Nat → Int32) (f r : Nat) : ∀ (n k : Nat) (b : Bool) (v : Int32), (-1000000 ≤ v.toInt ∧ v.toInt ≤ 1000000) → zwk G st f r n k b v = zNO ∨ (-1000000 ≤ (zwk G st f r n k b v).toInt ∧ (zwk G st f r n k b v).toInt ≤ 1000000)
  | 0, _, _, v, h => by rw [zwk]; exact Or.inr h
  | n + 1, k, true, v, h => by rw [zwk]; exact zwk_B G st f r n (k + 1) false v h
  | n + 1, k, false, v, h => by
    rw [zwk]
    by_cases h7 : st (12 * f + k) / nI 1000 = nI 7
    · rw [if_pos h7]
      exact zwk_B G st f r n (k + 1) _ v h
    · rw [if_neg h7]
      by_cases hl : (-1000000 : Int32) ≤ zaf G (st (12 * f + k)) v r ∧ zaf G (st (12 * f + k)) v r ≤ 1000000
      · rw [if_pos hl]
        exact zwk_B G st f r n (k + 1) false _ (zlim.mp hl)
      · rw [if_neg hl]
        exact Or.inl rfl
theorem zOK_B {st : Nat → Int32} {L : Nat → Nat} {G : Nat → Int32} (h : zOK st L G 6) : zB G 1536 := by
  intro j hj
  have e : j = 256 * (j / 256) + j % 256 := by omega
  rw [e, h (j / 256) (by omega) (j % 256) (by omega)]
  exact zwk_B G st _ _ _ _ _ _ (by decide)
theorem zG_upd_in {gv : Nat → Int32} {t j : Nat} {x : Int32} : zG (upd gv (1536 * t + j) x) t j = x := pk_us
theorem zG_upd_ne {gv : Nat → Int32} {t i j : Nat} {x : Int32} (h : i ≠ j) : zG (upd gv (1536 * t + j) x) t i = zG gv t i := pk_un (by omega)
theorem zcan_ok {st : Nat → Int32} {f n : Nat} {pl x : Int32} (h : zcan st f n pl x = true) : ∃ xn, xn < 11000 ∧ x = nI xn ∧ (xn / 1000 = 9 → xn % 1000 < f) ∧ (xn / 1000 = 10 → 1 ≤ xn % 1000) := by
  unfold zcan at h
  rw [decide_eq_true_eq] at h
  obtain ⟨h0, h1⟩ := h
  obtain ⟨xn, hxn, rfl⟩ := nI_of h0
  rw [nI_clamp hxn] at h1
  exact ⟨xn, by omega, rfl, by omega, by omega⟩
theorem zvs_put {st : Nat → Int32} {L : Nat → Nat} {f n k : Nat} {pl x : Int32} (hv : ∀ g, g < 6 → zvs st g (L g)) (hf : f < 6) (hk : k < 12) (hn : n ≤ L f + 1) (hn2 : k < n → True) (hL : ∀ g, g < 6 → L g ≤ 12) (hnk : ∀ i, i < n → i ≠ k → i < L f) (h : zcan st f (L f) pl x = true) : ∀ g, g < 6 → zvs (upd st (12 * f + k) x) g (va_up L f n g) := by
  intro g hg i hi
  by_cases e : g = f
  · subst e
    rw [va_up_self] at hi
    by_cases e2 : i = k
    · subst e2
      obtain ⟨xn, h1, h2, h3, h4⟩ := zcan_ok h
      exact ⟨xn, h1, by rw [pk_us, h2], h3, h4⟩
    · obtain ⟨xn, h1, h2, h3⟩ := hv g hg i (hnk i hi e2)
      exact ⟨xn, h1, by rw [pk_un (by omega), h2], h3⟩
  · rw [va_up_ne _ _ e] at hi
    obtain ⟨xn, h1, h2, h3⟩ := hv g hg i hi
    have := hL g hg
    exact ⟨xn, h1, by rw [pk_un (by omega), h2], h3⟩
theorem zvs_clr {st : Nat → Int32} {L : Nat → Nat} {f : Nat} (hv : ∀ g, g < 6 → zvs st g (L g)) : ∀ g, g < 6 → zvs st g (va_up L f 0 g) := by
  intro g hg i hi
  by_cases e : g = f
  · subst e
    rw [va_up_self] at hi
    omega
  · rw [va_up_ne _ _ e] at hi
    exact hv g hg i hi
theorem zHL_up {ln : Nat → Int32} {L : Nat → Nat} {f n : Nat} (h : zHL ln L) (hn : n ≤ 12) : zHL (upd ln f (nI n)) (va_up L f n) := by
  intro g hg
  by_cases e : g = f
  · subst e
    rw [va_up_self, pk_us]
    exact ⟨rfl, hn⟩
  · rw [va_up_ne _ _ e, pk_un e]
    exact h g hg
theorem zin_pl {st : Nat → Int32} {f n : Nat} (hn : n ≤ 12) : fb_ct (zin st f (-1)) n = fb_ct (zin st f (nI n)) n := by
  apply fb_ct_cong
  intro k hk
  have h1 : ¬ nI k = -1 := fun q => absurd (show nI k < 0 by rw [q]; decide) (nI_pos (by omega))
  have h2 : ¬ nI k = nI n := fun q => by have := zeq q; omega
  simp [zin, h1, h2]
theorem zcan_pl {st : Nat → Int32} {f n : Nat} {x : Int32} (hn : n ≤ 12) : zcan st f n (-1) x = zcan st f n (nI n) x := by
  unfold zcan
  rw [zin_pl hn]
def zst (L : Nat → Nat) (st : Nat → Int32) (fx x : Int32) : Prop := ∃ f, f < 6 ∧ fx = nI f ∧ L f < 12 ∧ zcan st f (L f) (nI (L f)) x = true
def zch (L : Nat → Nat) (st : Nat → Int32) (fx kx x : Int32) : Prop := ∃ f k, f < 6 ∧ k < L f ∧ fx = nI f ∧ kx = nI k ∧ zcan st f (L f) (nI k) x = true
def zcl (kd p q : Int32) : Prop := (kd = 0 ∧ (-1000000 : Int32) ≤ p ∧ p ≤ q ∧ q ≤ 1000000) ∨ kd = 1 ∨ kd = 2 ∨ (kd = 3 ∧ (1 : Int32) ≤ p ∧ p ≤ 1000) ∨ kd = 4 ∨ (kd = 5 ∧ zr 256 p ∧ (-1000000 : Int32) ≤ q ∧ q ≤ 1000000) ∨ (kd = 6 ∧ zr 17 p) ∨ (kd = 7 ∧ zr 6 p)

theorem w_X4_runs__fieldLink_RX4_17_WordsBesideModel_gives_I__d93a8a : (.fieldLink RX4 17 "WordsBesideModel" "gives" "[I" : Cond) ∈ wsX4_runs := by decide +kernel
theorem in_X4_runs_X4 : ∀ w ∈ wsX40, w ∈ wsX4_runs := fun _ h => List.mem_cons_of_mem _ (List.mem_append_right _ h)
set_option maxHeartbeats 4000000 in
set_option maxRecDepth 100000 in
theorem c_X4_runs (l : Launch) (D : va_G) (cI cZ cW cC : ClassId) (ad : Nat → Nat) (ln st gv oF kF fF sF bF mF hF : Nat → Int32) (kp cm m1 m2 : Int32) (L : Nat → Nat) (HL : zHL ln L) (HV : ∀ f, f < 6 → zvs st f (L f)) (sz : Nat) : zq_mu l D cI cZ cW cC yX4_runs wsX4_runs ({ frames := 2, cells := 0, slots := 0, locals := 50 } : Room) [.ref (ad 0)] (mW cI cZ ad ln st gv oF kF fF sF bF mF hF kp cm m1 m2) sz (fun v w1 => v = none ∧ ∃ g2 : Nat → Int32, w1 = (mW cI cZ ad ln st g2 oF kF fF sF bF mF hF kp cm m1 m2) ∧ (∀ j, j < 47616 → g2 j = gv j) ∧ zOK st L (zG g2 31) 6) 0 0 := by
  refine zq_muV (own := RX4) (by decide) rfl rfl (Nat.le_of_ble_eq_true rfl) ?_
  intro p e s m below meth c Q A ls hsz hF hin hA hP hK hD hS hl ret
  obtain ⟨hx, hb, hml, hown, hts⟩ := hF
  have hl : lv_has ls 3 [(0, .ref (ad 0))] := hl
  refine lv_iconst (v := (0 : Int32)) hx hb dX4_runs_0 (by decide) ?_
  refine lv_istore_n (lv' := [(1, .int (nI 0)), (0, .ref (ad 0))]) hx hb dX4_runs_1 rfl hl (by decide) rfl (fun ls hl => ?_)
  have loop2 : ∀ (fu2 : Nat) (a : Nat) (gk : Nat → Int32) (H : Heap) (locs : List Loc) (ls : Array Slot), (6 - a) < fu2 → (a ≤ 6) → (∀ j, j < 47616 → gk j = gv j) → (zOK st L (zG gk 31) a) → va_P D vwCl (mW cI cZ ad ln st gk oF kF fF sF bF mF hF kp cm m1 m2) H → va_D A (mW cI cZ ad ln st gk oF kF fF sF bF mF hF kp cm m1 m2) → va_S A s.heap H locs → lv_has ls 3 [(0, .ref (ad 0)), (1, .int (nI a))] → W p l e ({ frames := 2, cells := 0, slots := 0, locals := 50 } : Room) s m ([.ref (ad 0)] : List Value).toArray below meth c H locs 0 0 Q (F0 m 2 ls []) := by
    intro fu2
    induction fu2 with
    | zero => intro _ _ _ _ _ hmu; exact absurd hmu (Nat.not_lt_zero _)
    | succ fu2 ih2 =>
      intro a gk H locs ls hmu2 ha hk1 hk2 hP hD hS hl
      refine lv_iload_n hx hb dX4_runs_2 rfl (lv_at hl 1 rfl) ?_
      refine lv_bipush (v := (nI 6)) hx hb dX4_runs_3 (by decide) ?_
      refine lv_icmp_ge (tgt := 47) hx hb dX4_runs_5 (by decide) (fun c5 => ?_) (fun c5 => ?_)
      · have h5 := zle c5
        exact ret _ _ _ _ _ ⟨rfl, gk, rfl, hk1, by rw [show a = 6 by omega] at hk2; exact hk2⟩ hP hD hS dX4_runs_47
      · have h5 := znle c5
        refine lv_iconst (v := (nI 0)) hx hb dX4_runs_8 (by decide) ?_
        refine lv_istore_n (lv' := [(2, .int (nI 0)), (0, .ref (ad 0)), (1, .int (nI a))]) hx hb dX4_runs_9 rfl hl (by decide) rfl (fun ls hl => ?_)
        have loop10 : ∀ (fu10 : Nat) (r : Nat) (gi : Nat → Int32) (H : Heap) (locs : List Loc) (ls : Array Slot), (256 - r) < fu10 → (r ≤ 256) → (∀ j, j < 47616 → gi j = gv j) → (∀ j, j < 256 * a → zG gi 31 j = zG gk 31 j) → (∀ q, q < r → zG gi 31 (256 * a + q) = zwk (zG gk 31) st a q (L a) 0 false 0) → va_P D vwCl (mW cI cZ ad ln st gi oF kF fF sF bF mF hF kp cm m1 m2) H → va_D A (mW cI cZ ad ln st gi oF kF fF sF bF mF hF kp cm m1 m2) → va_S A s.heap H locs → lv_has ls 3 [(0, .ref (ad 0)), (1, .int (nI a)), (2, .int (nI r))] → W p l e ({ frames := 2, cells := 0, slots := 0, locals := 50 } : Room) s m ([.ref (ad 0)] : List Value).toArray below meth c H locs 0 0 Q (F0 m 10 ls []) := by
          intro fu10
          induction fu10 with
          | zero => intro _ _ _ _ _ hmu; exact absurd hmu (Nat.not_lt_zero _)
          | succ fu10 ih10 =>
            intro r gi H locs ls hmu10 hr hi1 hi2 hi3 hP hD hS hl
            refine lv_iload_n hx hb dX4_runs_10 rfl (lv_at hl 2 rfl) ?_
            refine lv_sipush (v := (nI 256)) hx hb dX4_runs_11 (by decide) ?_
            refine lv_icmp_ge (tgt := 41) hx hb dX4_runs_14 (by decide) (fun c14 => ?_) (fun c14 => ?_)
            · have h14 := zle c14
              refine lv_iinc (v := (nI (a + 1))) (lv' := [(1, .int (nI (a + 1))), (0, .ref (ad 0)), (2, .int (nI r))]) hx hb dX4_runs_41 hl (k := 1) rfl ((nI_succ _).symm) (by decide) rfl (fun ls hl => ?_)
              refine lv_goto (tgt := 2) hx hb dX4_runs_44 (by decide) ?_
              exact ih2 (a + 1) gi _ _ ls (by omega) (by omega) hi1 (zOK_s (by omega) hk2 HV hi2 (fun q hq => hi3 q (by omega))) hP hD hS (lv_sub hl [1, 0] rfl)
            · have h14 := znle c14
              refine lv_aload_n hx hb dX4_runs_17 rfl (lv_at hl 0 rfl) ?_
              refine zq_get hx hb hts in_X4_runs_X4 hown hK hP 0 rfl rfl 3 (by decide) (hts _ w_X4_runs__fieldLink_RX4_17_WordsBesideModel_gives_I__d93a8a) rfl dX4_runs_18 ?_
              refine lv_bipush (v := (nI 31)) hx hb dX4_runs_21 (by decide) ?_
              refine lv_iload_n hx hb dX4_runs_23 rfl (lv_at hl 1 rfl) ?_
              refine lv_iload_n hx hb dX4_runs_24 rfl (lv_at hl 2 rfl) ?_
              refine zq_cS (rest := [.ref (ad 3)]) ⟨hx, hb, hml, hown, hts⟩ (c_X4_at l D cI cZ cW cC 31 a r) (va_cwS 3 hts gX4_runs_X4_at rfl rfl rfl (by decide +kernel) ⟨Nat.le_of_ble_eq_true rfl, Nat.le_of_ble_eq_true rfl⟩) hK (fun k q h => by simp at h) rfl hl.1 rfl (Nat.le_of_ble_eq_true rfl) dX4_runs_25 ⟨Nat.le_of_ble_eq_true rfl, Nat.le_of_ble_eq_true rfl⟩ (fun v hv => ?_)
              obtain rfl := hv
              refine W.eq (g2 := F0 m 28 ls [.int (nI (1536 * 31 + (256 * a + r))), .ref (ad 3)]) rfl ?_
              refine lv_aload_n hx hb dX4_runs_28 rfl (lv_at hl 0 rfl) ?_
              refine lv_iload_n hx hb dX4_runs_29 rfl (lv_at hl 1 rfl) ?_
              refine lv_iload_n hx hb dX4_runs_30 rfl (lv_at hl 2 rfl) ?_
              refine zq_cV (rest := [.int (nI (1536 * 31 + (256 * a + r))), .ref (ad 3)]) ⟨hx, hb, hml, hown, hts⟩ (c_X4_goes l D cI cZ cW cC ad ln st gi oF kF fF sF bF mF hF kp cm m1 m2 L HL a r (by omega) (by omega) (HV _ (by omega))) (cwV 2 hts gX4_runs_X4_goes rfl rfl rfl (by decide +kernel) ⟨Nat.le_of_ble_eq_true rfl, Nat.le_of_ble_eq_true rfl⟩) hK hP 4 0 rfl rfl rfl hl.1 rfl (Nat.le_of_ble_eq_true rfl) dX4_runs_31 ⟨Nat.le_of_ble_eq_true rfl, Nat.le_of_ble_eq_true rfl⟩ (fun v hv => ?_)
              obtain rfl := hv
              refine W.eq (g2 := F0 m 34 ls [.int (zwk (zG gi 31) st a r (L a) 0 false 0), .int (nI (1536 * 31 + (256 * a + r))), .ref (ad 3)]) rfl ?_
              refine zq_ist hx hb hK hP hD hS 3 rfl (1536 * 31 + (256 * a + r)) rfl (by omega) (by decide) dX4_runs_34 (fun H locs hP hD hS => ?_)
              have hP : va_P D vwCl (mW cI cZ ad ln st (upd gi (1536 * 31 + (256 * a + r)) (zwk (zG gi 31) st a r (L a) 0 false 0)) oF kF fF sF bF mF hF kp cm m1 m2) H := hP
              have hD : va_D A (mW cI cZ ad ln st (upd gi (1536 * 31 + (256 * a + r)) (zwk (zG gi 31) st a r (L a) 0 false 0)) oF kF fF sF bF mF hF kp cm m1 m2) := hD
              refine lv_iinc (v := (nI (r + 1))) (lv' := [(2, .int (nI (r + 1))), (0, .ref (ad 0)), (1, .int (nI a))]) hx hb dX4_runs_35 hl (k := 2) rfl ((nI_succ _).symm) (by decide) rfl (fun ls hl => ?_)
              refine lv_goto (tgt := 10) hx hb dX4_runs_38 (by decide) ?_
              exact ih10 (r + 1) (upd gi (1536 * 31 + (256 * a + r)) (zwk (zG gi 31) st a r (L a) 0 false 0)) _ _ ls (by omega) (by omega) (fun j hj => by rw [pk_un (by omega)]; exact hi1 j hj) (fun j hj => by rw [zG_upd_ne (by omega)]; exact hi2 j hj) (fun q hq => by
                              by_cases e : q = r
                              · subst e; rw [zG_upd_in]; exact zwk_cong0 hi2 (by omega) (by omega) (zvs_val (HV a (by omega))) 0
                              · rw [zG_upd_ne (by omega)]; exact hi3 q (by omega)) hP hD hS (lv_sub hl [1, 2, 0] rfl)
        exact loop10 (256 + 1) 0 gk _ _ ls (by omega) (by omega) hk1 (fun _ _ => rfl) (fun q hq => absurd hq (Nat.not_lt_zero q)) hP hD hS (lv_sub hl [1, 2, 0] rfl)
  exact loop2 (6 + 1) 0 gv _ _ ls (by omega) (by omega) (fun _ _ => rfl) (fun f hf => absurd hf (Nat.not_lt_zero f)) hP hD hS (lv_sub hl [1, 0] rfl)
theorem w_X4_clear__fieldLink_RX4_9_WordsBesideModel_longs_I__8385b9 : (.fieldLink RX4 9 "WordsBesideModel" "longs" "[I" : Cond) ∈ wsX4_clear := by decide +kernel
theorem in_X4_clear_X4 : ∀ w ∈ wsX40, w ∈ wsX4_clear := fun _ h => List.mem_cons_of_mem _ (List.mem_append_right _ h)
set_option maxHeartbeats 4000000 in
set_option maxRecDepth 100000 in
theorem c_X4_clear (l : Launch) (D : va_G) (cI cZ cW cC : ClassId) (ad : Nat → Nat) (ln st gv oF kF fF sF bF mF hF : Nat → Int32) (kp cm m1 m2 : Int32) (L : Nat → Nat) (HL : zHL ln L) (HV : ∀ f, f < 6 → zvs st f (L f)) (fx : Int32) (sz : Nat) : zq_mu l D cI cZ cW cC yX4_clear wsX4_clear ({ frames := 3, cells := 0, slots := 0, locals := 72 } : Room) [.ref (ad 0), .int fx] (mW cI cZ ad ln st gv oF kF fF sF bF mF hF kp cm m1 m2) sz (fun v w1 => (∃ f, f < 6 ∧ fx = nI f ∧ v = some (.int 1) ∧ ∃ g2 : Nat → Int32, w1 = (mW cI cZ ad (upd ln f 0) st g2 oF kF fF sF bF mF hF kp cm m1 m2) ∧ (∀ j, j < 47616 → g2 j = gv j) ∧ zOK st (va_up L f 0) (zG g2 31) 6) ∨ (¬ zr 6 fx ∧ v = some (.int 0) ∧ w1 = (mW cI cZ ad ln st gv oF kF fF sF bF mF hF kp cm m1 m2))) 0 0 := by
  refine zq_muZ (own := RX4) (by decide) rfl rfl (Nat.le_of_ble_eq_true rfl) ?_
  intro p e s m below meth c Q A ls hsz hF hin hA hP hK hD hS hl ret
  obtain ⟨hx, hb, hml, hown, hts⟩ := hF
  have hl : lv_has ls 2 [(0, .ref (ad 0)), (1, .int fx)] := hl
  refine lv_iload_n hx hb dX4_clear_0 rfl (lv_at hl 1 rfl) ?_
  refine zq_cS (rest := []) ⟨hx, hb, hml, hown, hts⟩ (c_X4_isFunction l D cI cZ cW cC fx) (va_cwS 1 hts gX4_clear_X4_isFunction rfl rfl rfl (by decide +kernel) ⟨Nat.le_of_ble_eq_true rfl, Nat.le_of_ble_eq_true rfl⟩) hK (fun k q h => by simp at h) rfl hl.1 rfl (Nat.le_of_ble_eq_true rfl) dX4_clear_1 ⟨Nat.le_of_ble_eq_true rfl, Nat.le_of_ble_eq_true rfl⟩ (fun v hv => ?_)
  rcases hv with ⟨rfl, f, hf, rfl⟩ | ⟨rfl, hyf⟩
  · refine W.eq (g2 := F0 m 4 ls [.int (1 : Int32)]) rfl ?_
    refine lv_if_ne (tgt := 9) hx hb dX4_clear_4 (by decide) (fun c4 => ?_) (fun c4 => absurd c4 (by decide))
    refine lv_aload_n hx hb dX4_clear_9 rfl (lv_at hl 0 rfl) ?_
    refine zq_get hx hb hts in_X4_clear_X4 hown hK hP 0 rfl rfl 0 (by decide) (hts _ w_X4_clear__fieldLink_RX4_9_WordsBesideModel_longs_I__8385b9) rfl dX4_clear_10 ?_
    refine lv_iload_n hx hb dX4_clear_13 rfl (lv_at hl 1 rfl) ?_
    refine lv_iconst (v := (0 : Int32)) hx hb dX4_clear_14 (by decide) ?_
    refine zq_ist hx hb hK hP hD hS 1 rfl f rfl (by omega) (by decide) dX4_clear_15 (fun H locs hP hD hS => ?_)
    have hP : va_P D vwCl (mW cI cZ ad (upd ln f (0 : Int32)) st gv oF kF fF sF bF mF hF kp cm m1 m2) H := hP
    have hD : va_D A (mW cI cZ ad (upd ln f (0 : Int32)) st gv oF kF fF sF bF mF hF kp cm m1 m2) := hD
    refine lv_aload_n hx hb dX4_clear_16 rfl (lv_at hl 0 rfl) ?_
    refine zq_cM (rest := []) ⟨hx, hb, hml, hown, hts⟩ (c_X4_runs l D cI cZ cW cC ad (upd ln f 0) st gv oF kF fF sF bF mF hF kp cm m1 m2 (va_up L f 0) (zHL_up (n := 0) HL (by omega)) (zvs_clr HV) _) (cwV 0 hts gX4_clear_X4_runs rfl rfl rfl (by decide +kernel) ⟨Nat.le_of_ble_eq_true rfl, Nat.le_of_ble_eq_true rfl⟩) hK hP hD hS hA 4 0 rfl rfl rfl hl.1 rfl (Nat.le_of_ble_eq_true rfl) dX4_clear_17 ⟨Nat.le_of_ble_eq_true rfl, Nat.le_of_ble_eq_true rfl⟩ (fun v w1 H locs hv hP hD hS => ?_)
    obtain ⟨rfl, g2, rfl, hg1, hg2⟩ := hv
    have hP : va_P D vwCl (mW cI cZ ad (upd ln f (0 : Int32)) st g2 oF kF fF sF bF mF hF kp cm m1 m2) H := hP
    have hD : va_D A (mW cI cZ ad (upd ln f (0 : Int32)) st g2 oF kF fF sF bF mF hF kp cm m1 m2) := hD
    refine W.eq (g2 := F0 m 20 ls []) rfl ?_
    refine lv_iconst (v := (1 : Int32)) hx hb dX4_clear_20 (by decide) ?_
    exact ret _ _ _ _ _ _ (Or.inr rfl) (Or.inl ⟨f, hf, rfl, rfl, g2, rfl, hg1, hg2⟩) hP hD hS dX4_clear_21
  · refine W.eq (g2 := F0 m 4 ls [.int (0 : Int32)]) rfl ?_
    refine lv_if_ne (tgt := 9) hx hb dX4_clear_4 (by decide) (fun c4 => absurd c4 (by decide)) (fun c4 => ?_)
    refine lv_iconst (v := (0 : Int32)) hx hb dX4_clear_7 (by decide) ?_
    exact ret _ _ _ _ _ _ (Or.inl rfl) (Or.inr ⟨hyf, rfl, rfl⟩) hP hD hS dX4_clear_8
theorem w_X4_step__fieldLink_RX4_13_WordsBesideModel_steps_I__04b4b3 : (.fieldLink RX4 13 "WordsBesideModel" "steps" "[I" : Cond) ∈ wsX4_step := by decide +kernel
theorem w_X4_step__fieldLink_RX4_9_WordsBesideModel_longs_I__8385b9 : (.fieldLink RX4 9 "WordsBesideModel" "longs" "[I" : Cond) ∈ wsX4_step := by decide +kernel
theorem in_X4_step_X4 : ∀ w ∈ wsX40, w ∈ wsX4_step := fun _ h => List.mem_cons_of_mem _ (List.mem_append_right _ h)
set_option maxHeartbeats 4000000 in
set_option maxRecDepth 100000 in
theorem c_X4_step (l : Launch) (D : va_G) (cI cZ cW cC : ClassId) (ad : Nat → Nat) (ln st gv oF kF fF sF bF mF hF : Nat → Int32) (kp cm m1 m2 : Int32) (L : Nat → Nat) (HL : zHL ln L) (HV : ∀ f, f < 6 → zvs st f (L f)) (fx x : Int32) (sz : Nat) : zq_mu l D cI cZ cW cC yX4_step wsX4_step ({ frames := 3, cells := 0, slots := 0, locals := 72 } : Room) [.ref (ad 0), .int fx, .int x] (mW cI cZ ad ln st gv oF kF fF sF bF mF hF kp cm m1 m2) sz (fun v w1 => (∃ f, f < 6 ∧ fx = nI f ∧ L f < 12 ∧ zcan st f (L f) (nI (L f)) x = true ∧ v = some (.int (nI (L f + 1))) ∧ ∃ g2 : Nat → Int32, w1 = (mW cI cZ ad (upd ln f (nI (L f + 1))) (upd st (12 * f + L f) x) g2 oF kF fF sF bF mF hF kp cm m1 m2) ∧ (∀ j, j < 47616 → g2 j = gv j) ∧ zOK (upd st (12 * f + L f) x) (va_up L f (L f + 1)) (zG g2 31) 6) ∨ (¬ zst L st fx x ∧ v = some (.int (-1)) ∧ w1 = (mW cI cZ ad ln st gv oF kF fF sF bF mF hF kp cm m1 m2))) 0 0 := by
  refine zq_muI (own := RX4) (by decide) rfl rfl (Nat.le_of_ble_eq_true rfl) ?_
  intro p e s m below meth c Q A ls hsz hF hin hA hP hK hD hS hl ret
  obtain ⟨hx, hb, hml, hown, hts⟩ := hF
  have hl : lv_has ls 3 [(0, .ref (ad 0)), (1, .int fx), (2, .int x)] := hl
  refine lv_iload_n hx hb dX4_step_0 rfl (lv_at hl 1 rfl) ?_
  refine zq_cS (rest := []) ⟨hx, hb, hml, hown, hts⟩ (c_X4_isFunction l D cI cZ cW cC fx) (va_cwS 1 hts gX4_step_X4_isFunction rfl rfl rfl (by decide +kernel) ⟨Nat.le_of_ble_eq_true rfl, Nat.le_of_ble_eq_true rfl⟩) hK (fun k q h => by simp at h) rfl hl.1 rfl (Nat.le_of_ble_eq_true rfl) dX4_step_1 ⟨Nat.le_of_ble_eq_true rfl, Nat.le_of_ble_eq_true rfl⟩ (fun v hv => ?_)
  rcases hv with ⟨rfl, f, hf, rfl⟩ | ⟨rfl, hyf⟩
  · refine W.eq (g2 := F0 m 4 ls [.int (1 : Int32)]) rfl ?_
    obtain ⟨eL, hL⟩ := HL f hf
    refine lv_if_eq (tgt := 28) hx hb dX4_step_4 (by decide) (fun c4 => absurd c4 (by decide)) (fun c4 => ?_)
    refine lv_aload_n hx hb dX4_step_7 rfl (lv_at hl 0 rfl) ?_
    refine zq_get hx hb hts in_X4_step_X4 hown hK hP 0 rfl rfl 0 (by decide) (hts _ w_X4_step__fieldLink_RX4_9_WordsBesideModel_longs_I__8385b9) rfl dX4_step_8 ?_
    refine lv_iload_n hx hb dX4_step_11 rfl (lv_at hl 1 rfl) ?_
    refine zq_ild hx hb hK hP 1 rfl f rfl (by omega) (by decide) dX4_step_12 ?_
    refine zq_te (y := (nI (L f))) eL ?_
    refine lv_bipush (v := (nI 12)) hx hb dX4_step_13 (by decide) ?_
    refine lv_icmp_eq (tgt := 28) hx hb dX4_step_15 (by decide) (fun c15 => ?_) (fun c15 => ?_)
    · have h15 := zeq c15
      refine lv_iconst (v := (-1 : Int32)) hx hb dX4_step_28 (by decide) ?_
      exact ret _ _ _ _ _ _ (Or.inr ⟨(fun ⟨g, hg, e, h1, h2⟩ => by have e2 := zeq e; subst e2; omega), rfl, rfl⟩) hP hD hS dX4_step_29
    · have h15 := zne c15
      refine lv_aload_n hx hb dX4_step_18 rfl (lv_at hl 0 rfl) ?_
      refine lv_iload_n hx hb dX4_step_19 rfl (lv_at hl 1 rfl) ?_
      refine lv_iconst (v := (-1 : Int32)) hx hb dX4_step_20 (by decide) ?_
      refine lv_iload_n hx hb dX4_step_21 rfl (lv_at hl 2 rfl) ?_
      refine zq_cV (rest := []) ⟨hx, hb, hml, hown, hts⟩ (c_X4_canBe l D cI cZ cW cC ad ln st gv oF kF fF sF bF mF hF kp cm m1 m2 L HL f hf (-1 : Int32) x) (cwV 3 hts gX4_step_X4_canBe rfl rfl rfl (by decide +kernel) ⟨Nat.le_of_ble_eq_true rfl, Nat.le_of_ble_eq_true rfl⟩) hK hP 4 0 rfl rfl rfl hl.1 rfl (Nat.le_of_ble_eq_true rfl) dX4_step_22 ⟨Nat.le_of_ble_eq_true rfl, Nat.le_of_ble_eq_true rfl⟩ (fun v hv => ?_)
      obtain rfl := hv
      refine W.eq (g2 := F0 m 25 ls [.int (if zcan st f (L f) (-1 : Int32) x then (1 : Int32) else 0)]) rfl ?_
      refine lv_if_ne (tgt := 30) hx hb dX4_step_25 (by decide) (fun c25 => ?_) (fun c25 => ?_)
      · have hcan : zcan st f (L f) (nI (L f)) x = true := by rw [← zcan_pl hL]; exact zct_aa c25
        have hL2 : L f < 12 := by omega
        refine lv_aload_n hx hb dX4_step_30 rfl (lv_at hl 0 rfl) ?_
        refine zq_get hx hb hts in_X4_step_X4 hown hK hP 0 rfl rfl 1 (by decide) (hts _ w_X4_step__fieldLink_RX4_13_WordsBesideModel_steps_I__04b4b3) rfl dX4_step_31 ?_
        refine lv_bipush (v := (nI 12)) hx hb dX4_step_34 (by decide) ?_
        refine lv_iload_n hx hb dX4_step_36 rfl (lv_at hl 1 rfl) ?_
        refine lv_imul hx hb dX4_step_37 ?_
        refine lv_aload_n hx hb dX4_step_38 rfl (lv_at hl 0 rfl) ?_
        refine zq_get hx hb hts in_X4_step_X4 hown hK hP 0 rfl rfl 0 (by decide) (hts _ w_X4_step__fieldLink_RX4_9_WordsBesideModel_longs_I__8385b9) rfl dX4_step_39 ?_
        refine lv_iload_n hx hb dX4_step_42 rfl (lv_at hl 1 rfl) ?_
        refine zq_ild hx hb hK hP 1 rfl f rfl (by omega) (by decide) dX4_step_43 ?_
        refine zq_te (y := (nI (L f))) eL ?_
        refine lv_iadd hx hb dX4_step_44 ?_
        refine lv_iload_n hx hb dX4_step_45 rfl (lv_at hl 2 rfl) ?_
        refine zq_ist hx hb hK hP hD hS 2 rfl (12 * f + L f) (by simp only [pk_mul, nI_add] <;> (congr 1; omega)) (by omega) (by decide) dX4_step_46 (fun H locs hP hD hS => ?_)
        have hP : va_P D vwCl (mW cI cZ ad ln (upd st (12 * f + L f) x) gv oF kF fF sF bF mF hF kp cm m1 m2) H := hP
        have hD : va_D A (mW cI cZ ad ln (upd st (12 * f + L f) x) gv oF kF fF sF bF mF hF kp cm m1 m2) := hD
        refine lv_aload_n hx hb dX4_step_47 rfl (lv_at hl 0 rfl) ?_
        refine zq_get hx hb hts in_X4_step_X4 hown hK hP 0 rfl rfl 0 (by decide) (hts _ w_X4_step__fieldLink_RX4_9_WordsBesideModel_longs_I__8385b9) rfl dX4_step_48 ?_
        refine lv_iload_n hx hb dX4_step_51 rfl (lv_at hl 1 rfl) ?_
        refine lv_dup2_11 hx hb dX4_step_52 rfl rfl ?_
        refine zq_ild hx hb hK hP 1 rfl f rfl (by omega) (by decide) dX4_step_53 ?_
        refine zq_te (y := (nI (L f))) eL ?_
        refine lv_iconst (v := (nI 1)) hx hb dX4_step_54 (by decide) ?_
        refine lv_iadd hx hb dX4_step_55 ?_
        refine zq_te (y := (nI (L f + 1))) (nI_add _ _) ?_
        refine zq_ist hx hb hK hP hD hS 1 rfl f rfl (by omega) (by decide) dX4_step_56 (fun H locs hP hD hS => ?_)
        have hP : va_P D vwCl (mW cI cZ ad (upd ln f (nI (L f + 1))) (upd st (12 * f + L f) x) gv oF kF fF sF bF mF hF kp cm m1 m2) H := hP
        have hD : va_D A (mW cI cZ ad (upd ln f (nI (L f + 1))) (upd st (12 * f + L f) x) gv oF kF fF sF bF mF hF kp cm m1 m2) := hD
        refine lv_aload_n hx hb dX4_step_57 rfl (lv_at hl 0 rfl) ?_
        refine zq_cM (rest := []) ⟨hx, hb, hml, hown, hts⟩ (c_X4_runs l D cI cZ cW cC ad (upd ln f (nI (L f + 1))) (upd st (12 * f + L f) x) gv oF kF fF sF bF mF hF kp cm m1 m2 (va_up L f (L f + 1)) (zHL_up HL (by omega)) (zvs_put (n := L f + 1) HV hf hL2 (by omega) (fun _ => trivial) (fun g hg => (HL g hg).2) (fun i hi hne => by omega) hcan) _) (cwV 0 hts gX4_step_X4_runs rfl rfl rfl (by decide +kernel) ⟨Nat.le_of_ble_eq_true rfl, Nat.le_of_ble_eq_true rfl⟩) hK hP hD hS hA 4 0 rfl rfl rfl hl.1 rfl (Nat.le_of_ble_eq_true rfl) dX4_step_58 ⟨Nat.le_of_ble_eq_true rfl, Nat.le_of_ble_eq_true rfl⟩ (fun v w1 H locs hv hP hD hS => ?_)
        obtain ⟨rfl, g2, rfl, hg1, hg2⟩ := hv
        have hP : va_P D vwCl (mW cI cZ ad (upd ln f (nI (L f + 1))) (upd st (12 * f + L f) x) g2 oF kF fF sF bF mF hF kp cm m1 m2) H := hP
        have hD : va_D A (mW cI cZ ad (upd ln f (nI (L f + 1))) (upd st (12 * f + L f) x) g2 oF kF fF sF bF mF hF kp cm m1 m2) := hD
        refine W.eq (g2 := F0 m 61 ls []) rfl ?_
        refine lv_aload_n hx hb dX4_step_61 rfl (lv_at hl 0 rfl) ?_
        refine zq_get hx hb hts in_X4_step_X4 hown hK hP 0 rfl rfl 0 (by decide) (hts _ w_X4_step__fieldLink_RX4_9_WordsBesideModel_longs_I__8385b9) rfl dX4_step_62 ?_
        refine lv_iload_n hx hb dX4_step_65 rfl (lv_at hl 1 rfl) ?_
        refine zq_ild hx hb hK hP 1 rfl f rfl (by omega) (by decide) dX4_step_66 ?_
        refine zq_te (y := (nI (L f + 1))) pk_us ?_
        exact ret _ _ _ _ _ _ (Or.inl ⟨f, hf, rfl, hL2, hcan, rfl, g2, rfl, hg1, hg2⟩) hP hD hS dX4_step_67
      · refine lv_iconst (v := (-1 : Int32)) hx hb dX4_step_28 (by decide) ?_
        exact ret _ _ _ _ _ _ (Or.inr ⟨(fun ⟨g, hg, e, h1, h2⟩ => by have e2 := zeq e; subst e2; rw [zcan_pl hL, h2] at c25; exact absurd c25 (by decide)), rfl, rfl⟩) hP hD hS dX4_step_29
  · refine W.eq (g2 := F0 m 4 ls [.int (0 : Int32)]) rfl ?_
    refine lv_if_eq (tgt := 28) hx hb dX4_step_4 (by decide) (fun c4 => ?_) (fun c4 => absurd c4 (by decide))
    refine lv_iconst (v := (-1 : Int32)) hx hb dX4_step_28 (by decide) ?_
    exact ret _ _ _ _ _ _ (Or.inr ⟨(fun ⟨g, hg, e, h1, h2⟩ => hyf ⟨g, hg, e⟩), rfl, rfl⟩) hP hD hS dX4_step_29
theorem w_X4_change__fieldLink_RX4_13_WordsBesideModel_steps_I__04b4b3 : (.fieldLink RX4 13 "WordsBesideModel" "steps" "[I" : Cond) ∈ wsX4_change := by decide +kernel
theorem w_X4_change__fieldLink_RX4_9_WordsBesideModel_longs_I__8385b9 : (.fieldLink RX4 9 "WordsBesideModel" "longs" "[I" : Cond) ∈ wsX4_change := by decide +kernel
theorem in_X4_change_X4 : ∀ w ∈ wsX40, w ∈ wsX4_change := fun _ h => List.mem_cons_of_mem _ (List.mem_append_right _ h)
set_option maxHeartbeats 4000000 in
set_option maxRecDepth 100000 in
theorem c_X4_change (l : Launch) (D : va_G) (cI cZ cW cC : ClassId) (ad : Nat → Nat) (ln st gv oF kF fF sF bF mF hF : Nat → Int32) (kp cm m1 m2 : Int32) (L : Nat → Nat) (HL : zHL ln L) (HV : ∀ f, f < 6 → zvs st f (L f)) (fx kx x : Int32) (sz : Nat) : zq_mu l D cI cZ cW cC yX4_change wsX4_change ({ frames := 3, cells := 0, slots := 0, locals := 72 } : Room) [.ref (ad 0), .int fx, .int kx, .int x] (mW cI cZ ad ln st gv oF kF fF sF bF mF hF kp cm m1 m2) sz (fun v w1 => (∃ f k, f < 6 ∧ k < L f ∧ fx = nI f ∧ kx = nI k ∧ zcan st f (L f) (nI k) x = true ∧ v = some (.int 1) ∧ ∃ g2 : Nat → Int32, w1 = (mW cI cZ ad ln (upd st (12 * f + k) x) g2 oF kF fF sF bF mF hF kp cm m1 m2) ∧ (∀ j, j < 47616 → g2 j = gv j) ∧ zOK (upd st (12 * f + k) x) L (zG g2 31) 6) ∨ (¬ zch L st fx kx x ∧ v = some (.int 0) ∧ w1 = (mW cI cZ ad ln st gv oF kF fF sF bF mF hF kp cm m1 m2))) 0 0 := by
  refine zq_muZ (own := RX4) (by decide) rfl rfl (Nat.le_of_ble_eq_true rfl) ?_
  intro p e s m below meth c Q A ls hsz hF hin hA hP hK hD hS hl ret
  obtain ⟨hx, hb, hml, hown, hts⟩ := hF
  have hl : lv_has ls 4 [(0, .ref (ad 0)), (1, .int fx), (2, .int kx), (3, .int x)] := hl
  refine lv_iload_n hx hb dX4_change_0 rfl (lv_at hl 1 rfl) ?_
  refine zq_cS (rest := []) ⟨hx, hb, hml, hown, hts⟩ (c_X4_isFunction l D cI cZ cW cC fx) (va_cwS 1 hts gX4_change_X4_isFunction rfl rfl rfl (by decide +kernel) ⟨Nat.le_of_ble_eq_true rfl, Nat.le_of_ble_eq_true rfl⟩) hK (fun k q h => by simp at h) rfl hl.1 rfl (Nat.le_of_ble_eq_true rfl) dX4_change_1 ⟨Nat.le_of_ble_eq_true rfl, Nat.le_of_ble_eq_true rfl⟩ (fun v hv => ?_)
  rcases hv with ⟨rfl, f, hf, rfl⟩ | ⟨rfl, hyf⟩
  · refine W.eq (g2 := F0 m 4 ls [.int (1 : Int32)]) rfl ?_
    obtain ⟨eL, hL⟩ := HL f hf
    refine lv_if_eq (tgt := 33) hx hb dX4_change_4 (by decide) (fun c4 => absurd c4 (by decide)) (fun c4 => ?_)
    refine lv_iload_n hx hb dX4_change_7 rfl (lv_at hl 2 rfl) ?_
    refine lv_iconst (v := (0 : Int32)) hx hb dX4_change_8 (by decide) ?_
    refine lv_aload_n hx hb dX4_change_9 rfl (lv_at hl 0 rfl) ?_
    refine zq_get hx hb hts in_X4_change_X4 hown hK hP 0 rfl rfl 0 (by decide) (hts _ w_X4_change__fieldLink_RX4_9_WordsBesideModel_longs_I__8385b9) rfl dX4_change_10 ?_
    refine lv_iload_n hx hb dX4_change_13 rfl (lv_at hl 1 rfl) ?_
    refine zq_ild hx hb hK hP 1 rfl f rfl (by omega) (by decide) dX4_change_14 ?_
    refine zq_te (y := (nI (L f))) eL ?_
    refine lv_iconst (v := (1 : Int32)) hx hb dX4_change_15 (by decide) ?_
    refine lv_isub hx hb dX4_change_16 ?_
    refine zq_cS (rest := []) ⟨hx, hb, hml, hown, hts⟩ (zq_ro_mono (c_X4_in l D cI cZ cW cC kx 0 (nI (L f) - 1)) (fun v h => show (v = some (.int 1) ∧ zr (L f) kx) ∨ (v = some (.int 0) ∧ ¬ zr (L f) kx) from h.imp (fun q => ⟨q.1, (zr_pm (by omega)).mp q.2⟩) (fun q => ⟨q.1, fun z => q.2 ((zr_pm (by omega)).mpr z)⟩))) (va_cwS 3 hts gX4_change_X4_in rfl rfl rfl (by decide +kernel) ⟨Nat.le_of_ble_eq_true rfl, Nat.le_of_ble_eq_true rfl⟩) hK (fun k q h => by simp at h) rfl hl.1 rfl (Nat.le_of_ble_eq_true rfl) dX4_change_17 ⟨Nat.le_of_ble_eq_true rfl, Nat.le_of_ble_eq_true rfl⟩ (fun v hv => ?_)
    rcases hv with ⟨rfl, k, hk, rfl⟩ | ⟨rfl, hyk⟩
    · refine W.eq (g2 := F0 m 20 ls [.int (1 : Int32)]) rfl ?_
      refine lv_if_eq (tgt := 33) hx hb dX4_change_20 (by decide) (fun c20 => absurd c20 (by decide)) (fun c20 => ?_)
      refine lv_aload_n hx hb dX4_change_23 rfl (lv_at hl 0 rfl) ?_
      refine lv_iload_n hx hb dX4_change_24 rfl (lv_at hl 1 rfl) ?_
      refine lv_iload_n hx hb dX4_change_25 rfl (lv_at hl 2 rfl) ?_
      refine lv_iload_n hx hb dX4_change_26 rfl (lv_at hl 3 rfl) ?_
      refine zq_cV (rest := []) ⟨hx, hb, hml, hown, hts⟩ (c_X4_canBe l D cI cZ cW cC ad ln st gv oF kF fF sF bF mF hF kp cm m1 m2 L HL f hf (nI k) x) (cwV 3 hts gX4_change_X4_canBe rfl rfl rfl (by decide +kernel) ⟨Nat.le_of_ble_eq_true rfl, Nat.le_of_ble_eq_true rfl⟩) hK hP 4 0 rfl rfl rfl hl.1 rfl (Nat.le_of_ble_eq_true rfl) dX4_change_27 ⟨Nat.le_of_ble_eq_true rfl, Nat.le_of_ble_eq_true rfl⟩ (fun v hv => ?_)
      obtain rfl := hv
      refine W.eq (g2 := F0 m 30 ls [.int (if zcan st f (L f) (nI k) x then (1 : Int32) else 0)]) rfl ?_
      refine lv_if_ne (tgt := 35) hx hb dX4_change_30 (by decide) (fun c30 => ?_) (fun c30 => ?_)
      · have hcan := zct_aa c30
        refine lv_aload_n hx hb dX4_change_35 rfl (lv_at hl 0 rfl) ?_
        refine zq_get hx hb hts in_X4_change_X4 hown hK hP 0 rfl rfl 1 (by decide) (hts _ w_X4_change__fieldLink_RX4_13_WordsBesideModel_steps_I__04b4b3) rfl dX4_change_36 ?_
        refine lv_bipush (v := (nI 12)) hx hb dX4_change_39 (by decide) ?_
        refine lv_iload_n hx hb dX4_change_41 rfl (lv_at hl 1 rfl) ?_
        refine lv_imul hx hb dX4_change_42 ?_
        refine lv_iload_n hx hb dX4_change_43 rfl (lv_at hl 2 rfl) ?_
        refine lv_iadd hx hb dX4_change_44 ?_
        refine lv_iload_n hx hb dX4_change_45 rfl (lv_at hl 3 rfl) ?_
        refine zq_ist hx hb hK hP hD hS 2 rfl (12 * f + k) (by simp only [pk_mul, nI_add] <;> (congr 1; omega)) (by omega) (by decide) dX4_change_46 (fun H locs hP hD hS => ?_)
        have hP : va_P D vwCl (mW cI cZ ad ln (upd st (12 * f + k) x) gv oF kF fF sF bF mF hF kp cm m1 m2) H := hP
        have hD : va_D A (mW cI cZ ad ln (upd st (12 * f + k) x) gv oF kF fF sF bF mF hF kp cm m1 m2) := hD
        refine lv_aload_n hx hb dX4_change_47 rfl (lv_at hl 0 rfl) ?_
        refine zq_cM (rest := []) ⟨hx, hb, hml, hown, hts⟩ (c_X4_runs l D cI cZ cW cC ad ln (upd st (12 * f + k) x) gv oF kF fF sF bF mF hF kp cm m1 m2 L HL (fun g hg => by have h9 := zvs_put (n := L f) (k := k) HV hf (by omega) (by omega) (fun _ => trivial) (fun g hg => (HL g hg).2) (fun i hi _ => hi) hcan g hg; rw [show va_up L f (L f) g = L g from by by_cases e : g = f <;> simp [va_up, e]] at h9; exact h9) _) (cwV 0 hts gX4_change_X4_runs rfl rfl rfl (by decide +kernel) ⟨Nat.le_of_ble_eq_true rfl, Nat.le_of_ble_eq_true rfl⟩) hK hP hD hS hA 4 0 rfl rfl rfl hl.1 rfl (Nat.le_of_ble_eq_true rfl) dX4_change_48 ⟨Nat.le_of_ble_eq_true rfl, Nat.le_of_ble_eq_true rfl⟩ (fun v w1 H locs hv hP hD hS => ?_)
        obtain ⟨rfl, g2, rfl, hg1, hg2⟩ := hv
        have hP : va_P D vwCl (mW cI cZ ad ln (upd st (12 * f + k) x) g2 oF kF fF sF bF mF hF kp cm m1 m2) H := hP
        have hD : va_D A (mW cI cZ ad ln (upd st (12 * f + k) x) g2 oF kF fF sF bF mF hF kp cm m1 m2) := hD
        refine W.eq (g2 := F0 m 51 ls []) rfl ?_
        refine lv_iconst (v := (1 : Int32)) hx hb dX4_change_51 (by decide) ?_
        exact ret _ _ _ _ _ _ (Or.inr rfl) (Or.inl ⟨f, k, hf, hk, rfl, rfl, hcan, rfl, g2, rfl, hg1, hg2⟩) hP hD hS dX4_change_52
      · refine lv_iconst (v := (0 : Int32)) hx hb dX4_change_33 (by decide) ?_
        exact ret _ _ _ _ _ _ (Or.inl rfl) (Or.inr ⟨(fun ⟨g, i, hg, hi, e, e1, h2⟩ => by have e2 := zeq e; subst e2; have e3 := zeq e1; subst e3; rw [h2] at c30; exact absurd c30 (by decide)), rfl, rfl⟩) hP hD hS dX4_change_34
    · refine W.eq (g2 := F0 m 20 ls [.int (0 : Int32)]) rfl ?_
      refine lv_if_eq (tgt := 33) hx hb dX4_change_20 (by decide) (fun c20 => ?_) (fun c20 => absurd c20 (by decide))
      refine lv_iconst (v := (0 : Int32)) hx hb dX4_change_33 (by decide) ?_
      exact ret _ _ _ _ _ _ (Or.inl rfl) (Or.inr ⟨(fun ⟨g, i, hg, hi, e, e1, h2⟩ => by have e2 := zeq e; subst e2; exact hyk ⟨i, hi, e1⟩), rfl, rfl⟩) hP hD hS dX4_change_34
  · refine W.eq (g2 := F0 m 4 ls [.int (0 : Int32)]) rfl ?_
    refine lv_if_eq (tgt := 33) hx hb dX4_change_4 (by decide) (fun c4 => ?_) (fun c4 => absurd c4 (by decide))
    refine lv_iconst (v := (0 : Int32)) hx hb dX4_change_33 (by decide) ?_
    exact ret _ _ _ _ _ _ (Or.inl rfl) (Or.inr ⟨(fun ⟨g, i, hg, hi, e, e1, h2⟩ => hyf ⟨g, hg, e⟩), rfl, rfl⟩) hP hD hS dX4_change_34

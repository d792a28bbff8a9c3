/-! the reference: its world, reading methods -/
abbrev mW (cI cZ : ClassId) (ad : Nat → Nat) (ln st gv oF kF fF sF bF mF hF : Nat → Int32) (kp cm m1 m2 : Int32) : va_W := [(ad 0, .inr (4, [.ref (ad 1), .ref (ad 2), .int kp, .ref (ad 3), .int cm, .ref (ad 4), .ref (ad 5), .ref (ad 6), .ref (ad 7), .ref (ad 8), .ref (ad 9), .int m1, .int m2, .ref (ad 10)])), (ad 1, .inl (cI, 6, .inl ln)), (ad 2, .inl (cI, 72, .inl st)), (ad 3, .inl (cI, 49152, .inl gv)), (ad 4, .inl (cI, 40, .inl oF)), (ad 5, .inl (cI, 40, .inl kF)), (ad 6, .inl (cI, 40, .inl fF)), (ad 7, .inl (cI, 40, .inl sF)), (ad 8, .inl (cI, 40, .inl bF)), (ad 9, .inl (cZ, 40, .inl mF)), (ad 10, .inl (cI, 40, .inl hF))]
def zG (gv : Nat → Int32) (t : Nat) : Nat → Int32 := fun j => gv (1536 * t + j)
theorem zr_le {n : Nat} {x : Int32} (hn : n + 1 < 2 ^ 31 := by decide) : ((0 : Int32) ≤ x ∧ x ≤ nI n) ↔ zr (n + 1) x := by
  constructor
  · rintro ⟨h0, h1⟩
    obtain ⟨j, hj, rfl⟩ := nI_of (Int32.not_lt.mpr h0)
    exact ⟨j, Nat.lt_succ_of_le (zle h1 hj (by omega)), rfl⟩
  · rintro ⟨j, hj, rfl⟩
    exact ⟨nI_pos' (by omega), nI_le (by omega) (by omega)⟩
theorem zpm_lt {u b : Nat} (hu : u < 2 ^ 30) (hb : b < 2 ^ 30) : nI u - 1 < nI b ↔ u ≤ b := by
  rw [Int32.lt_iff_toInt_lt, nI_toInt (by omega), show (1 : Int32) = nI 1 from rfl, pk_sub_toInt (by omega) (by omega)]
  omega
theorem zpm_le {u j : Nat} (hu : u < 2 ^ 30) (hj : j < 2 ^ 31) : nI j ≤ nI u - 1 ↔ j < u := by
  rw [Int32.le_iff_toInt_le, nI_toInt hj, show (1 : Int32) = nI 1 from rfl, pk_sub_toInt (by omega) (by omega)]
  omega
theorem zr_pm {n : Nat} {x : Int32} (hn : n < 2 ^ 30) : ((0 : Int32) ≤ x ∧ x ≤ nI n - 1) ↔ zr n x := by
  constructor
  · rintro ⟨h0, h1⟩
    obtain ⟨j, hj, rfl⟩ := nI_of (Int32.not_lt.mpr h0)
    exact ⟨j, (zpm_le hn hj).mp h1, rfl⟩
  · rintro ⟨j, hj, rfl⟩
    exact ⟨nI_pos' (by omega), (zpm_le hn (by omega)).mpr hj⟩
noncomputable def zrun (G : Nat → Int32) (f x y : Int32) : Int32 := by
  classical
  exact if zr 6 f ∧ zr 16 x ∧ zr 16 y then G (256 * f.toNatClampNeg + (16 * x.toNatClampNeg + y.toNatClampNeg)) else zNO
theorem zrun_in {G : Nat → Int32} {f x y : Nat} (hf : f < 6) (hx : x < 16) (hy : y < 16) : zrun G (nI f) (nI x) (nI y) = G (256 * f + (16 * x + y)) := by
  unfold zrun
  rw [if_pos ⟨zr_nI hf, zr_nI hx, zr_nI hy⟩, nI_clamp (by omega), nI_clamp (by omega), nI_clamp (by omega)]
theorem zrun_no {G : Nat → Int32} {f x y : Int32} (h : ¬ (zr 6 f ∧ zr 16 x ∧ zr 16 y)) : zrun G f x y = zNO := by
  unfold zrun
  rw [if_neg h]
theorem zrun_cong {G G' : Nat → Int32} {f x y : Int32} (h : ∀ j, j < 1536 → G j = G' j) : zrun G f x y = zrun G' f x y := by
  by_cases q : zr 6 f ∧ zr 16 x ∧ zr 16 y
  · obtain ⟨⟨a, ha, rfl⟩, ⟨b, hb, rfl⟩, ⟨d, hd, rfl⟩⟩ := q
    rw [zrun_in ha hb hd, zrun_in ha hb hd, h _ (by omega)]
  · rw [zrun_no q, zrun_no q]
noncomputable def zwas (Gs : Nat → Nat → Int32) (k : Nat) (t f x y : Int32) : Int32 := by
  classical
  exact if zr (k + 1) t then zrun (Gs t.toNatClampNeg) f x y else zNO
theorem zwas_in {Gs : Nat → Nat → Int32} {k t : Nat} {f x y : Int32} (ht : t < k + 1) (hk : k < 2 ^ 30) : zwas Gs k (nI t) f x y = zrun (Gs t) f x y := by
  unfold zwas
  rw [if_pos (zr_nI ht), nI_clamp (by omega)]
theorem zwas_no {Gs : Nat → Nat → Int32} {k : Nat} {t f x y : Int32} (h : ¬ zr (k + 1) t) : zwas Gs k t f x y = zNO := by
  unfold zwas
  rw [if_neg h]
/-- the claims as they must be -/
def zHC (fo bo : Nat → Nat) (oF kF fF bF : Nat → Int32) (n k : Nat) : Prop := ∀ i, i < n → oF i = nI (fo i) ∧ fo i < 6 ∧ zr 8 (kF i) ∧ (kF i = 3 → 0 < fF i ∧ fF i ≤ 1000) ∧ (kF i = 5 → zr 256 (fF i)) ∧ (kF i = 7 → zr 6 (fF i)) ∧ bF i = nI (bo i) ∧ bo i ≤ k
def zdn (G : Nat → Int32) (fo : Nat → Nat) (kF fF sF : Nat → Int32) (i : Nat) : Nat → Bool := zden G (fo i) (kF i) (fF i) (sF i)
/-- the last of the states below u, from b on, in which it is held -/
def zlk (hd : Nat → Bool) (b : Nat) : Nat → Int32
  | 0 => -1
  | u + 1 => if b ≤ u then (if hd u then nI u else zlk hd b u) else -1
def zstd (held : Bool) (lk : Int32) : Int32 := if held then 0 else if lk = -1 then 1 else 2

set_option maxHeartbeats 4000000 in
set_option maxRecDepth 100000 in
theorem c_X4_in (l : Launch) (D : va_G) (cI cZ cW cC : ClassId) (x lo hi : Int32) : zq_ro l D cI cZ cW cC yX4_in wsX4_in ({ frames := 0, cells := 0, slots := 0, locals := 0 } : Room) [.int x, .int lo, .int hi] [] (fun v => (v = some (.int 1) ∧ lo ≤ x ∧ x ≤ hi) ∨ (v = some (.int 0) ∧ ¬ (lo ≤ x ∧ x ≤ hi))) := by
  refine zq_roZ (own := RX4) (by decide) rfl rfl (Nat.le_of_ble_eq_true rfl) ?_
  intro p e s m below meth c Q ls hF hP hK hl ret
  obtain ⟨hx, hb, hml, hown, hts⟩ := hF
  have hl : lv_has ls 3 [(0, .int x), (1, .int lo), (2, .int hi)] := hl
  refine lv_iload_n hx hb dX4_in_0 rfl (lv_at hl 0 rfl) ?_
  refine lv_iload_n hx hb dX4_in_1 rfl (lv_at hl 1 rfl) ?_
  refine lv_icmp_lt (tgt := 14) hx hb dX4_in_2 (by decide) (fun c2 => ?_) (fun c2 => ?_)
  · refine lv_iconst (v := (0 : Int32)) hx hb dX4_in_14 (by decide) ?_
    exact ret _ _ _ (Or.inl rfl) (Or.inr ⟨rfl, fun q => absurd q.1 (Int32.not_le.mpr c2)⟩) dX4_in_15
  · refine lv_iload_n hx hb dX4_in_5 rfl (lv_at hl 0 rfl) ?_
    refine lv_iload_n hx hb dX4_in_6 rfl (lv_at hl 2 rfl) ?_
    refine lv_icmp_gt (tgt := 14) hx hb dX4_in_7 (by decide) (fun c7 => ?_) (fun c7 => ?_)
    · refine lv_iconst (v := (0 : Int32)) hx hb dX4_in_14 (by decide) ?_
      exact ret _ _ _ (Or.inl rfl) (Or.inr ⟨rfl, fun q => absurd q.2 (Int32.not_le.mpr c7)⟩) dX4_in_15
    · refine lv_iconst (v := (1 : Int32)) hx hb dX4_in_10 (by decide) ?_
      refine lv_goto (tgt := 15) hx hb dX4_in_11 (by decide) ?_
      exact ret _ _ _ (Or.inr rfl) (Or.inl ⟨rfl, Int32.not_lt.mp c2, Int32.not_lt.mp c7⟩) dX4_in_15
theorem cz_X4_in (l : Launch) (D : va_G) (cI cZ cW cC : ClassId) (x : Int32) (n : Nat) (hn : n + 1 < 2 ^ 31) : zq_ro l D cI cZ cW cC yX4_in wsX4_in ({ frames := 0, cells := 0, slots := 0, locals := 0 } : Room) [.int x, .int 0, .int (nI n)] [] (fun v => (v = some (.int 1) ∧ zr (n + 1) x) ∨ (v = some (.int 0) ∧ ¬ zr (n + 1) x)) := zq_ro_mono (c_X4_in l D cI cZ cW cC x 0 (nI n)) (fun v h => h.imp (fun q => ⟨q.1, (zr_le hn).mp q.2⟩) (fun q => ⟨q.1, fun z => q.2 ((zr_le hn).mpr z)⟩))
set_option maxHeartbeats 4000000 in
set_option maxRecDepth 100000 in
theorem c_X4_isFunction (l : Launch) (D : va_G) (cI cZ cW cC : ClassId) (x : Int32) : zq_ro l D cI cZ cW cC yX4_isFunction wsX4_isFunction ({ frames := 1, cells := 0, slots := 0, locals := 22 } : Room) [.int x] [] (fun v => (v = some (.int 1) ∧ zr 6 x) ∨ (v = some (.int 0) ∧ ¬ zr 6 x)) := by
  refine zq_roZ (own := RX4) (by decide) rfl rfl (Nat.le_of_ble_eq_true rfl) ?_
  intro p e s m below meth c Q ls hF hP hK hl ret
  obtain ⟨hx, hb, hml, hown, hts⟩ := hF
  have hl : lv_has ls 1 [(0, .int x)] := hl
  refine lv_iload_n hx hb dX4_isFunction_0 rfl (lv_at hl 0 rfl) ?_
  refine lv_iconst (v := (0 : Int32)) hx hb dX4_isFunction_1 (by decide) ?_
  refine lv_iconst (v := (nI 5)) hx hb dX4_isFunction_2 (by decide) ?_
  refine zq_cS (rest := []) ⟨hx, hb, hml, hown, hts⟩ (cz_X4_in l D cI cZ cW cC x 5 (by omega)) (va_cwS 3 hts gX4_isFunction_X4_in rfl rfl rfl (by decide +kernel) ⟨Nat.le_of_ble_eq_true rfl, Nat.le_of_ble_eq_true rfl⟩) hK (fun k q h => by simp at h) rfl hl.1 rfl (Nat.le_of_ble_eq_true rfl) dX4_isFunction_3 ⟨Nat.le_of_ble_eq_true rfl, Nat.le_of_ble_eq_true rfl⟩ (fun v hv => ?_)
  rcases hv with ⟨rfl, hyi⟩ | ⟨rfl, hyi⟩
  · refine W.eq (g2 := F0 m 6 ls [.int (1 : Int32)]) rfl ?_
    exact ret _ _ _ (Or.inr rfl) (Or.inl ⟨rfl, hyi⟩) dX4_isFunction_6
  · refine W.eq (g2 := F0 m 6 ls [.int (0 : Int32)]) rfl ?_
    exact ret _ _ _ (Or.inl rfl) (Or.inr ⟨rfl, hyi⟩) dX4_isFunction_6
set_option maxHeartbeats 4000000 in
set_option maxRecDepth 100000 in
theorem c_X4_at (l : Launch) (D : va_G) (cI cZ cW cC : ClassId) (t f r : Nat) : zq_ro l D cI cZ cW cC yX4_at wsX4_at ({ frames := 0, cells := 0, slots := 0, locals := 0 } : Room) [.int (nI t), .int (nI f), .int (nI r)] [] (fun v => v = some (.int (nI (1536 * t + (256 * f + r))))) := by
  refine zq_roI (own := RX4) (by decide) rfl rfl (Nat.le_of_ble_eq_true rfl) ?_
  intro p e s m below meth c Q ls hF hP hK hl ret
  obtain ⟨hx, hb, hml, hown, hts⟩ := hF
  have hl : lv_has ls 3 [(0, .int (nI t)), (1, .int (nI f)), (2, .int (nI r))] := hl
  refine lv_sipush (v := (nI 256)) hx hb dX4_at_0 (by decide) ?_
  refine lv_bipush (v := (nI 6)) hx hb dX4_at_3 (by decide) ?_
  refine lv_iload_n hx hb dX4_at_5 rfl (lv_at hl 0 rfl) ?_
  refine lv_imul hx hb dX4_at_6 ?_
  refine lv_iload_n hx hb dX4_at_7 rfl (lv_at hl 1 rfl) ?_
  refine lv_iadd hx hb dX4_at_8 ?_
  refine lv_imul hx hb dX4_at_9 ?_
  refine lv_iload_n hx hb dX4_at_10 rfl (lv_at hl 2 rfl) ?_
  refine lv_iadd hx hb dX4_at_11 ?_
  exact ret _ _ _ (by simp only [pk_mul, nI_add]; congr 3; omega) dX4_at_12
theorem w_X4_give__fieldLink_RX4_17_WordsBesideModel_gives_I__d93a8a : (.fieldLink RX4 17 "WordsBesideModel" "gives" "[I" : Cond) ∈ wsX4_give := by decide +kernel
theorem in_X4_give_X4 : ∀ w ∈ wsX40, w ∈ wsX4_give := fun _ h => List.mem_cons_of_mem _ (List.mem_append_right _ h)
set_option maxHeartbeats 4000000 in
set_option maxRecDepth 100000 in
theorem c_X4_give (l : Launch) (D : va_G) (cI cZ cW cC : ClassId) (ad : Nat → Nat) (ln st gv oF kF fF sF bF mF hF : Nat → Int32) (kp cm m1 m2 : Int32) (t f r : Nat) (ht : t < 32) (hf : f < 6) (hr : r < 256) : zq_ro l D cI cZ cW cC yX4_give wsX4_give ({ frames := 1, cells := 0, slots := 0, locals := 22 } : Room) [.ref (ad 0), .int (nI t), .int (nI f), .int (nI r)] (mW cI cZ ad ln st gv oF kF fF sF bF mF hF kp cm m1 m2) (fun v => v = some (.int (zG gv t (256 * f + r)))) := by
  refine zq_roI (own := RX4) (by decide) rfl rfl (Nat.le_of_ble_eq_true rfl) ?_
  intro p e s m below meth c Q ls hF hP hK hl ret
  obtain ⟨hx, hb, hml, hown, hts⟩ := hF
  have hl : lv_has ls 4 [(0, .ref (ad 0)), (1, .int (nI t)), (2, .int (nI f)), (3, .int (nI r))] := hl
  refine lv_aload_n hx hb dX4_give_0 rfl (lv_at hl 0 rfl) ?_
  refine zq_get hx hb hts in_X4_give_X4 hown hK hP 0 rfl rfl 3 (by decide) (hts _ w_X4_give__fieldLink_RX4_17_WordsBesideModel_gives_I__d93a8a) rfl dX4_give_1 ?_
  refine lv_iload_n hx hb dX4_give_4 rfl (lv_at hl 1 rfl) ?_
  refine lv_iload_n hx hb dX4_give_5 rfl (lv_at hl 2 rfl) ?_
  refine lv_iload_n hx hb dX4_give_6 rfl (lv_at hl 3 rfl) ?_
  refine zq_cS (rest := [.ref (ad 3)]) ⟨hx, hb, hml, hown, hts⟩ (c_X4_at l D cI cZ cW cC t f r) (va_cwS 3 hts gX4_give_X4_at rfl rfl rfl (by decide +kernel) ⟨Nat.le_of_ble_eq_true rfl, Nat.le_of_ble_eq_true rfl⟩) hK (fun k q h => by simp at h) rfl hl.1 rfl (Nat.le_of_ble_eq_true rfl) dX4_give_7 ⟨Nat.le_of_ble_eq_true rfl, Nat.le_of_ble_eq_true rfl⟩ (fun v hv => ?_)
  obtain rfl := hv
  refine W.eq (g2 := F0 m 10 ls [.int (nI (1536 * t + (256 * f + r))), .ref (ad 3)]) rfl ?_
  refine zq_ild hx hb hK hP 3 rfl (1536 * t + (256 * f + r)) rfl (by omega) (by decide) dX4_give_10 ?_
  exact ret _ _ _ rfl dX4_give_11
set_option maxHeartbeats 4000000 in
set_option maxRecDepth 100000 in
theorem c_X4_isRun (l : Launch) (D : va_G) (cI cZ cW cC : ClassId) (f x y : Int32) : zq_ro l D cI cZ cW cC yX4_isRun wsX4_isRun ({ frames := 2, cells := 0, slots := 0, locals := 42 } : Room) [.int f, .int x, .int y] [] (fun v => (v = some (.int 1) ∧ zr 6 f ∧ zr 16 x ∧ zr 16 y) ∨ (v = some (.int 0) ∧ ¬ (zr 6 f ∧ zr 16 x ∧ zr 16 y))) := by
  refine zq_roZ (own := RX4) (by decide) rfl rfl (Nat.le_of_ble_eq_true rfl) ?_
  intro p e s m below meth c Q ls hF hP hK hl ret
  obtain ⟨hx, hb, hml, hown, hts⟩ := hF
  have hl : lv_has ls 3 [(0, .int f), (1, .int x), (2, .int y)] := hl
  refine lv_iload_n hx hb dX4_isRun_0 rfl (lv_at hl 0 rfl) ?_
  refine zq_cS (rest := []) ⟨hx, hb, hml, hown, hts⟩ (c_X4_isFunction l D cI cZ cW cC f) (va_cwS 1 hts gX4_isRun_X4_isFunction rfl rfl rfl (by decide +kernel) ⟨Nat.le_of_ble_eq_true rfl, Nat.le_of_ble_eq_true rfl⟩) hK (fun k q h => by simp at h) rfl hl.1 rfl (Nat.le_of_ble_eq_true rfl) dX4_isRun_1 ⟨Nat.le_of_ble_eq_true rfl, Nat.le_of_ble_eq_true rfl⟩ (fun v hv => ?_)
  rcases hv with ⟨rfl, hyf⟩ | ⟨rfl, hyf⟩
  · refine W.eq (g2 := F0 m 4 ls [.int (1 : Int32)]) rfl ?_
    refine lv_if_eq (tgt := 31) hx hb dX4_isRun_4 (by decide) (fun c4 => absurd c4 (by decide)) (fun c4 => ?_)
    refine lv_iload_n hx hb dX4_isRun_7 rfl (lv_at hl 1 rfl) ?_
    refine lv_iconst (v := (0 : Int32)) hx hb dX4_isRun_8 (by decide) ?_
    refine lv_bipush (v := (nI 15)) hx hb dX4_isRun_9 (by decide) ?_
    refine zq_cS (rest := []) ⟨hx, hb, hml, hown, hts⟩ (cz_X4_in l D cI cZ cW cC x 15 (by omega)) (va_cwS 3 hts gX4_isRun_X4_in rfl rfl rfl (by decide +kernel) ⟨Nat.le_of_ble_eq_true rfl, Nat.le_of_ble_eq_true rfl⟩) hK (fun k q h => by simp at h) rfl hl.1 rfl (Nat.le_of_ble_eq_true rfl) dX4_isRun_11 ⟨Nat.le_of_ble_eq_true rfl, Nat.le_of_ble_eq_true rfl⟩ (fun v hv => ?_)
    rcases hv with ⟨rfl, hyx⟩ | ⟨rfl, hyx⟩
    · refine W.eq (g2 := F0 m 14 ls [.int (1 : Int32)]) rfl ?_
      refine lv_if_eq (tgt := 31) hx hb dX4_isRun_14 (by decide) (fun c14 => absurd c14 (by decide)) (fun c14 => ?_)
      refine lv_iload_n hx hb dX4_isRun_17 rfl (lv_at hl 2 rfl) ?_
      refine lv_iconst (v := (0 : Int32)) hx hb dX4_isRun_18 (by decide) ?_
      refine lv_bipush (v := (nI 15)) hx hb dX4_isRun_19 (by decide) ?_
      refine zq_cS (rest := []) ⟨hx, hb, hml, hown, hts⟩ (cz_X4_in l D cI cZ cW cC y 15 (by omega)) (va_cwS 3 hts gX4_isRun_X4_in rfl rfl rfl (by decide +kernel) ⟨Nat.le_of_ble_eq_true rfl, Nat.le_of_ble_eq_true rfl⟩) hK (fun k q h => by simp at h) rfl hl.1 rfl (Nat.le_of_ble_eq_true rfl) dX4_isRun_21 ⟨Nat.le_of_ble_eq_true rfl, Nat.le_of_ble_eq_true rfl⟩ (fun v hv => ?_)
      rcases hv with ⟨rfl, hyy⟩ | ⟨rfl, hyy⟩
      · refine W.eq (g2 := F0 m 24 ls [.int (1 : Int32)]) rfl ?_
        refine lv_if_eq (tgt := 31) hx hb dX4_isRun_24 (by decide) (fun c24 => absurd c24 (by decide)) (fun c24 => ?_)
        refine lv_iconst (v := (1 : Int32)) hx hb dX4_isRun_27 (by decide) ?_
        refine lv_goto (tgt := 32) hx hb dX4_isRun_28 (by decide) ?_
        exact ret _ _ _ (Or.inr rfl) (by first | exact Or.inl ⟨rfl, hyf, hyx, hyy⟩ | exact Or.inr ⟨rfl, fun q => hyf q.1⟩ | exact Or.inr ⟨rfl, fun q => hyx q.2.1⟩ | exact Or.inr ⟨rfl, fun q => hyy q.2.2⟩ | fail "open") dX4_isRun_32
      · refine W.eq (g2 := F0 m 24 ls [.int (0 : Int32)]) rfl ?_
        refine lv_if_eq (tgt := 31) hx hb dX4_isRun_24 (by decide) (fun c24 => ?_) (fun c24 => absurd c24 (by decide))
        refine lv_iconst (v := (0 : Int32)) hx hb dX4_isRun_31 (by decide) ?_
        exact ret _ _ _ (Or.inl rfl) (by first | exact Or.inl ⟨rfl, hyf, hyx, hyy⟩ | exact Or.inr ⟨rfl, fun q => hyf q.1⟩ | exact Or.inr ⟨rfl, fun q => hyx q.2.1⟩ | exact Or.inr ⟨rfl, fun q => hyy q.2.2⟩ | fail "open") dX4_isRun_32
    · refine W.eq (g2 := F0 m 14 ls [.int (0 : Int32)]) rfl ?_
      refine lv_if_eq (tgt := 31) hx hb dX4_isRun_14 (by decide) (fun c14 => ?_) (fun c14 => absurd c14 (by decide))
      refine lv_iconst (v := (0 : Int32)) hx hb dX4_isRun_31 (by decide) ?_
      exact ret _ _ _ (Or.inl rfl) (by first | exact Or.inl ⟨rfl, hyf, hyx, hyy⟩ | exact Or.inr ⟨rfl, fun q => hyf q.1⟩ | exact Or.inr ⟨rfl, fun q => hyx q.2.1⟩ | exact Or.inr ⟨rfl, fun q => hyy q.2.2⟩ | fail "open") dX4_isRun_32
  · refine W.eq (g2 := F0 m 4 ls [.int (0 : Int32)]) rfl ?_
    refine lv_if_eq (tgt := 31) hx hb dX4_isRun_4 (by decide) (fun c4 => ?_) (fun c4 => absurd c4 (by decide))
    refine lv_iconst (v := (0 : Int32)) hx hb dX4_isRun_31 (by decide) ?_
    exact ret _ _ _ (Or.inl rfl) (by first | exact Or.inl ⟨rfl, hyf, hyx, hyy⟩ | exact Or.inr ⟨rfl, fun q => hyf q.1⟩ | exact Or.inr ⟨rfl, fun q => hyx q.2.1⟩ | exact Or.inr ⟨rfl, fun q => hyy q.2.2⟩ | fail "open") dX4_isRun_32
theorem w_X4_run__constant_RX4_64_2147483648__c0c951 : (.constant RX4 64 (-2147483648) : Cond) ∈ wsX4_run := by decide +kernel
set_option maxHeartbeats 4000000 in
set_option maxRecDepth 100000 in
theorem c_X4_run (l : Launch) (D : va_G) (cI cZ cW cC : ClassId) (ad : Nat → Nat) (ln st gv oF kF fF sF bF mF hF : Nat → Int32) (kp cm m1 m2 : Int32) (f x y : Int32) : zq_ro l D cI cZ cW cC yX4_run wsX4_run ({ frames := 3, cells := 0, slots := 0, locals := 64 } : Room) [.ref (ad 0), .int f, .int x, .int y] (mW cI cZ ad ln st gv oF kF fF sF bF mF hF kp cm m1 m2) (fun v => v = some (.int (zrun (zG gv 31) f x y))) := by
  refine zq_roI (own := RX4) (by decide) rfl rfl (Nat.le_of_ble_eq_true rfl) ?_
  intro p e s m below meth c Q ls hF hP hK hl ret
  obtain ⟨hx, hb, hml, hown, hts⟩ := hF
  have hl : lv_has ls 4 [(0, .ref (ad 0)), (1, .int f), (2, .int x), (3, .int y)] := hl
  refine lv_iload_n hx hb dX4_run_0 rfl (lv_at hl 1 rfl) ?_
  refine lv_iload_n hx hb dX4_run_1 rfl (lv_at hl 2 rfl) ?_
  refine lv_iload_n hx hb dX4_run_2 rfl (lv_at hl 3 rfl) ?_
  refine zq_cS (rest := []) ⟨hx, hb, hml, hown, hts⟩ (c_X4_isRun l D cI cZ cW cC f x y) (va_cwS 3 hts gX4_run_X4_isRun rfl rfl rfl (by decide +kernel) ⟨Nat.le_of_ble_eq_true rfl, Nat.le_of_ble_eq_true rfl⟩) hK (fun k q h => by simp at h) rfl hl.1 rfl (Nat.le_of_ble_eq_true rfl) dX4_run_3 ⟨Nat.le_of_ble_eq_true rfl, Nat.le_of_ble_eq_true rfl⟩ (fun v hv => ?_)
  rcases hv with ⟨rfl, ⟨a1, ha1, rfl⟩, ⟨b1, hb1, rfl⟩, ⟨d1, hd1, rfl⟩⟩ | ⟨rfl, hyr⟩
  · refine W.eq (g2 := F0 m 6 ls [.int (1 : Int32)]) rfl ?_
    refine lv_if_eq (tgt := 25) hx hb dX4_run_6 (by decide) (fun c6 => absurd c6 (by decide)) (fun c6 => ?_)
    refine lv_aload_n hx hb dX4_run_9 rfl (lv_at hl 0 rfl) ?_
    refine lv_bipush (v := (nI 31)) hx hb dX4_run_10 (by decide) ?_
    refine lv_iload_n hx hb dX4_run_12 rfl (lv_at hl 1 rfl) ?_
    refine lv_bipush (v := (nI 16)) hx hb dX4_run_13 (by decide) ?_
    refine lv_iload_n hx hb dX4_run_15 rfl (lv_at hl 2 rfl) ?_
    refine lv_imul hx hb dX4_run_16 ?_
    refine lv_iload_n hx hb dX4_run_17 rfl (lv_at hl 3 rfl) ?_
    refine lv_iadd hx hb dX4_run_18 ?_
    refine zq_te (y := (nI (16 * b1 + d1))) (by simp only [pk_mul, nI_add] <;> (congr 1; omega)) ?_
    refine zq_cV (rest := []) ⟨hx, hb, hml, hown, hts⟩ (c_X4_give l D cI cZ cW cC ad ln st gv oF kF fF sF bF mF hF kp cm m1 m2 31 a1 (16 * b1 + d1) (by omega) (by omega) (by omega)) (cwV 3 hts gX4_run_X4_give rfl rfl rfl (by decide +kernel) ⟨Nat.le_of_ble_eq_true rfl, Nat.le_of_ble_eq_true rfl⟩) hK hP 4 0 rfl rfl rfl hl.1 rfl (Nat.le_of_ble_eq_true rfl) dX4_run_19 ⟨Nat.le_of_ble_eq_true rfl, Nat.le_of_ble_eq_true rfl⟩ (fun v hv => ?_)
    obtain rfl := hv
    refine W.eq (g2 := F0 m 22 ls [.int (zG gv 31 (256 * a1 + (16 * b1 + d1)))]) rfl ?_
    refine lv_goto (tgt := 27) hx hb dX4_run_22 (by decide) ?_
    exact ret _ _ _ (by rw [zrun_in ha1 hb1 hd1]) dX4_run_27
  · refine W.eq (g2 := F0 m 6 ls [.int (0 : Int32)]) rfl ?_
    refine lv_if_eq (tgt := 25) hx hb dX4_run_6 (by decide) (fun c6 => ?_) (fun c6 => absurd c6 (by decide))
    refine lv_ldc (v := (-2147483648 : Int32)) hx hb hown (hts _ w_X4_run__constant_RX4_64_2147483648__c0c951) dX4_run_25 ?_
    exact ret _ _ _ (by rw [zrun_no hyr]) dX4_run_27
theorem w_X4_was__constant_RX4_64_2147483648__c0c951 : (.constant RX4 64 (-2147483648) : Cond) ∈ wsX4_was := by decide +kernel
theorem w_X4_was__fieldLink_RX4_75_WordsBesideModel_kept_I__b97d2f : (.fieldLink RX4 75 "WordsBesideModel" "kept" "I" : Cond) ∈ wsX4_was := by decide +kernel
theorem in_X4_was_X4 : ∀ w ∈ wsX40, w ∈ wsX4_was := fun _ h => List.mem_cons_of_mem _ (List.mem_append_right _ h)
set_option maxHeartbeats 4000000 in
set_option maxRecDepth 100000 in
theorem c_X4_was (l : Launch) (D : va_G) (cI cZ cW cC : ClassId) (ad : Nat → Nat) (ln st gv oF kF fF sF bF mF hF : Nat → Int32) (kp cm m1 m2 : Int32) (k : Nat) (hk : k ≤ 30) (ek : kp = nI k) (t f x y : Int32) : zq_ro l D cI cZ cW cC yX4_was wsX4_was ({ frames := 3, cells := 0, slots := 0, locals := 64 } : Room) [.ref (ad 0), .int t, .int f, .int x, .int y] (mW cI cZ ad ln st gv oF kF fF sF bF mF hF kp cm m1 m2) (fun v => v = some (.int (zwas (zG gv) k t f x y))) := by
  refine zq_roI (own := RX4) (by decide) rfl rfl (Nat.le_of_ble_eq_true rfl) ?_
  intro p e s m below meth c Q ls hF hP hK hl ret
  obtain ⟨hx, hb, hml, hown, hts⟩ := hF
  have hl : lv_has ls 5 [(0, .ref (ad 0)), (1, .int t), (2, .int f), (3, .int x), (4, .int y)] := hl
  subst ek
  refine lv_iload_n hx hb dX4_was_0 rfl (lv_at hl 1 rfl) ?_
  refine lv_iconst (v := (0 : Int32)) hx hb dX4_was_1 (by decide) ?_
  refine lv_aload_n hx hb dX4_was_2 rfl (lv_at hl 0 rfl) ?_
  refine zq_get hx hb hts in_X4_was_X4 hown hK hP 0 rfl rfl 2 (by decide) (hts _ w_X4_was__fieldLink_RX4_75_WordsBesideModel_kept_I__b97d2f) rfl dX4_was_3 ?_
  refine zq_cS (rest := []) ⟨hx, hb, hml, hown, hts⟩ (cz_X4_in l D cI cZ cW cC t k (by omega)) (va_cwS 3 hts gX4_was_X4_in rfl rfl rfl (by decide +kernel) ⟨Nat.le_of_ble_eq_true rfl, Nat.le_of_ble_eq_true rfl⟩) hK (fun k q h => by simp at h) rfl hl.1 rfl (Nat.le_of_ble_eq_true rfl) dX4_was_6 ⟨Nat.le_of_ble_eq_true rfl, Nat.le_of_ble_eq_true rfl⟩ (fun v hv => ?_)
  rcases hv with ⟨rfl, ⟨t1, ht1, rfl⟩⟩ | ⟨rfl, hyt⟩
  · refine W.eq (g2 := F0 m 9 ls [.int (1 : Int32)]) rfl ?_
    refine lv_if_eq (tgt := 38) hx hb dX4_was_9 (by decide) (fun c9 => absurd c9 (by decide)) (fun c9 => ?_)
    refine lv_iload_n hx hb dX4_was_12 rfl (lv_at hl 2 rfl) ?_
    refine lv_iload_n hx hb dX4_was_13 rfl (lv_at hl 3 rfl) ?_
    refine lv_iload hx hb dX4_was_14 (lv_at hl 4 rfl) ?_
    refine zq_cS (rest := []) ⟨hx, hb, hml, hown, hts⟩ (c_X4_isRun l D cI cZ cW cC f x y) (va_cwS 3 hts gX4_was_X4_isRun rfl rfl rfl (by decide +kernel) ⟨Nat.le_of_ble_eq_true rfl, Nat.le_of_ble_eq_true rfl⟩) hK (fun k q h => by simp at h) rfl hl.1 rfl (Nat.le_of_ble_eq_true rfl) dX4_was_16 ⟨Nat.le_of_ble_eq_true rfl, Nat.le_of_ble_eq_true rfl⟩ (fun v hv => ?_)
    rcases hv with ⟨rfl, ⟨a1, ha1, rfl⟩, ⟨b1, hb1, rfl⟩, ⟨d1, hd1, rfl⟩⟩ | ⟨rfl, hyr⟩
    · refine W.eq (g2 := F0 m 19 ls [.int (1 : Int32)]) rfl ?_
      refine lv_if_eq (tgt := 38) hx hb dX4_was_19 (by decide) (fun c19 => absurd c19 (by decide)) (fun c19 => ?_)
      refine lv_aload_n hx hb dX4_was_22 rfl (lv_at hl 0 rfl) ?_
      refine lv_iload_n hx hb dX4_was_23 rfl (lv_at hl 1 rfl) ?_
      refine lv_iload_n hx hb dX4_was_24 rfl (lv_at hl 2 rfl) ?_
      refine lv_bipush (v := (nI 16)) hx hb dX4_was_25 (by decide) ?_
      refine lv_iload_n hx hb dX4_was_27 rfl (lv_at hl 3 rfl) ?_
      refine lv_imul hx hb dX4_was_28 ?_
      refine lv_iload hx hb dX4_was_29 (lv_at hl 4 rfl) ?_
      refine lv_iadd hx hb dX4_was_31 ?_
      refine zq_te (y := (nI (16 * b1 + d1))) (by simp only [pk_mul, nI_add] <;> (congr 1; omega)) ?_
      refine zq_cV (rest := []) ⟨hx, hb, hml, hown, hts⟩ (c_X4_give l D cI cZ cW cC ad ln st gv oF kF fF sF bF mF hF (nI k) cm m1 m2 t1 a1 (16 * b1 + d1) (by omega) (by omega) (by omega)) (cwV 3 hts gX4_was_X4_give rfl rfl rfl (by decide +kernel) ⟨Nat.le_of_ble_eq_true rfl, Nat.le_of_ble_eq_true rfl⟩) hK hP 4 0 rfl rfl rfl hl.1 rfl (Nat.le_of_ble_eq_true rfl) dX4_was_32 ⟨Nat.le_of_ble_eq_true rfl, Nat.le_of_ble_eq_true rfl⟩ (fun v hv => ?_)
      obtain rfl := hv
      refine W.eq (g2 := F0 m 35 ls [.int (zG gv t1 (256 * a1 + (16 * b1 + d1)))]) rfl ?_
      refine lv_goto (tgt := 40) hx hb dX4_was_35 (by decide) ?_
      exact ret _ _ _ (by first | rw [zwas_in (by omega) (by omega), zrun_in ha1 hb1 hd1] | rw [zwas_in (by omega) (by omega), zrun_no hyr] | rw [zwas_no hyt] | fail "open") dX4_was_40
    · refine W.eq (g2 := F0 m 19 ls [.int (0 : Int32)]) rfl ?_
      refine lv_if_eq (tgt := 38) hx hb dX4_was_19 (by decide) (fun c19 => ?_) (fun c19 => absurd c19 (by decide))
      refine lv_ldc (v := (-2147483648 : Int32)) hx hb hown (hts _ w_X4_was__constant_RX4_64_2147483648__c0c951) dX4_was_38 ?_
      exact ret _ _ _ (by first | rw [zwas_in (by omega) (by omega), zrun_in ha1 hb1 hd1] | rw [zwas_in (by omega) (by omega), zrun_no hyr] | rw [zwas_no hyt] | fail "open") dX4_was_40
  · refine W.eq (g2 := F0 m 9 ls [.int (0 : Int32)]) rfl ?_
    refine lv_if_eq (tgt := 38) hx hb dX4_was_9 (by decide) (fun c9 => ?_) (fun c9 => absurd c9 (by decide))
    refine lv_ldc (v := (-2147483648 : Int32)) hx hb hown (hts _ w_X4_was__constant_RX4_64_2147483648__c0c951) dX4_was_38 ?_
    exact ret _ _ _ (by first | rw [zwas_in (by omega) (by omega), zrun_in ha1 hb1 hd1] | rw [zwas_in (by omega) (by omega), zrun_no hyr] | rw [zwas_no hyt] | fail "open") dX4_was_40
theorem w_X4_isClaim__fieldLink_RX4_79_WordsBesideModel_claims_I__a0b76b : (.fieldLink RX4 79 "WordsBesideModel" "claims" "I" : Cond) ∈ wsX4_isClaim := by decide +kernel
theorem in_X4_isClaim_X4 : ∀ w ∈ wsX40, w ∈ wsX4_isClaim := fun _ h => List.mem_cons_of_mem _ (List.mem_append_right _ h)
set_option maxHeartbeats 4000000 in
set_option maxRecDepth 100000 in
theorem c_X4_isClaim (l : Launch) (D : va_G) (cI cZ cW cC : ClassId) (ad : Nat → Nat) (ln st gv oF kF fF sF bF mF hF : Nat → Int32) (kp cm m1 m2 : Int32) (n : Nat) (hn : n ≤ 40) (en : cm = nI n) (x : Int32) : zq_ro l D cI cZ cW cC yX4_isClaim wsX4_isClaim ({ frames := 1, cells := 0, slots := 0, locals := 22 } : Room) [.ref (ad 0), .int x] (mW cI cZ ad ln st gv oF kF fF sF bF mF hF kp cm m1 m2) (fun v => (v = some (.int 1) ∧ zr n x) ∨ (v = some (.int 0) ∧ ¬ zr n x)) := by
  refine zq_roZ (own := RX4) (by decide) rfl rfl (Nat.le_of_ble_eq_true rfl) ?_
  intro p e s m below meth c Q ls hF hP hK hl ret
  obtain ⟨hx, hb, hml, hown, hts⟩ := hF
  have hl : lv_has ls 2 [(0, .ref (ad 0)), (1, .int x)] := hl
  subst en
  refine lv_iload_n hx hb dX4_isClaim_0 rfl (lv_at hl 1 rfl) ?_
  refine lv_iconst (v := (0 : Int32)) hx hb dX4_isClaim_1 (by decide) ?_
  refine lv_aload_n hx hb dX4_isClaim_2 rfl (lv_at hl 0 rfl) ?_
  refine zq_get hx hb hts in_X4_isClaim_X4 hown hK hP 0 rfl rfl 4 (by decide) (hts _ w_X4_isClaim__fieldLink_RX4_79_WordsBesideModel_claims_I__a0b76b) rfl dX4_isClaim_3 ?_
  refine lv_iconst (v := (1 : Int32)) hx hb dX4_isClaim_6 (by decide) ?_
  refine lv_isub hx hb dX4_isClaim_7 ?_
  refine zq_cS (rest := []) ⟨hx, hb, hml, hown, hts⟩ (c_X4_in l D cI cZ cW cC x 0 (nI n - 1)) (va_cwS 3 hts gX4_isClaim_X4_in rfl rfl rfl (by decide +kernel) ⟨Nat.le_of_ble_eq_true rfl, Nat.le_of_ble_eq_true rfl⟩) hK (fun k q h => by simp at h) rfl hl.1 rfl (Nat.le_of_ble_eq_true rfl) dX4_isClaim_8 ⟨Nat.le_of_ble_eq_true rfl, Nat.le_of_ble_eq_true rfl⟩ (fun v hv => ?_)
  rcases hv with ⟨rfl, hyi⟩ | ⟨rfl, hyi⟩
  · refine W.eq (g2 := F0 m 11 ls [.int (1 : Int32)]) rfl ?_
    exact ret _ _ _ (Or.inr rfl) (Or.inl ⟨rfl, (zr_pm (by omega)).mp hyi⟩) dX4_isClaim_11
  · refine W.eq (g2 := F0 m 11 ls [.int (0 : Int32)]) rfl ?_
    exact ret _ _ _ (Or.inl rfl) (Or.inr ⟨rfl, fun q => hyi ((zr_pm (by omega)).mpr q)⟩) dX4_isClaim_11

/-! the law: its world, its calls, what it knows at the start -/
theorem znd_off : ∀ (n k : Nat), va_nd ((List.range n).map (fun i => i + k)) = true
  | 0, _ => rfl
  | n + 1, k => by
    rw [List.range_succ_eq_map, List.map_cons, va_nd, List.map_map]
    have e : ((fun i => i + k) ∘ Nat.succ) = fun i => i + (k + 1) := by
      funext i
      show i.succ + k = i + (k + 1)
      omega
    rw [e, znd_off n (k + 1), Bool.and_true, decide_eq_true_eq]
    intro h
    obtain ⟨i, -, hi⟩ := List.mem_map.mp h
    omega
theorem znd_range (n : Nat) : va_nd (List.range n) = true := by
  have h := znd_off n 0
  simpa using h
theorem zrngW (Z : va_W) : (List.range Z.length).map (fun i => Z[i]?) = Z.map some := by
  apply List.ext_getElem
  · simp
  · intro i h1 h2
    simp at h1
    simp [h1]
theorem zP_flip {D : va_G} {cl : List vw_C} {Y Z : va_W} {H : Heap} (h : va_P D cl (Y ++ Z) H) : va_P D cl (Z ++ Y) H := va_P.swap (a := []) h
theorem zD_flip {A : Nat → Prop} {Y Z : va_W} (h : va_D A (Y ++ Z)) : va_D A (Z ++ Y) := va_D.swap (a := []) h
theorem zP_fst {D : va_G} {cl : List vw_C} {Y Z : va_W} {H : Heap} (h : va_P D cl (Y ++ Z) H) : va_P D cl Y H := fun k q hq => h k q (by rw [List.getElem?_append_left (List.getElem?_eq_some_iff.mp hq).1]; exact hq)
section
variable {p : Program} {l : Launch} {e : Env} {R : Room} {s : State} {m : MethodId} {args : Array Value} {below : List Frame} {meth : Method} {c : Code} {H H0 : Heap} {locs : List Loc} {cells slots : Nat} {Q : State → Prop} {D : va_G} {cI cZ cW cC : ClassId} {A : Nat → Prop}
variable {y : MethodName} {bytes cc : ByteArray} {maxL nL mc ms n index : Nat} {ret : Option FieldType} {wsw Ts : List Cond} {rm : Room} {own C : String} {b : Addr} {As rest st0 : List Value} {pc : Nat} {ls : Array Slot} {Y Z : va_W} {postM : Option Value → va_W → Prop}
/-- a writing call that has the first part of the caller's world -/
theorem zq_cZ (S : CallFix p m c cc nL s args Ts own) (hM : zq_mu l D cI cZ cW cC y wsw rm (.ref b :: As) Z H.size postM mc ms) (cw : CallW R s args own C index y bytes maxL ret wsw rm mc ms n) (hK : zq_K D cI cZ cW cC s) (hP : va_P D vwCl (Z ++ Y) H) (hD : va_D A (Z ++ Y)) (hS : va_S A H0 H locs) (hA : ∀ q : Nat, H0.size ≤ q → A q) (ci q0 : Nat) {T : u_T} {N : Nat} (hc : vwCl[ci]? = some (C, T, N)) {fs : List Value} (he : Z[q0]? = some (b, .inr (ci, fs)))
    (hn : As.length = n) (hsz : ls.size = nL) (hst : st0 = As.reverse ++ .ref b :: rest) (h8 : (rest.map fun v => v.category).sum ≤ 8) (hdg : decode cc pc = .ok (.invokevirtual index, 3)) (hf : cells + mc ≤ R.cells ∧ slots + ms ≤ R.slots)
    (kk : ∀ (v : Option Value) (w1 : va_W) (H1 : Heap) (locs1 : List Loc), postM v w1 → va_P D vwCl (w1 ++ Y) H1 → va_D A (w1 ++ Y) → va_S A H0 H1 locs1 → W p l e R s m args below meth c H1 locs1 (cells + mc) (slots + ms) Q (F0 m (pc + 3) ls (v.toList ++ rest))) : W p l e R s m args below meth c H locs cells slots Q (F0 m pc ls st0) :=
  zq_cQ (X := Z) (pl := Y) (wr := []) S hM cw hK hP hD hS hA (List.range Z.length) [] (zrngW Z) (znd_range _) rfl rfl (fun i h => absurd h List.not_mem_nil) ci q0 hc he hn hsz hst h8 hdg hf kk
/-- the script's element -/
theorem zq_sld (hexec : p.tables.exec = Jvm.exec) (hb : c.code = cc) {b Ls : Nat} {xs : Nat → Int32} (hX : va_X b Ls xs s H0) (hbl : b < H0.size) (hbA : ¬ A b) (hS : va_S A H0 H locs) (j : Nat) (hj : j < Ls) (hL : Ls ≤ 2560) (hdg : decode cc pc = .ok (.iaload, 1))
    (kk : W p l e R s m args below meth c H locs cells slots Q (F0 m (pc + 1) ls (.int (xs j) :: rest))) : W p l e R s m args below meth c H locs cells slots Q (F0 m pc ls (.int (nI j) :: .ref b :: rest)) := by
  refine va_sld hexec hb hX hbl hbA hS (vp_in_nI hj (by omega)) hdg ?_
  rw [nI_clamp (by omega)]
  exact kk
end
/-! the pure facts of the law's cases -/
theorem zwk_st {G st st' : Nat → Int32} {f r : Nat} : ∀ (n k : Nat) (b : Bool) (v : Int32), (∀ i, k ≤ i → i < k + n → st' (12 * f + i) = st (12 * f + i)) → zwk G st' f r n k b v = zwk G st f r n k b v
  | 0, _, _, _, _ => rfl
  | n + 1, k, true, v, h => by rw [zwk, zwk, zwk_st n (k + 1) false v (fun i h1 h2 => h i (by omega) (by omega))]
  | n + 1, k, false, v, h => by
    rw [zwk, zwk, h k (by omega) (by omega)]
    rw [zwk_st n (k + 1) _ v (fun i h1 h2 => h i (by omega) (by omega)), zwk_st n (k + 1) false _ (fun i h1 h2 => h i (by omega) (by omega))]
theorem zOK_min {st st' N : Nat → Int32} {L L' : Nat → Nat} {sn f : Nat} (h : zOK st L N sn) (h6 : sn ≤ 6) (hl : ∀ g, g < 6 → g ≠ f → L' g = L g ∧ ∀ i, i < L g → st' (12 * g + i) = st (12 * g + i)) : zOK st' L' N (min sn f) := fun g hg r hr => by
  obtain ⟨e1, e2⟩ := hl g (by omega) (by omega)
  rw [e1, zwk_st (L g) 0 false 0 (fun i _ hi => e2 i (by omega))]
  exact h g (by omega) r hr
theorem zOK_cong {st G G' : Nat → Int32} {L : Nat → Nat} (h : zOK st L G 6) (hv : ∀ f, f < 6 → zvs st f (L f)) (e : ∀ j, j < 1536 → G' j = G j) : zOK st L G' 6 := fun f hf r hr => by
  rw [e _ (by omega), h f hf r hr]
  exact zwk_cong0 (fun j hj => (e j (by omega)).symm) hf hr (zvs_val (hv f hf)) 0
theorem zlk_cong {hd hd' : Nat → Bool} {b : Nat} : ∀ (u : Nat), (∀ t, t < u → hd t = hd' t) → zlk hd b u = zlk hd' b u
  | 0, _ => rfl
  | u + 1, h => by rw [zlk, zlk, h u (by omega), zlk_cong u (fun t ht => h t (by omega))]
def zLK (gv : Nat → Int32) (fo bo : Nat → Nat) (kF fF sF : Nat → Int32) (k : Nat) : Nat → Int32 := fun i => zlk (fun t => zheld (zdn (zG gv t) fo kF fF sF i)) (bo i) (k + 1)
theorem zPC_lh {PL : List Nat} {pf : Nat → va_E} {fc : Nat → Option Nat} {co fo bo : Nat → Nat} {kF fF sF lh lh2 mF mF2 : Nat → Int32} {n : Nat} (HC : zPC PL pf fc co fo bo kF fF sF lh mF n) (h : ∀ i, i < n → lh2 i = lh i) (h2 : ∀ i, i < n → mF2 i = mF i) : zPC PL pf fc co fo bo kF fF sF lh2 mF2 n := ⟨fun i hi => by
  rw [h i hi, h2 i hi]
  exact HC.1 i hi, HC.2⟩
theorem zLK_low {gv g2 : Nat → Int32} {fo bo : Nat → Nat} {kF fF sF : Nat → Int32} {k i : Nat} (hf : fo i < 6) (h : ∀ t, t ≤ k → ∀ j, j < 1536 → zG g2 t j = zG gv t j) : zLK g2 fo bo kF fF sF k i = zLK gv fo bo kF fF sF k i := zlk_cong _ (fun t ht => zheld_cong (h t (by omega)) hf)
theorem zG_low {gv g2 : Nat → Int32} (h : ∀ j, j < 47616 → g2 j = gv j) {t : Nat} (ht : t ≤ 30) : ∀ j, j < 1536 → zG g2 t j = zG gv t j := fun j hj => h _ (by omega)
theorem zwas_cong {Gs Gs' : Nat → Nat → Int32} {k : Nat} {t fx x y : Int32} (hk : k ≤ 30) (h : ∀ t, t ≤ k → ∀ j, j < 1536 → Gs t j = Gs' t j) : zwas Gs k t fx x y = zwas Gs' k t fx x y := by
  by_cases q : zr (k + 1) t
  · obtain ⟨a, ha, rfl⟩ := q
    rw [zwas_in (by omega) (by omega), zwas_in (by omega) (by omega), zrun_cong (h a (by omega))]
  · rw [zwas_no q, zwas_no q]
/-- what the law's world is between two calls -/
def zJ0 (cI cW cC : ClassId) (st ln N : Nat → Int32) (L : Nat → Nat) (k n sn : Nat) (gv oF kF fF sF bF mF : Nat → Int32) (fs fc : Nat → Option Nat) (PL : List Nat) (pf : Nat → va_E) (wo go co fo bo : Nat → Nat) (Gs : Nat → Nat → Int32) : Prop :=
  (k ≤ 30 ∧ n ≤ 40 ∧ sn ≤ 6) ∧ zHL ln L ∧ (∀ f, f < 6 → zvs st f (L f)) ∧ zOK st L N sn ∧ zOK st L (zG gv 31) 6 ∧ zPW cI PL pf fs wo go Gs k ∧ zPC PL pf fc co fo bo kF fF sF (zLK gv fo bo kF fF sF k) mF n ∧ zHC fo bo oF kF fF bF n k ∧ (∀ t, t ≤ k → ∀ j, j < 1536 → Gs t j = zG gv t j) ∧ (∀ q, n ≤ q → mF q = 0)
def zJ (cI cZ cW cC : ClassId) (aX aM : Nat → Nat) (ws : va_W) : Prop := ∃ (st ln N : Nat → Int32) (L : Nat → Nat) (k n sn : Nat) (gv oF kF fF sF bF mF hF : Nat → Int32) (m1 m2 : Int32) (fs fc : Nat → Option Nat) (hm : Nat → Int32) (PL : List Nat) (pf : Nat → va_E) (wo go co fo bo : Nat → Nat) (Gs : Nat → Nat → Int32),
  ws = (cX cI cW cC aX st ln N fs fc hm (nI sn) (nI k) (nI n) ++ va_pl PL pf) ++ mW cI cZ aM ln st gv oF kF fF sF bF mF hF (nI k) (nI n) m1 m2 ∧ zJ0 cI cW cC st ln N L k n sn gv oF kF fF sF bF mF fs fc PL pf wo go co fo bo Gs
theorem zJ_mk {cI cZ cW cC : ClassId} {aX aM : Nat → Nat} {st ln N : Nat → Int32} {L : Nat → Nat} {k n sn : Nat} {gv oF kF fF sF bF mF hF : Nat → Int32} {m1 m2 : Int32} {fs fc : Nat → Option Nat} {hm : Nat → Int32} {PL : List Nat} {pf : Nat → va_E} {wo go co fo bo : Nat → Nat} {Gs : Nat → Nat → Int32} (h : zJ0 cI cW cC st ln N L k n sn gv oF kF fF sF bF mF fs fc PL pf wo go co fo bo Gs) :
    zJ cI cZ cW cC aX aM ((cX cI cW cC aX st ln N fs fc hm (nI sn) (nI k) (nI n) ++ va_pl PL pf) ++ mW cI cZ aM ln st gv oF kF fF sF bF mF hF (nI k) (nI n) m1 m2) := ⟨st, ln, N, L, k, n, sn, gv, oF, kF, fF, sF, bF, mF, hF, m1, m2, fs, fc, hm, PL, pf, wo, go, co, fo, bo, Gs, rfl, h⟩
section
variable {cI cW cC : ClassId} {st ln N : Nat → Int32} {L : Nat → Nat} {k n sn : Nat} {gv oF kF fF sF bF mF : Nat → Int32} {fs fc : Nat → Option Nat} {PL : List Nat} {pf : Nat → va_E} {wo go co fo bo : Nat → Nat} {Gs : Nat → Nat → Int32}
theorem zJ_now (h : zJ0 cI cW cC st ln N L k n sn gv oF kF fF sF bF mF fs fc PL pf wo go co fo bo Gs) {N3 : Nat → Int32} {sn3 : Nat} (h6 : sn3 ≤ 6) (hO : zOK st L N3 sn3) : zJ0 cI cW cC st ln N3 L k n sn3 gv oF kF fF sF bF mF fs fc PL pf wo go co fo bo Gs :=
  ⟨⟨h.1.1, h.1.2.1, h6⟩, h.2.1, h.2.2.1, hO, h.2.2.2.2⟩
/-- a change of the code of f -/
theorem zJ_code (h : zJ0 cI cW cC st ln N L k n sn gv oF kF fF sF bF mF fs fc PL pf wo go co fo bo Gs) {st' ln' g2 : Nat → Int32} {L' : Nat → Nat} {f : Nat} (hHL : zHL ln' L') (hHV : ∀ g, g < 6 → zvs st' g (L' g)) (hl : ∀ g, g < 6 → g ≠ f → L' g = L g ∧ ∀ i, i < L g → st' (12 * g + i) = st (12 * g + i)) (hg : ∀ j, j < 47616 → g2 j = gv j) (hO : zOK st' L' (zG g2 31) 6) :
    zJ0 cI cW cC st' ln' N L' k n (min sn f) g2 oF kF fF sF bF mF fs fc PL pf wo go co fo bo Gs := by
  obtain ⟨⟨h1, h2, h3⟩, -, -, h6, -, h8, h9, h10, h11, h12⟩ := h
  refine ⟨⟨h1, h2, by omega⟩, hHL, hHV, zOK_min h6 h3 hl, hO, h8, zPC_lh h9 (fun i hi => ?_) (fun _ _ => rfl), h10, fun t ht j hj => ?_, h12⟩
  · exact zLK_low (h10 i hi).2.1 (fun t ht => zG_low hg (by omega))
  · rw [h11 t ht j hj, zG_low hg (by omega) j hj]
theorem zJ_clear (h : zJ0 cI cW cC st ln N L k n sn gv oF kF fF sF bF mF fs fc PL pf wo go co fo bo Gs) {g2 : Nat → Int32} {f : Nat} (hg : ∀ j, j < 47616 → g2 j = gv j) (hO : zOK st (va_up L f 0) (zG g2 31) 6) :
    zJ0 cI cW cC st (upd ln f 0) N (va_up L f 0) k n (min sn f) g2 oF kF fF sF bF mF fs fc PL pf wo go co fo bo Gs :=
  zJ_code h (zHL_up (n := 0) h.2.1 (by omega)) (zvs_clr h.2.2.1) (fun g _ hne => ⟨va_up_ne _ _ hne, fun _ _ => rfl⟩) hg hO
theorem zJ_step (h : zJ0 cI cW cC st ln N L k n sn gv oF kF fF sF bF mF fs fc PL pf wo go co fo bo Gs) {g2 : Nat → Int32} {f : Nat} {x : Int32} (hf : f < 6) (hL : L f < 12) (hcan : zcan st f (L f) (nI (L f)) x = true) (hg : ∀ j, j < 47616 → g2 j = gv j) (hO : zOK (upd st (12 * f + L f) x) (va_up L f (L f + 1)) (zG g2 31) 6) :
    zJ0 cI cW cC (upd st (12 * f + L f) x) (upd ln f (nI (L f + 1))) N (va_up L f (L f + 1)) k n (min sn f) g2 oF kF fF sF bF mF fs fc PL pf wo go co fo bo Gs :=
  zJ_code h (zHL_up h.2.1 (by omega)) (zvs_put h.2.2.1 hf hL (by omega) (fun _ => trivial) (fun g hg => (h.2.1 g hg).2) (fun i h1 h2 => by omega) hcan) (fun g hg6 hne => ⟨va_up_ne _ _ hne, fun i hi => pk_un (by have := (h.2.1 g hg6).2; omega)⟩) hg hO
theorem zJ_change (h : zJ0 cI cW cC st ln N L k n sn gv oF kF fF sF bF mF fs fc PL pf wo go co fo bo Gs) {g2 : Nat → Int32} {f kk : Nat} {x : Int32} (hf : f < 6) (hL : kk < L f) (hcan : zcan st f (L f) (nI kk) x = true) (hg : ∀ j, j < 47616 → g2 j = gv j) (hO : zOK (upd st (12 * f + kk) x) L (zG g2 31) 6) :
    zJ0 cI cW cC (upd st (12 * f + kk) x) ln N L k n (min sn f) g2 oF kF fF sF bF mF fs fc PL pf wo go co fo bo Gs := by
  have h12 := (h.2.1 f hf).2
  have e : va_up L f (L f) = L := by
    funext g
    by_cases q : g = f
    · subst q; exact va_up_self _ _ _
    · exact va_up_ne _ _ q
  refine zJ_code h h.2.1 (fun g hg => ?_) (fun g hg6 hne => ⟨rfl, fun i hi => pk_un (by have := (h.2.1 g hg6).2; omega)⟩) hg hO
  have := zvs_put (n := L f) h.2.2.1 hf (show kk < 12 by omega) (by omega) (fun _ => trivial) (fun g hg => (h.2.1 g hg).2) (fun i h1 h2 => h1) hcan g hg
  rw [e] at this
  exact this
theorem zJ_keep (h : zJ0 cI cW cC st ln N L k n sn gv oF kF fF sF bF mF fs fc PL pf wo go co fo bo Gs) {N3 g2 : Nat → Int32} {sn3 : Nat} {PL2 : List Nat} {pf2 : Nat → va_E} {fs2 : Nat → Option Nat} {wo2 go2 : Nat → Nat} {Gs2 : Nat → Nat → Int32} {lh2 : Nat → Int32} (hk : k < 30) (h6 : sn3 ≤ 6) (hO : zOK st L N3 sn3) (HW : zPW cI PL2 pf2 fs2 wo2 go2 Gs2 (k + 1)) (HC : zPC PL2 pf2 fc co fo bo kF fF sF lh2 mF n) (e1 : ∀ t, t ≤ k → Gs2 t = Gs t) (e2 : ∀ j, j < 1536 → Gs2 (k + 1) j = zG gv 31 j) (e3 : ∀ q, q < n → lh2 q = if zheld (zdn (zG gv 31) fo kF fF sF q) then nI (k + 1) else zLK gv fo bo kF fF sF k q)
    (g1 : ∀ j, j < 1536 → zG g2 (k + 1) j = zG gv 31 j) (g3 : ∀ i j, i ≠ k + 1 → i < 32 → j < 1536 → zG g2 i j = zG gv i j) : zJ0 cI cW cC st ln N3 L (k + 1) n sn3 g2 oF kF fF sF bF mF fs2 fc PL2 pf2 wo2 go2 co fo bo Gs2 := by
  obtain ⟨⟨h1, h2, h3⟩, h4, h5, -, h7, -, -, h10, h11, h12⟩ := h
  refine ⟨⟨by omega, h2, h6⟩, h4, h5, hO, zOK_cong h7 h5 (fun j hj => g3 31 j (by omega) (by omega) hj), HW, zPC_lh HC (fun i hi => ?_) (fun _ _ => rfl), fun i hi => ?_, fun t ht j hj => ?_, h12⟩
  · obtain ⟨-, hf, -, -, -, -, -, hb⟩ := h10 i hi
    rw [e3 i hi, zLK, zlk, if_pos (by omega)]
    have e4 : zheld (zdn (zG g2 (k + 1)) fo kF fF sF i) = zheld (zdn (zG gv 31) fo kF fF sF i) := zheld_cong g1 hf
    rw [e4]
    have e5 : zlk (fun t => zheld (zdn (zG g2 t) fo kF fF sF i)) (bo i) (k + 1) = zLK gv fo bo kF fF sF k i := zLK_low hf (fun t ht j hj => g3 t j (by omega) (by omega) hj)
    rw [e5]
  · obtain ⟨a1, a2, a3, a4, a5, a6, a7, a8⟩ := h10 i hi
    exact ⟨a1, a2, a3, a4, a5, a6, a7, by omega⟩
  · by_cases q : t = k + 1
    · subst q
      rw [e2 j hj, g1 j hj]
    · rw [e1 t (by omega), h11 t (by omega) j hj, g3 t j q (by omega) hj]
theorem zgd_m (c : Nat) : ∀ n, 1 ≤ n → zgd c n ≤ n
  | 0, h => absurd h (by omega)
  | n + 1, _ => by
    rw [zgd]
    by_cases q : c % (n + 1) = 0
    · rw [if_pos q]; omega
    · rw [if_neg q]
      have := (zgd_le c n).1
      omega
theorem zfF_ne {fF kF : Nat → Int32} {i q : Nat} {x : Int32} (h : q ≠ i) : zfF fF kF i x q = fF q := by
  unfold zfF
  by_cases e : kF i = 5
  · rw [if_pos e]
  · rw [if_neg e, pk_un h]
theorem zsF_ne {sF kF : Nat → Int32} {i q : Nat} {x y : Int32} (h : q ≠ i) : zsF sF kF i x y q = sF q := by
  unfold zsF
  by_cases e : kF i = 5
  · rw [if_pos e, pk_un h]
  · rw [if_neg e]
    by_cases e2 : kF i = 0
    · rw [if_pos e2, pk_un h]
    · rw [if_neg e2]
theorem zHC_m {G : Nat → Int32} {fo bo : Nat → Nat} {oF kF fF bF : Nat → Int32} {n k i : Nat} (h : zHC fo bo oF kF fF bF n k) (hz : ¬ zm1 G (fo i) (kF i) (fF i) = zNO) : zHC fo bo oF kF (zfF fF kF i (zm1 G (fo i) (kF i) (fF i))) bF n k := fun q hq => by
  obtain ⟨a1, a2, a3, a4, a5, a6, a7, a8⟩ := h q hq
  by_cases e : q = i
  · subst e
    refine ⟨a1, a2, a3, fun e3 => ?_, fun e5 => ?_, fun e7 => ?_, a7, a8⟩
    · rw [zfF, if_neg (by rw [e3]; decide), pk_us, zm1, if_neg (by rw [e3]; decide), if_pos e3]
      have h1 := (zgd_le (zgc G (fo q) 256) 1000).2
      have h2 := zgd_m (zgc G (fo q) 256) 1000 (by omega)
      exact ⟨(nI_ltI (a := 0) (by omega) (by omega)).mpr (by omega), (nI_leI (b := 1000) (by omega) (by omega)).mpr h2⟩
    · rw [zfF, if_pos e5]
      exact a5 e5
    · exact absurd (by rw [zm1, if_neg (by rw [e7]; decide), if_neg (by rw [e7]; decide), if_neg (by rw [e7]; decide), if_neg (by rw [e7]; decide)]) hz
  · rw [zfF_ne e]
    exact ⟨a1, a2, a3, a4, a5, a6, a7, a8⟩
theorem zcl_8 {kd p1 q1 : Int32} (h : zcl kd p1 q1) : zr 8 kd := by
  rcases h with h | h | h | h | h | h | h | h
  · exact ⟨0, by omega, h.1⟩
  · exact ⟨1, by omega, h⟩
  · exact ⟨2, by omega, h⟩
  · exact ⟨3, by omega, h.1⟩
  · exact ⟨4, by omega, h⟩
  · exact ⟨5, by omega, h.1⟩
  · exact ⟨6, by omega, h.1⟩
  · exact ⟨7, by omega, h.1⟩
theorem zcl_3 {kd p1 q1 : Int32} (h : zcl kd p1 q1) (e : kd = 3) : 0 < p1 ∧ p1 ≤ 1000 := by
  subst e
  rcases h with h | h | h | h | h | h | h | h <;> first | exact absurd h (by decide) | exact absurd h.1 (by decide) | exact ⟨Int32.lt_of_lt_of_le (by decide) h.2.1, h.2.2⟩
theorem zcl_5 {kd p1 q1 : Int32} (h : zcl kd p1 q1) (e : kd = 5) : zr 256 p1 := by
  subst e
  rcases h with h | h | h | h | h | h | h | h <;> first | exact absurd h (by decide) | exact absurd h.1 (by decide) | exact h.2.1
theorem zcl_7 {kd p1 q1 : Int32} (h : zcl kd p1 q1) (e : kd = 7) : zr 6 p1 := by
  subst e
  rcases h with h | h | h | h | h | h | h | h <;> first | exact absurd h (by decide) | exact absurd h.1 (by decide) | exact h.2
theorem zJ_claim (h : zJ0 cI cW cC st ln N L k n sn gv oF kF fF sF bF mF fs fc PL pf wo go co fo bo Gs) {f ca : Nat} {kd p1 q1 : Int32} {PL2 : List Nat} {pf2 : Nat → va_E} (hf : f < 6) (hcl : zcl kd p1 q1) (hn : n < 40) (HW : zPW cI PL2 pf2 fs wo go Gs k)
    (HC : zPC PL2 pf2 (va_up fc n (some ca)) (va_up co n ca) (va_up fo n f) (va_up bo n k) (upd kF n kd) (upd fF n p1) (upd sF n q1) (upd (zLK gv fo bo kF fF sF k) n (zlk (fun t => zheld (zden (Gs t) f kd p1 q1)) k (k + 1))) (upd mF n 0) (n + 1)) :
    zJ0 cI cW cC st ln N L k (n + 1) sn gv (upd oF n (nI f)) (upd kF n kd) (upd fF n p1) (upd sF n q1) (upd bF n (nI k)) mF fs (va_up fc n (some ca)) PL2 pf2 wo go (va_up co n ca) (va_up fo n f) (va_up bo n k) Gs := by
  obtain ⟨⟨h1, h2, h3⟩, h4, h5, h6, h7, -, -, h10, h11, h12⟩ := h
  refine ⟨⟨h1, by omega, h3⟩, h4, h5, h6, h7, HW, zPC_lh HC (fun i hi => ?_) (fun i hi => ?_), fun i hi => ?_, h11, fun q hq => h12 q (by omega)⟩
  · by_cases e : i = n
    · subst e
      rw [pk_us, zLK]
      simp only [zdn, va_up_self, pk_us]
      exact zlk_cong _ (fun t ht => (zheld_cong (h11 t (by omega)) hf).symm)
    · rw [pk_un e, zLK, zLK]
      simp only [zdn, va_up_ne _ _ e, pk_un e]
  · by_cases e : i = n
    · subst e
      rw [pk_us, h12 i (by omega)]
    · rw [pk_un e]
  · by_cases e : i = n
    · subst e
      simp only [va_up_self, pk_us]
      exact ⟨trivial, hf, zcl_8 hcl, zcl_3 hcl, zcl_5 hcl, zcl_7 hcl, trivial, Nat.le_refl k⟩
    · simp only [va_up_ne _ _ e, pk_un e]
      exact h10 i (by omega)
theorem zJ_mark (h : zJ0 cI cW cC st ln N L k n sn gv oF kF fF sF bF mF fs fc PL pf wo go co fo bo Gs) {i : Nat} {pf2 : Nat → va_E} (hi : i < n) (HW : zPW cI PL pf2 fs wo go Gs k) (HC : zPC PL pf2 fc co fo bo kF fF sF (zLK gv fo bo kF fF sF k) (upd mF i 1) n) :
    zJ0 cI cW cC st ln N L k n sn gv oF kF fF sF bF (upd mF i 1) fs fc PL pf2 wo go co fo bo Gs := by
  obtain ⟨h0, h4, h5, h6, h7, -, -, h10, h11, h12⟩ := h
  exact ⟨h0, h4, h5, h6, h7, HW, HC, h10, h11, fun q hq => by rw [pk_un (by omega)]; exact h12 q hq⟩
theorem zJ_mended (h : zJ0 cI cW cC st ln N L k n sn gv oF kF fF sF bF mF fs fc PL pf wo go co fo bo Gs) {i : Nat} {cl : Int32} {pf2 : Nat → va_E} {N3 : Nat → Int32} {sn3 : Nat} (hm : zmo (zG gv 31) fo kF fF sF n cl i) (h6 : sn3 ≤ 6) (hO : zOK st L N3 sn3) (HW : zPW cI PL pf2 fs wo go Gs k)
    (HC : zPC PL pf2 fc co fo bo kF (zfF fF kF i (zm1 (zG gv 31) (fo i) (kF i) (fF i))) (zsF sF kF i (zm1 (zG gv 31) (fo i) (kF i) (fF i)) (zmst (zG gv 31) (fo i) 256)) (upd (zLK gv fo bo kF fF sF k) i (zlk (fun t => zheld (zdn (Gs t) fo kF (zfF fF kF i (zm1 (zG gv 31) (fo i) (kF i) (fF i))) (zsF sF kF i (zm1 (zG gv 31) (fo i) (kF i) (fF i)) (zmst (zG gv 31) (fo i) 256)) i)) (bo i) (k + 1))) mF n) :
    zJ0 cI cW cC st ln N3 L k n sn3 gv oF kF (zfF fF kF i (zm1 (zG gv 31) (fo i) (kF i) (fF i))) (zsF sF kF i (zm1 (zG gv 31) (fo i) (kF i) (fF i)) (zmst (zG gv 31) (fo i) 256)) bF mF fs fc PL pf2 wo go co fo bo Gs := by
  obtain ⟨⟨h1, h2, h3⟩, h4, h5, -, h7, -, -, h10, h11, h12⟩ := h
  refine ⟨⟨h1, h2, h6⟩, h4, h5, hO, h7, HW, zPC_lh HC (fun q hq => ?_) (fun _ _ => rfl), zHC_m h10 hm.2.2.2, h11, h12⟩
  by_cases e : q = i
  · subst e
    rw [pk_us, zLK]
    exact zlk_cong _ (fun t ht => (zheld_cong (h11 t (by omega)) (h10 q hq).2.1).symm)
  · rw [pk_un e, zLK, zLK]
    simp only [zdn, zfF_ne e, zsF_ne e]
end

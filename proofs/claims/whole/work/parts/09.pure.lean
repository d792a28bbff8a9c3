/-! pure words: what both sides speak of -/
theorem zle {a b : Nat} (h : nI a ≤ nI b) (ha : a < 2 ^ 31 := by omega) (hb : b < 2 ^ 31 := by omega) : a ≤ b := (nI_leI ha hb).mp h
theorem znle {a b : Nat} (h : ¬ nI a ≤ nI b) (ha : a < 2 ^ 31 := by omega) (hb : b < 2 ^ 31 := by omega) : b < a := Nat.not_le.mp fun q => h ((nI_leI ha hb).mpr q)
theorem zlt {a b : Nat} (h : nI a < nI b) (ha : a < 2 ^ 31 := by omega) (hb : b < 2 ^ 31 := by omega) : a < b := (nI_ltI ha hb).mp h
theorem znlt {a b : Nat} (h : ¬ nI a < nI b) (ha : a < 2 ^ 31 := by omega) (hb : b < 2 ^ 31 := by omega) : b ≤ a := Nat.not_lt.mp fun q => h ((nI_ltI ha hb).mpr q)
theorem zeq {a b : Nat} (h : nI a = nI b) (ha : a < 2 ^ 31 := by omega) (hb : b < 2 ^ 31 := by omega) : a = b := (nI_eq ha hb).mp h
theorem zne {a b : Nat} (h : ¬ nI a = nI b) (ha : a < 2 ^ 31 := by omega) (hb : b < 2 ^ 31 := by omega) : a ≠ b := fun q => h ((nI_eq ha hb).mpr q)
abbrev zNO : Int32 := -2147483648
/-- x is one of 0 .. n - 1 -/
def zr (n : Nat) (x : Int32) : Prop := ∃ j : Nat, j < n ∧ x = nI j
theorem zr_of {n : Nat} {x : Int32} (h0 : ¬ x < 0) (h1 : ¬ nI n ≤ x) (hn : n < 2 ^ 31 := by decide) : zr n x := by
  obtain ⟨j, hj, rfl⟩ := nI_of h0
  exact ⟨j, Nat.not_le.mp fun q => h1 (nI_le q hj), rfl⟩
theorem zr_lo {n : Nat} {x : Int32} (h : x < 0) (hn : n ≤ 2 ^ 31 := by decide) : ¬ zr n x := by
  rintro ⟨j, hj, rfl⟩
  exact nI_pos (by omega) h
theorem zr_hi {n : Nat} {x : Int32} (h : nI n ≤ x) (hn : n < 2 ^ 31 := by decide) : ¬ zr n x := by
  rintro ⟨j, hj, rfl⟩
  exact absurd (zle h hn (by omega)) (by omega)
theorem zr_nI {n j : Nat} (hj : j < n) : zr n (nI j) := ⟨j, hj, rfl⟩
theorem zr_lt {n j : Nat} (h : zr n (nI j)) (hj : j < 2 ^ 31) (hn : n ≤ 2 ^ 31) : j < n := by
  obtain ⟨i, hi, e⟩ := h
  have := zeq e hj (by omega)
  omega
theorem zr_iff {n : Nat} {x : Int32} (hn : n < 2 ^ 31 := by decide) : zr n x ↔ 0 ≤ x.toInt ∧ x.toInt < n := by
  constructor
  · rintro ⟨j, hj, rfl⟩
    rw [nI_toInt (by omega)]
    omega
  · rintro ⟨h0, h1⟩
    have : ¬ x < 0 := fun q => by
      have := Int32.lt_iff_toInt_lt.mp q
      rw [show (0 : Int32).toInt = 0 from rfl] at this
      omega
    obtain ⟨j, hj, rfl⟩ := nI_of this
    rw [nI_toInt hj] at h1
    exact ⟨j, by omega, rfl⟩
theorem zr_cl {n : Nat} {x : Int32} (h : zr n x) (hn : n ≤ 2 ^ 31 := by decide) : x.toNatClampNeg < n ∧ x = nI x.toNatClampNeg := by
  obtain ⟨j, hj, rfl⟩ := h
  rw [nI_clamp (by omega)]
  exact ⟨hj, rfl⟩
/-- what a run of a function gives in a world, by numbers that need not be in range -/
noncomputable def zg (G : Nat → Int32) (f r : Int32) : Int32 := by
  classical
  exact if zr 6 f ∧ zr 256 r then G (256 * f.toNatClampNeg + r.toNatClampNeg) else zNO
theorem zg_in {G : Nat → Int32} {f r : Nat} (hf : f < 6) (hr : r < 256) : zg G (nI f) (nI r) = G (256 * f + r) := by
  unfold zg
  rw [if_pos ⟨zr_nI hf, zr_nI hr⟩, nI_clamp (by omega), nI_clamp (by omega)]
theorem zg_nf {G : Nat → Int32} {f r : Int32} (h : ¬ zr 6 f) : zg G f r = zNO := by
  unfold zg
  rw [if_neg (fun q => h q.1)]
theorem zg_nr {G : Nat → Int32} {f r : Int32} (h : ¬ zr 256 r) : zg G f r = zNO := by
  unfold zg
  rw [if_neg (fun q => h q.2)]
theorem zq_ro_mono {l : Launch} {D : va_G} {cI cZ cW cC : ClassId} {y : MethodName} {wsw : List Cond} {rm : Room} {av : List Value} {ws : va_W} {post post' : Option Value → Prop} (h : zq_ro l D cI cZ cW cC y wsw rm av ws post) (hp : ∀ v, post v → post' v) : zq_ro l D cI cZ cW cC y wsw rm av ws post' := by
  exact MetFree.mono h (fun _ _ q => q) (fun _ _ _ _ _ q => q) (fun _ _ _ _ _ q => ⟨by obtain ⟨v, h1, h2, h3⟩ := q.1; exact ⟨v, h1, hp v h2, h3⟩, q.2⟩)

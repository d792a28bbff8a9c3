/-! pure words: what both sides speak of -/
theorem zle {a b : Nat} (h : nI a ≤ nI b) (ha : a < 2 ^ 31 := by omega) (hb : b < 2 ^ 31 := by omega) : a ≤ b := (nI_leI ha hb).mp h
theorem znle {a b : Nat} (h : ¬ nI a ≤ nI b) (ha : a < 2 ^ 31 := by omega) (hb : b < 2 ^ 31 := by omega) : b < a := Nat.not_le.mp fun q => h ((nI_leI ha hb).mpr q)
theorem zlt {a b : Nat} (h : nI a < nI b) (ha : a < 2 ^ 31 := by omega) (hb : b < 2 ^ 31 := by omega) : a < b := (nI_ltI ha hb).mp h
theorem znlt {a b : Nat} (h : ¬ nI a < nI b) (ha : a < 2 ^ 31 := by omega) (hb : b < 2 ^ 31 := by omega) : b ≤ a := Nat.not_lt.mp fun q => h ((nI_ltI ha hb).mpr q)
theorem zeq {a b : Nat} (h : nI a = nI b) (ha : a < 2 ^ 31 := by omega) (hb : b < 2 ^ 31 := by omega) : a = b := (nI_eq ha hb).mp h
theorem zne {a b : Nat} (h : ¬ nI a = nI b) (ha : a < 2 ^ 31 := by omega) (hb : b < 2 ^ 31 := by omega) : a ≠ b := fun q => h ((nI_eq ha hb).mpr q)
abbrev zNO : Int32 := -2147483648
/-- x is one of 0 .. n - 1 -/
def zr (n : Nat) (x : Int32) : Prop := ∃ j : Nat, j < n ∧ x = nI j
theorem zr_of {n : Nat} {x : Int32} (h0 : ¬ x < 0) (h1 : ¬ nI n ≤ x) (hn : n < 2 ^ 31 := by decide) : zr n x := by
  obtain ⟨j, hj, rfl⟩ := nI_of h0
  exact ⟨j, Nat.not_le.mp fun q => h1 (nI_le q hj), rfl⟩
theorem zr_lo {n : Nat} {x : Int32} (h : x < 0) (hn : n ≤ 2 ^ 31 := by decide) : ¬ zr n x := by
  rintro ⟨j, hj, rfl⟩
  exact nI_pos (by omega) h
theorem zr_hi {n : Nat} {x : Int32} (h : nI n ≤ x) (hn : n < 2 ^ 31 := by decide) : ¬ zr n x := by
  rintro ⟨j, hj, rfl⟩
  exact absurd (zle h hn (by omega)) (by omega)
theorem zr_nI {n j : Nat} (hj : j < n) : zr n (nI j) := ⟨j, hj, rfl⟩
theorem zr_lt {n j : Nat} (h : zr n (nI j)) (hj : j < 2 ^ 31) (hn : n ≤ 2 ^ 31) : j < n := by
  obtain ⟨i, hi, e⟩ := h
  have := zeq e hj (by omega)
  omega
theorem zr_iff {n : Nat} {x : Int32} (hn : n < 2 ^ 31 := by decide) : zr n x ↔ 0 ≤ x.toInt ∧ x.toInt < n := by
  constructor
  · rintro ⟨j, hj, rfl⟩
    rw [nI_toInt (by omega)]
    omega
  · rintro ⟨h0, h1⟩
    have : ¬ x < 0 := fun q => by
      have := Int32.lt_iff_toInt_lt.mp q
      rw [show (0 : Int32).toInt = 0 from rfl] at this
      omega
    obtain ⟨j, hj, rfl⟩ := nI_of this
    rw [nI_toInt hj] at h1
    exact ⟨j, by omega, rfl⟩
theorem zr_cl {n : Nat} {x : Int32} (h : zr n x) (hn : n ≤ 2 ^ 31 := by decide) : x.toNatClampNeg < n ∧ x = nI x.toNatClampNeg := by
  obtain ⟨j, hj, rfl⟩ := h
  rw [nI_clamp (by omega)]
  exact ⟨hj, rfl⟩
/-- what a run of a function gives in a world, by numbers that need not be in range -/
noncomputable def zg (G : Nat → Int32) (f r : Int32) : Int32 := by
  classical
  exact if zr 6 f ∧ zr 256 r then G (256 * f.toNatClampNeg + r.toNatClampNeg) else zNO
theorem zg_in {G : Nat → Int32} {f r : Nat} (hf : f < 6) (hr : r < 256) : zg G (nI f) (nI r) = G (256 * f + r) := by
  unfold zg
  rw [if_pos ⟨zr_nI hf, zr_nI hr⟩, nI_clamp (by omega), nI_clamp (by omega)]
theorem zg_nf {G : Nat → Int32} {f r : Int32} (h : ¬ zr 6 f) : zg G f r = zNO := by
  unfold zg
  rw [if_neg (fun q => h q.1)]
theorem zg_nr {G : Nat → Int32} {f r : Int32} (h : ¬ zr 256 r) : zg G f r = zNO := by
  unfold zg
  rw [if_neg (fun q => h q.2)]
theorem zq_ro_mono {l : Launch} {D : va_G} {cI cZ cW cC : ClassId} {y : MethodName} {wsw : List Cond} {rm : Room} {av : List Value} {ws : va_W} {post post' : Option Value → Prop} (h : zq_ro l D cI cZ cW cC y wsw rm av ws post) (hp : ∀ v, post v → post' v) : zq_ro l D cI cZ cW cC y wsw rm av ws post' := by
  unfold zq_ro Met at h ⊢
  exact MetFree.mono h (fun _ _ q => q) (fun _ _ _ _ _ q => q) (fun _ _ _ _ _ q => ⟨by obtain ⟨v, h1, h2, h3⟩ := q.1; exact ⟨v, h1, hp v h2, h3⟩, q.2⟩)
/-- how many runs are refused, the least, the most, the first refused: over the 256 runs of one function -/
def zref (G : Nat → Int32) (f : Nat) : Nat → Bool := fun r => decide (G (256 * f + r) = zNO)
def zlst (G : Nat → Int32) (f : Nat) : Nat → Int32
  | 0 => zNO
  | n + 1 => if ¬ G (256 * f + n) = zNO ∧ (zlst G f n = zNO ∨ G (256 * f + n) < zlst G f n) then G (256 * f + n) else zlst G f n
def zmst (G : Nat → Int32) (f : Nat) : Nat → Int32
  | 0 => zNO
  | n + 1 => if zmst G f n < G (256 * f + n) then G (256 * f + n) else zmst G f n
theorem zq_te {p : Program} {l : Launch} {e : Env} {R : Room} {s : State} {m : MethodId} {args : Array Value} {below : List Frame} {meth : Method} {c : Code} {H : Heap} {locs : List Loc} {cells slots : Nat} {Q : State → Prop} {pc : Nat} {ls : Array Slot} {rest : List Value} {x y : Int32} (h : x = y) (k : W p l e R s m args below meth c H locs cells slots Q (F0 m pc ls (.int y :: rest))) : W p l e R s m args below meth c H locs cells slots Q (F0 m pc ls (.int x :: rest)) := h ▸ k
theorem zfirst_eq {p : Nat → Bool} {n k : Nat} (hk : k < n) (hp : p k = true) (hno : ∀ j, j < k → p j = false) : fa_first p n = k := by
  rcases Nat.lt_or_ge k (fa_first p n) with h | h
  · have := fa_first_no p n k h
    rw [hp] at this
    cases this
  · rcases Nat.lt_or_ge (fa_first p n) k with h2 | h2
    · have h3 := fa_first_yes p n (by omega)
      rw [hno _ h2] at h3
      cases h3
    · omega
theorem zfirst_none {p : Nat → Bool} {n : Nat} (hno : ∀ j, j < n → p j = false) : fa_first p n = n := by
  rcases Nat.lt_or_ge (fa_first p n) n with h2 | h2
  · have h3 := fa_first_yes p n h2
    rw [hno _ h2] at h3
    cases h3
  · have := fa_first_le p n
    omega
/-- Euclid: the common divisor of what is given, and the greatest p up to 1000 that divides a number -/
def zgc (G : Nat → Int32) (f : Nat) : Nat → Nat
  | 0 => 0
  | n + 1 => if G (256 * f + n) = zNO then zgc G f n else Nat.gcd (G (256 * f + n)).toInt.natAbs (zgc G f n)
def zgd (c : Nat) : Nat → Nat
  | 0 => 1
  | n + 1 => if c % (n + 1) = 0 then n + 1 else zgd c n
def zEu (a b i x y : Nat) : Prop := Nat.gcd x y = Nat.gcd a b ∧ x ≤ 1000000 ∧ y ≤ 1000000 ∧ ((i = 0 ∧ x * y ≤ 1000000000000) ∨ (1 ≤ i ∧ y < x ∧ x * y * 2 ^ (i - 1) ≤ 1000000000000))
theorem zEu_0 {a b : Nat} (ha : a ≤ 1000000) (hb : b ≤ 1000000) : zEu a b 0 a b := ⟨rfl, ha, hb, Or.inl ⟨rfl, Nat.mul_le_mul ha hb⟩⟩
theorem zEu_s {a b i x y : Nat} (h : zEu a b i x y) (hy : 0 < y) : zEu a b (i + 1) y (x % y) := by
  obtain ⟨h1, h2, h3, h4⟩ := h
  have hm := Nat.mod_lt x hy
  refine ⟨?_, h3, by omega, Or.inr ⟨by omega, hm, ?_⟩⟩
  · rw [← h1, Nat.gcd_comm y, ← Nat.gcd_rec, Nat.gcd_comm]
  · rw [Nat.add_sub_cancel]
    rcases h4 with ⟨rfl, h5⟩ | ⟨h5, h6, h7⟩
    · rw [Nat.pow_zero, Nat.mul_one]
      exact Nat.le_trans (Nat.mul_le_mul_left y (Nat.mod_le x y)) (by rw [Nat.mul_comm]; exact h5)
    · have h8 : 2 * (x % y) ≤ x := by
        have := Nat.div_add_mod x y
        have h9 : 1 ≤ x / y := Nat.div_pos (by omega) hy
        have h10 : y ≤ y * (x / y) := Nat.le_mul_of_pos_right y h9
        omega
      have h9 : y * (x % y) * 2 ^ i ≤ x * y * 2 ^ (i - 1) := by
        have e : 2 ^ i = 2 * 2 ^ (i - 1) := by
          rw [show i = (i - 1) + 1 by omega, Nat.pow_succ, Nat.mul_comm]
          simp
        rw [e]
        calc y * (x % y) * (2 * 2 ^ (i - 1)) = y * (2 * (x % y)) * 2 ^ (i - 1) := by
              simp only [Nat.mul_assoc, Nat.mul_left_comm, Nat.mul_comm]
          _ ≤ y * x * 2 ^ (i - 1) := Nat.mul_le_mul_right _ (Nat.mul_le_mul_left y h8)
          _ = x * y * 2 ^ (i - 1) := by rw [Nat.mul_comm y x]
      exact Nat.le_trans h9 h7
theorem zEu_z {a b x : Nat} {i : Nat} (h : zEu a b i x 0) : x = Nat.gcd a b := by
  have := h.1
  rw [Nat.gcd_zero_right] at this
  exact this
theorem zEu_64 {a b i x y : Nat} (h : zEu a b i x y) (hi : 64 ≤ i) : y = 0 := by
  obtain ⟨-, -, -, h4⟩ := h
  rcases h4 with ⟨rfl, -⟩ | ⟨-, h6, h7⟩
  · omega
  · rcases Nat.eq_zero_or_pos y with h | h
    · exact h
    · exfalso
      have h8 : 1 ≤ x * y := Nat.mul_pos (by omega) h
      have h9 : 2 ^ 63 ≤ 2 ^ (i - 1) := Nat.pow_le_pow_right (by decide) (by omega)
      have h10 : 1 * 2 ^ 63 ≤ x * y * 2 ^ (i - 1) := Nat.mul_le_mul h8 h9
      omega
theorem zgd_le (c : Nat) : ∀ n, zgd c n ≤ n + 1 ∧ 1 ≤ zgd c n
  | 0 => ⟨by simp [zgd], by simp [zgd]⟩
  | n + 1 => by
    have ih := zgd_le c n
    unfold zgd
    split <;> omega
theorem zabs {x : Int32} (h : ¬ x = zNO) : (if 0 ≤ x then x else 0 - x) = nI x.toInt.natAbs := by
  have hr := fb_rng x
  have hz : x.toInt ≠ -2147483648 := fun q => h (Int32.toInt_inj.mp (by rw [q]; rfl))
  apply Int32.toInt_inj.mp
  rw [nI_toInt (by omega)]
  by_cases h0 : 0 ≤ x
  · rw [if_pos h0]
    have := Int32.le_iff_toInt_le.mp h0
    rw [show (0 : Int32).toInt = 0 from rfl] at this
    omega
  · rw [if_neg h0]
    have := Int32.lt_iff_toInt_lt.mp (Int32.not_le.mp h0)
    rw [show (0 : Int32).toInt = 0 from rfl] at this
    rw [fb_subI (by rw [show (0 : Int32).toInt = 0 from rfl]; omega) (by rw [show (0 : Int32).toInt = 0 from rfl]; omega), show (0 : Int32).toInt = 0 from rfl]
    omega
/-- the values of a world: refused, or within the limit -/
def zB (G : Nat → Int32) (n : Nat) : Prop := ∀ j, j < n → G j = zNO ∨ (-1000000 ≤ (G j).toInt ∧ (G j).toInt ≤ 1000000)
theorem zgc_le {G : Nat → Int32} {f : Nat} (hB : zB G 1536) (hf : f < 6) : ∀ n, n ≤ 256 → zgc G f n ≤ 1000000
  | 0, _ => by simp [zgc]
  | n + 1, h => by
    have ih := zgc_le hB hf n (by omega)
    unfold zgc
    split
    · exact ih
    · rename_i hn
      rcases Nat.eq_zero_or_pos (G (256 * f + n)).toInt.natAbs with h0 | h0
      · rw [h0, Nat.gcd_zero_left]
        exact ih
      · rcases hB (256 * f + n) (by omega) with q | q
        · exact absurd q hn
        · exact Nat.le_trans (Nat.gcd_le_left _ h0) (by omega)


section Z37
theorem ga_go {c a : Int32} (hc : gin 0 c 9999 = true) (ha : gin 1 a 500 = true) (h : ¬ 9999 < c + a) : gin 0 (c + a) 9999 = true := by
  have e0 : (0 : Int32).toInt = 0 := rfl
  have e1 : (1 : Int32).toInt = 1 := rfl
  have e500 : (500 : Int32).toInt = 500 := rfl
  have e9999 : (9999 : Int32).toInt = 9999 := rfl
  obtain ⟨l0, u0⟩ := gin_iff.mp hc
  obtain ⟨l1, u1⟩ := gin_iff.mp ha
  rw [Int32.lt_iff_toInt_lt] at l0 u0 l1 u1
  have s : (c + a).toInt = c.toInt + a.toInt := by
    rw [Int32.toInt_add, Int.bmod_def]
    split <;> omega
  exact gin_t (fun z => by rw [Int32.lt_iff_toInt_lt, s] at z; omega) h
theorem ga_inc {f : Int32} {n : Nat} (hn : n ≤ 100000) (h : gin 0 f (Int32.ofNat n) = true) : gin 0 (f + 1) (Int32.ofNat (n + 1)) = true := by
  have e0 : (0 : Int32).toInt = 0 := rfl
  have e1 : (1 : Int32).toInt = 1 := rfl
  obtain ⟨l0, u0⟩ := gin_iff.mp h
  rw [Int32.lt_iff_toInt_lt] at l0 u0
  rw [Int32.toInt_ofNat_of_lt (by omega)] at u0
  have s : (f + 1).toInt = f.toInt + 1 := by
    rw [Int32.toInt_add, Int.bmod_def]
    split <;> omega
  exact gin_t (fun z => by rw [Int32.lt_iff_toInt_lt, s] at z; omega) (fun z => by rw [Int32.lt_iff_toInt_lt, s, Int32.toInt_ofNat_of_lt (by omega)] at z; omega)
theorem ga_inc3 {f : Int32} {n : Nat} (hn : n ≤ 1000) (h : gin 0 f (Int32.ofNat (3 * n)) = true) : gin 0 (f + 3) (Int32.ofNat (3 * (n + 1))) = true := by
  have e0 : (0 : Int32).toInt = 0 := rfl
  have e3 : (3 : Int32).toInt = 3 := rfl
  obtain ⟨l0, u0⟩ := gin_iff.mp h
  rw [Int32.lt_iff_toInt_lt] at l0 u0
  rw [Int32.toInt_ofNat_of_lt (by omega)] at u0
  have s : (f + 3).toInt = f.toInt + 3 := by
    rw [Int32.toInt_add, Int.bmod_def]
    split <;> omega
  exact gin_t (fun z => by rw [Int32.lt_iff_toInt_lt, s] at z; omega) (fun z => by rw [Int32.lt_iff_toInt_lt, s, Int32.toInt_ofNat_of_lt (by omega)] at z; omega)
theorem ga_since {s d : Int32} (h : gin 0 s 7 = true) (hm : (d.toInt - s.toInt) % 8 = 0) : gin 0 (if s + 1 = 8 then 0 else s + 1) 7 = true ∧ ((d + 1).toInt - (if s + 1 = 8 then 0 else s + 1 : Int32).toInt) % 8 = 0 := by
  have e0 : (0 : Int32).toInt = 0 := rfl
  have e1 : (1 : Int32).toInt = 1 := rfl
  have e7 : (7 : Int32).toInt = 7 := rfl
  have e8 : (8 : Int32).toInt = 8 := rfl
  obtain ⟨l0, u0⟩ := gin_iff.mp h
  rw [Int32.lt_iff_toInt_lt] at l0 u0
  have t : (s + 1).toInt = s.toInt + 1 := by
    rw [Int32.toInt_add, Int.bmod_def]
    split <;> omega
  have hd1 := d.toInt_lt
  have hd2 := d.le_toInt
  have e9 : (d + 1).toInt = d.toInt + 1 ∨ (d + 1).toInt = d.toInt + 1 - 4294967296 := by
    rw [Int32.toInt_add, e1, Int.bmod_def]
    split <;> omega
  by_cases z : s + 1 = 8
  · rw [if_pos z]
    rw [← Int32.toInt_inj, t] at z
    exact ⟨by decide, by omega⟩
  · rw [if_neg z]
    rw [← Int32.toInt_inj, t] at z
    exact ⟨gin_t (fun q => by rw [Int32.lt_iff_toInt_lt, t] at q; omega) (fun q => by rw [Int32.lt_iff_toInt_lt, t] at q; omega), by omega⟩
theorem ga_kilos {k c : Int32} (hk : ¬ 500 < k) (hc : ¬ c < 1) (h : ¬ k < c) : ¬ 500 < k - c := by
  have e1 : (1 : Int32).toInt = 1 := rfl
  have e500 : (500 : Int32).toInt = 500 := rfl
  rw [Int32.lt_iff_toInt_lt] at hk hc h
  have s : (k - c).toInt = k.toInt - c.toInt := by
    rw [Int32.toInt_sub, Int.bmod_def]
    split <;> omega
  rw [Int32.lt_iff_toInt_lt, s]
  omega
theorem gdiv_nn {a b : Int32} (ha : 0 ≤ a.toInt) (hb : 0 < b.toInt) : (a / b).toInt = a.toInt / b.toInt := by
  have h1 := a.toInt_lt
  have h2 : a.toInt / b.toInt ≤ a.toInt := Int.ediv_le_self _ ha
  have h3 : 0 ≤ a.toInt / b.toInt := Int.ediv_nonneg ha (by omega)
  rw [Int32.toInt_div, Int.tdiv_eq_ediv_of_nonneg ha, Int.bmod_def]
  split <;> omega
theorem ga_carbon {p c d k l : Int32} (hp : gin 50 p 99 = true) (c1 : ¬ c < 1) (d1 : ¬ d < 1) (hk : ¬ 500 < k) (hl : ¬ 500 < l) (h1 : ¬ k < c) (h2 : ¬ l < d) : gin 0 (10 * c * p / (c + d)) 1000 = true := by
  have e0 : (0 : Int32).toInt = 0 := rfl
  have e1 : (1 : Int32).toInt = 1 := rfl
  have e10 : (10 : Int32).toInt = 10 := rfl
  have e50 : (50 : Int32).toInt = 50 := rfl
  have e99 : (99 : Int32).toInt = 99 := rfl
  have e500 : (500 : Int32).toInt = 500 := rfl
  have e1000 : (1000 : Int32).toInt = 1000 := rfl
  obtain ⟨l0, u0⟩ := gin_iff.mp hp
  rw [Int32.lt_iff_toInt_lt] at l0 u0 c1 d1 hk hl h1 h2
  have s : (c + d).toInt = c.toInt + d.toInt := by
    rw [Int32.toInt_add, Int.bmod_def]
    split <;> omega
  have t1 : (10 * c).toInt = 10 * c.toInt := by
    rw [Int32.toInt_mul, e10, Int.bmod_def]
    split <;> omega
  have t2 : 0 ≤ c.toInt * p.toInt ∧ c.toInt * p.toInt ≤ 99 * c.toInt := by
    constructor
    · exact Int.mul_nonneg (by omega) (by omega)
    · rw [Int.mul_comm]; exact Int.mul_le_mul_of_nonneg_right (by omega) (by omega)
  have t3 : (10 * c * p).toInt = 10 * (c.toInt * p.toInt) := by
    rw [Int32.toInt_mul, t1, Int.mul_assoc, Int.bmod_def]
    split <;> omega
  have q := gdiv_nn (a := 10 * c * p) (b := c + d) (by omega) (by omega)
  rw [t3, s] at q
  have q1 : 10 * (c.toInt * p.toInt) / (c.toInt + d.toInt) ≤ 1000 := Int.ediv_le_of_le_mul (by omega) (by omega)
  have q2 : 0 ≤ 10 * (c.toInt * p.toInt) / (c.toInt + d.toInt) := Int.ediv_nonneg (by omega) (by omega)
  exact gin_t (fun z => by rw [Int32.lt_iff_toInt_lt, q] at z; omega) (fun z => by rw [Int32.lt_iff_toInt_lt, q] at z; omega)
theorem ga_clamp {x lo hi : Int32} (h : ¬ hi < lo) : gin lo (gclamp x lo hi) hi = true := by
  rw [Int32.lt_iff_toInt_lt] at h
  unfold gclamp gmax gmin
  refine gin_t (fun z => ?_) (fun z => ?_)
  · by_cases h1 : x < hi
    · simp only [h1, if_true] at z
      by_cases h2 : lo < x
      · simp only [h2, if_true] at z
        rw [Int32.lt_iff_toInt_lt] at z h2; omega
      · simp only [h2, if_false] at z
        rw [Int32.lt_iff_toInt_lt] at z; omega
    · simp only [h1, if_false] at z
      by_cases h2 : lo < hi
      · simp only [h2, if_true] at z
        rw [Int32.lt_iff_toInt_lt] at z; omega
      · simp only [h2, if_false] at z
        rw [Int32.lt_iff_toInt_lt] at z; omega
  · by_cases h1 : x < hi
    · simp only [h1, if_true] at z
      by_cases h2 : lo < x
      · simp only [h2, if_true] at z
        rw [Int32.lt_iff_toInt_lt] at z h1; omega
      · simp only [h2, if_false] at z
        rw [Int32.lt_iff_toInt_lt] at z; omega
    · simp only [h1, if_false] at z
      by_cases h2 : lo < hi
      · simp only [h2, if_true] at z
        rw [Int32.lt_iff_toInt_lt] at z; omega
      · simp only [h2, if_false] at z
        rw [Int32.lt_iff_toInt_lt] at z; omega
theorem ga_fire {ca fi c d : Int32} {n : Nat} (hca : gin 0 ca 1000 = true) (hfi : gin 0 fi 9 = true) (hc : gin 700 c 1200 = true) (hd : gin 1 d 12 = true) (hn : n ≤ 600) : gin 0 (((((1000 - ca) * (c - 600)) / 1000) + (20 * fi)) + (5 * d)) (Int32.ofNat (900 + 50 * n)) = true := by
  have e0 : (0 : Int32).toInt = 0 := rfl
  have e1 : (1 : Int32).toInt = 1 := rfl
  have e5 : (5 : Int32).toInt = 5 := rfl
  have e9 : (9 : Int32).toInt = 9 := rfl
  have e12 : (12 : Int32).toInt = 12 := rfl
  have e20 : (20 : Int32).toInt = 20 := rfl
  have e600 : (600 : Int32).toInt = 600 := rfl
  have e700 : (700 : Int32).toInt = 700 := rfl
  have e1000 : (1000 : Int32).toInt = 1000 := rfl
  have e1200 : (1200 : Int32).toInt = 1200 := rfl
  obtain ⟨l0, u0⟩ := gin_iff.mp hca
  obtain ⟨l1, u1⟩ := gin_iff.mp hfi
  obtain ⟨l2, u2⟩ := gin_iff.mp hc
  obtain ⟨l3, u3⟩ := gin_iff.mp hd
  rw [Int32.lt_iff_toInt_lt] at l0 u0 l1 u1 l2 u2 l3 u3
  have s1 : (1000 - ca).toInt = 1000 - ca.toInt := by
    rw [Int32.toInt_sub, Int.bmod_def]
    split <;> omega
  have s2 : (c - 600).toInt = c.toInt - 600 := by
    rw [Int32.toInt_sub, Int.bmod_def]
    split <;> omega
  have t2 : 0 ≤ (1000 - ca.toInt) * (c.toInt - 600) ∧ (1000 - ca.toInt) * (c.toInt - 600) ≤ 1000 * 600 := by
    constructor
    · exact Int.mul_nonneg (by omega) (by omega)
    · exact Int.mul_le_mul (by omega) (by omega) (by omega) (by omega)
  have t3 : ((1000 - ca) * (c - 600)).toInt = (1000 - ca.toInt) * (c.toInt - 600) := by
    rw [Int32.toInt_mul, s1, s2, Int.bmod_def]
    split <;> omega
  have q := gdiv_nn (a := (1000 - ca) * (c - 600)) (b := 1000) (by omega) (by omega)
  rw [t3, e1000] at q
  have f1 : (20 * fi).toInt = 20 * fi.toInt := by
    rw [Int32.toInt_mul, e20, Int.bmod_def]
    split <;> omega
  have f2 : (5 * d).toInt = 5 * d.toInt := by
    rw [Int32.toInt_mul, e5, Int.bmod_def]
    split <;> omega
  have g1 : (((1000 - ca) * (c - 600)) / 1000 + 20 * fi).toInt = (1000 - ca.toInt) * (c.toInt - 600) / 1000 + 20 * fi.toInt := by
    rw [Int32.toInt_add, Int.bmod_def]
    split <;> omega
  have g2 : (((1000 - ca) * (c - 600)) / 1000 + (20 * fi) + 5 * d).toInt = (1000 - ca.toInt) * (c.toInt - 600) / 1000 + 20 * fi.toInt + 5 * d.toInt := by
    rw [Int32.toInt_add, Int.bmod_def]
    split <;> omega
  exact gin_t (fun z => by rw [Int32.lt_iff_toInt_lt, g2] at z; omega) (fun z => by rw [Int32.lt_iff_toInt_lt, g2, Int32.toInt_ofNat_of_lt (by omega)] at z; omega)
theorem ga_soak {s w : Int32} {n : Nat} (hs : gin 0 s (Int32.ofNat (900 + 50 * n)) = true) (hw : gin 1 w 5 = true) (hn : n ≤ 600) : gin 0 (s + (10 * w)) (Int32.ofNat (900 + 50 * (n + 1))) = true := by
  have e0 : (0 : Int32).toInt = 0 := rfl
  have e1 : (1 : Int32).toInt = 1 := rfl
  have e5 : (5 : Int32).toInt = 5 := rfl
  have e10 : (10 : Int32).toInt = 10 := rfl
  obtain ⟨l0, u0⟩ := gin_iff.mp hs
  obtain ⟨l1, u1⟩ := gin_iff.mp hw
  rw [Int32.lt_iff_toInt_lt] at l0 u0 l1 u1
  rw [Int32.toInt_ofNat_of_lt (by omega)] at u0
  have f1 : (10 * w).toInt = 10 * w.toInt := by
    rw [Int32.toInt_mul, e10, Int.bmod_def]
    split <;> omega
  have g : (s + 10 * w).toInt = s.toInt + 10 * w.toInt := by
    rw [Int32.toInt_add, Int.bmod_def]
    split <;> omega
  exact gin_t (fun z => by rw [Int32.lt_iff_toInt_lt, g] at z; omega) (fun z => by rw [Int32.lt_iff_toInt_lt, g, Int32.toInt_ofNat_of_lt (by omega)] at z; omega)
theorem ga_fall {p b h o s : Int32} {n : Nat} (hb : gin 0 b p = true) (hp : ¬ 500 < p) (hh : gin 1 h 9 = true) (ho : gin 0 o 4 = true) (hs : gin 0 s (Int32.ofNat (900 + 50 * n)) = true) (hn : n ≤ 600) : gin 0 (b + (gmin ((p * (gmax 0 (((40 * h) + (20 * o)) - s))) / 400) (p - b))) p = true := by
  have e0 : (0 : Int32).toInt = 0 := rfl
  have e1 : (1 : Int32).toInt = 1 := rfl
  have e4 : (4 : Int32).toInt = 4 := rfl
  have e9 : (9 : Int32).toInt = 9 := rfl
  have e20 : (20 : Int32).toInt = 20 := rfl
  have e40 : (40 : Int32).toInt = 40 := rfl
  have e400 : (400 : Int32).toInt = 400 := rfl
  have e500 : (500 : Int32).toInt = 500 := rfl
  obtain ⟨l0, u0⟩ := gin_iff.mp hb
  obtain ⟨l1, u1⟩ := gin_iff.mp hh
  obtain ⟨l2, u2⟩ := gin_iff.mp ho
  obtain ⟨l3, u3⟩ := gin_iff.mp hs
  rw [Int32.lt_iff_toInt_lt] at l0 u0 l1 u1 l2 u2 l3 u3 hp
  rw [Int32.toInt_ofNat_of_lt (by omega)] at u3
  have f1 : (40 * h).toInt = 40 * h.toInt := by
    rw [Int32.toInt_mul, e40, Int.bmod_def]
    split <;> omega
  have f2 : (20 * o).toInt = 20 * o.toInt := by
    rw [Int32.toInt_mul, e20, Int.bmod_def]
    split <;> omega
  have g1 : (40 * h + 20 * o).toInt = 40 * h.toInt + 20 * o.toInt := by
    rw [Int32.toInt_add, Int.bmod_def]
    split <;> omega
  have g2 : ((40 * h + 20 * o) - s).toInt = 40 * h.toInt + 20 * o.toInt - s.toInt := by
    rw [Int32.toInt_sub, Int.bmod_def]
    split <;> omega
  have m1 : 0 ≤ (gmax 0 (40 * h + 20 * o - s)).toInt ∧ (gmax 0 (40 * h + 20 * o - s)).toInt ≤ 440 := by
    unfold gmax
    by_cases z : 0 < 40 * h + 20 * o - s
    · rw [if_pos z]
      rw [Int32.lt_iff_toInt_lt] at z
      omega
    · rw [if_neg z]; omega
  generalize gmax 0 (40 * h + 20 * o - s) = F at m1 ⊢
  have t2 : 0 ≤ p.toInt * F.toInt ∧ p.toInt * F.toInt ≤ 500 * 440 := by
    constructor
    · exact Int.mul_nonneg (by omega) (by omega)
    · exact Int.mul_le_mul (by omega) (by omega) (by omega) (by omega)
  have t3 : (p * F).toInt = p.toInt * F.toInt := by
    rw [Int32.toInt_mul, Int.bmod_def]
    split <;> omega
  have q := gdiv_nn (a := p * F) (b := 400) (by omega) (by omega)
  rw [t3, e400] at q
  have q0 : 0 ≤ p.toInt * F.toInt / 400 := Int.ediv_nonneg (by omega) (by omega)
  have g3 : (p - b).toInt = p.toInt - b.toInt := by
    rw [Int32.toInt_sub, Int.bmod_def]
    split <;> omega
  have m2 : 0 ≤ (gmin (p * F / 400) (p - b)).toInt ∧ (gmin (p * F / 400) (p - b)).toInt ≤ p.toInt - b.toInt := by
    unfold gmin
    by_cases z : p - b < p * F / 400
    · rw [if_pos z]; omega
    · rw [if_neg z]
      rw [Int32.lt_iff_toInt_lt] at z
      omega
  generalize gmin (p * F / 400) (p - b) = G at m2 ⊢
  have g4 : (b + G).toInt = b.toInt + G.toInt := by
    rw [Int32.toInt_add, Int.bmod_def]
    split <;> omega
  exact gin_t (fun z => by rw [Int32.lt_iff_toInt_lt, g4] at z; omega) (fun z => by rw [Int32.lt_iff_toInt_lt, g4] at z; omega)
theorem ga_off {w b g : Int32} (hx : ¬ 2 < gabs (2 * w - b)) (hg : gin 0 g 9 = true) (hw : gin 0 w 30 = true) (hb : gin (-100000000) b 1000 = true) : gin 0 (gabs (2 * w - b) + g / 4) 4 = true := by
  have e0 : (0 : Int32).toInt = 0 := rfl
  have e2 : (2 : Int32).toInt = 2 := rfl
  have e4 : (4 : Int32).toInt = 4 := rfl
  have e9 : (9 : Int32).toInt = 9 := rfl
  have e30 : (30 : Int32).toInt = 30 := rfl
  have e1000 : (1000 : Int32).toInt = 1000 := rfl
  have em100000000 : (-100000000 : Int32).toInt = -100000000 := by decide
  obtain ⟨l0, u0⟩ := gin_iff.mp hg
  obtain ⟨l1, u1⟩ := gin_iff.mp hw
  obtain ⟨l2, u2⟩ := gin_iff.mp hb
  rw [Int32.lt_iff_toInt_lt] at l0 u0 l1 u1 l2 u2 hx
  have w2 : (2 * w).toInt = 2 * w.toInt := by
    rw [Int32.toInt_mul, e2, Int.bmod_def]
    split <;> omega
  have w3 : (2 * w - b).toInt = 2 * w.toInt - b.toInt := by
    rw [Int32.toInt_sub, w2, Int.bmod_def]
    split <;> omega
  generalize hxx : 2 * w - b = x at *
  have h0 : 0 ≤ (gabs x).toInt := by
    have hx1 := x.toInt_lt
    have hx2 := x.le_toInt
    unfold gabs at hx ⊢
    by_cases z : 0 ≤ x
    · rw [if_pos z]
      rw [Int32.le_iff_toInt_le] at z
      omega
    · rw [if_neg z] at hx ⊢
      rw [Int32.le_iff_toInt_le] at z
      rw [Int32.toInt_sub, e0, Int.bmod_def] at hx ⊢
      split at hx <;> split <;> omega
  have q := gdiv_nn (a := g) (b := 4) (by omega) (by omega)
  rw [e4] at q
  have s : (gabs x + g / 4).toInt = (gabs x).toInt + g.toInt / 4 := by
    rw [Int32.toInt_add, Int.bmod_def]
    split <;> omega
  exact gin_t (fun z => by rw [Int32.lt_iff_toInt_lt, s] at z; omega) (fun z => by rw [Int32.lt_iff_toInt_lt, s] at z; omega)
theorem ga_coat {c : Int32} (h : c < 8) : ¬ 8 < c + 1 := by
  have e1 : (1 : Int32).toInt = 1 := rfl
  have e8 : (8 : Int32).toInt = 8 := rfl
  rw [Int32.lt_iff_toInt_lt] at h
  have h1 := c.le_toInt
  have s : (c + 1).toInt = c.toInt + 1 := by
    rw [Int32.toInt_add, Int.bmod_def]
    split <;> omega
  rw [Int32.lt_iff_toInt_lt, s]
  omega
theorem ga_ship {c : Int32} (h : ¬ c < 1) : ¬ c - 1 < 0 := by
  have e0 : (0 : Int32).toInt = 0 := rfl
  have e1 : (1 : Int32).toInt = 1 := rfl
  rw [Int32.lt_iff_toInt_lt] at h
  have h1 := c.toInt_lt
  have s : (c - 1).toInt = c.toInt - 1 := by
    rw [Int32.toInt_sub, Int.bmod_def]
    split <;> omega
  rw [Int32.lt_iff_toInt_lt, s]
  omega
theorem ga_stamp {x : Int32} (h : gin 0 x 999 = true) : ¬ x / 50 < 0 := by
  have e0 : (0 : Int32).toInt = 0 := rfl
  have e50 : (50 : Int32).toInt = 50 := rfl
  have e999 : (999 : Int32).toInt = 999 := rfl
  obtain ⟨l0, u0⟩ := gin_iff.mp h
  rw [Int32.lt_iff_toInt_lt] at l0 u0
  have q := gdiv_nn (a := x) (b := 50) (by omega) (by omega)
  rw [e50] at q
  rw [Int32.lt_iff_toInt_lt, q]
  omega
theorem ga_nz {z : Int32} (h : ¬ z < 0) : ¬ gnz z < 0 := by
  have e0 : (0 : Int32).toInt = 0 := rfl
  have hz := z.toInt_lt
  rw [Int32.lt_iff_toInt_lt] at h ⊢
  have t1 : (z.toInt64 * 48271).toInt = z.toInt * 48271 := by
    rw [Int64.toInt_mul, Int32.toInt_toInt64, show (48271 : Int64).toInt = 48271 from rfl, Int.bmod_def]
    split <;> omega
  have t2 : ((z.toInt64 * 48271) / 2147483647).toInt = z.toInt * 48271 / 2147483647 := by
    rw [Int64.toInt_div, t1, show (2147483647 : Int64).toInt = 2147483647 from rfl, Int.tdiv_eq_ediv_of_nonneg (by omega), Int.bmod_def]
    split <;> omega
  have t3 : (z.toInt64 * 48271 / 2147483647 * 2147483647).toInt = z.toInt * 48271 / 2147483647 * 2147483647 := by
    rw [Int64.toInt_mul, t2, show (2147483647 : Int64).toInt = 2147483647 from rfl, Int.bmod_def]
    split <;> omega
  have t4 : (z.toInt64 * 48271 - z.toInt64 * 48271 / 2147483647 * 2147483647).toInt = z.toInt * 48271 - z.toInt * 48271 / 2147483647 * 2147483647 := by
    rw [Int64.toInt_sub, t1, t3, Int.bmod_def]
    split <;> omega
  unfold gnz
  rw [Int64.toInt_toInt32, t4, e0]
  have r1 : 0 ≤ z.toInt * 48271 - z.toInt * 48271 / 2147483647 * 2147483647 ∧ z.toInt * 48271 - z.toInt * 48271 / 2147483647 * 2147483647 ≤ 2147483646 := by omega
  generalize z.toInt * 48271 - z.toInt * 48271 / 2147483647 * 2147483647 = r at r1
  rw [Int.bmod_def]
  split <;> omega
/-- one pencil is taken -/
theorem ga_smp {z p b : Int32} (hz : ¬ z < 0) (hb : gin 0 b p = true) (hp : 0 < p) : (z - z / p * p < b → gin 0 (b - 1) (p - 1) = true) ∧ (¬ z - z / p * p < b → gin 0 b (p - 1) = true) := by
  have e0 : (0 : Int32).toInt = 0 := rfl
  have e1 : (1 : Int32).toInt = 1 := rfl
  obtain ⟨l0, u0⟩ := gin_iff.mp hb
  rw [Int32.lt_iff_toInt_lt] at hz l0 u0 hp
  have hp1 := p.toInt_lt
  have hz1 := z.toInt_lt
  have q := gdiv_nn (a := z) (b := p) (by omega) (by omega)
  have r0 : 0 ≤ z.toInt / p.toInt * p.toInt ∧ z.toInt / p.toInt * p.toInt ≤ z.toInt := ⟨Int.mul_nonneg (Int.ediv_nonneg (by omega) (by omega)) (by omega), Int.ediv_mul_le _ (by omega)⟩
  have r1 : z.toInt < z.toInt / p.toInt * p.toInt + p.toInt := by
    have := Int.lt_ediv_add_one_mul_self z.toInt (show 0 < p.toInt by omega)
    rw [Int.add_mul, Int.one_mul] at this
    exact this
  have t1 : (z / p * p).toInt = z.toInt / p.toInt * p.toInt := by
    rw [Int32.toInt_mul, q, Int.bmod_def]
    split <;> omega
  have t2 : (z - z / p * p).toInt = z.toInt - z.toInt / p.toInt * p.toInt := by
    rw [Int32.toInt_sub, t1, Int.bmod_def]
    split <;> omega
  have s1 : (p - 1).toInt = p.toInt - 1 := by
    rw [Int32.toInt_sub, Int.bmod_def]
    split <;> omega
  have s2 : (b - 1).toInt = b.toInt - 1 := by
    rw [Int32.toInt_sub, Int.bmod_def]
    split <;> omega
  constructor
  · intro h
    rw [Int32.lt_iff_toInt_lt, t2] at h
    exact gin_t (fun z => by rw [Int32.lt_iff_toInt_lt, s2] at z; omega) (fun z => by rw [Int32.lt_iff_toInt_lt, s1, s2] at z; omega)
  · intro h
    rw [Int32.lt_iff_toInt_lt, t2] at h
    exact gin_t (fun z => by rw [Int32.lt_iff_toInt_lt] at z; omega) (fun z => by rw [Int32.lt_iff_toInt_lt, s1] at z; omega)
theorem ga_pack {p b c : Int32} (hb : gin 0 b p = true) (hp : ¬ 500 < p) (hc : gin 1 c 144 = true) (h : ¬ p < c) : gin 0 (b - (c - gmin c (p - b))) (p - c) = true ∧ ¬ 500 < p - c ∧ ¬ c - gmin c (p - b) < 0 := by
  have e0 : (0 : Int32).toInt = 0 := rfl
  have e1 : (1 : Int32).toInt = 1 := rfl
  have e144 : (144 : Int32).toInt = 144 := rfl
  have e500 : (500 : Int32).toInt = 500 := rfl
  obtain ⟨l0, u0⟩ := gin_iff.mp hb
  obtain ⟨l1, u1⟩ := gin_iff.mp hc
  rw [Int32.lt_iff_toInt_lt] at l0 u0 l1 u1 hp h
  have s1 : (p - b).toInt = p.toInt - b.toInt := by
    rw [Int32.toInt_sub, Int.bmod_def]
    split <;> omega
  have s2 : (p - c).toInt = p.toInt - c.toInt := by
    rw [Int32.toInt_sub, Int.bmod_def]
    split <;> omega
  have m : (gmin c (p - b)).toInt = c.toInt ∧ c.toInt ≤ p.toInt - b.toInt ∨ (gmin c (p - b)).toInt = p.toInt - b.toInt ∧ p.toInt - b.toInt < c.toInt := by
    unfold gmin
    by_cases z : p - b < c
    · rw [if_pos z]; rw [Int32.lt_iff_toInt_lt, s1] at z; exact Or.inr ⟨s1, z⟩
    · rw [if_neg z]; rw [Int32.lt_iff_toInt_lt, s1] at z; exact Or.inl ⟨rfl, by omega⟩
  generalize gmin c (p - b) = G at m ⊢
  have s3 : (c - G).toInt = c.toInt - G.toInt := by
    rw [Int32.toInt_sub, Int.bmod_def]
    split <;> omega
  have s4 : (b - (c - G)).toInt = b.toInt - (c.toInt - G.toInt) := by
    rw [Int32.toInt_sub, Int.bmod_def]
    split <;> omega
  exact ⟨gin_t (fun z => by rw [Int32.lt_iff_toInt_lt, s4] at z; omega) (fun z => by rw [Int32.lt_iff_toInt_lt, s2, s4] at z; omega), by rw [Int32.lt_iff_toInt_lt, s2]; omega, by rw [Int32.lt_iff_toInt_lt, s3]; omega⟩
theorem ga_packg {p c : Int32} {n : Nat} (hn : (n : Int) ≤ p.toInt) (h1 : ¬ 144 < p) (hc : gin 1 c 144 = true) : ((n + 1 : Nat) : Int) ≤ (p + c).toInt := by
  have e1 : (1 : Int32).toInt = 1 := rfl
  have e144 : (144 : Int32).toInt = 144 := rfl
  obtain ⟨l0, u0⟩ := gin_iff.mp hc
  rw [Int32.lt_iff_toInt_lt] at l0 u0 h1
  have s : (p + c).toInt = p.toInt + c.toInt := by
    rw [Int32.toInt_add, Int.bmod_def]
    split <;> omega
  omega
-- ===== the machines: a chain stays a chain =====
def gdn (d : Nat → Nat) : Nat → Nat → Bool
  | 0, _ => false
  | s + 1, i => if d i = 4 then true else gdn d s (d i)
def ghn (d : Nat → Nat) (o : Nat) : Nat → Nat → Bool
  | 0, _ => false
  | s + 1, i => decide (i = o) || (if d i = 4 then false else ghn d o s (d i))
def gd4 (a b c e : Nat) (i : Nat) : Nat := if i = 0 then a else if i = 1 then b else if i = 2 then c else e
def gall4 (d : Nat → Nat) : Bool := gdn d 4 0 && gdn d 4 1 && gdn d 4 2 && gdn d 4 3
theorem gring0 : (List.range 5).all (fun a => (List.range 5).all fun b => (List.range 5).all fun c => (List.range 5).all fun e => !gall4 (gd4 a b c e) || (List.range 4).all fun x => gall4 (fun i => if i = x then 4 else gd4 a b c e i) && (List.range 4).all fun y => ghn (gd4 a b c e) x 4 y || gall4 (fun i => if i = x then y else gd4 a b c e i)) = true := by decide +kernel
theorem gring (a : Nat) (ha : a < 5) (b : Nat) (hb : b < 5) (c : Nat) (hc : c < 5) (e : Nat) (he : e < 5) (h : gall4 (gd4 a b c e) = true) (x : Nat) (hx : x < 4) : gall4 (fun i => if i = x then 4 else gd4 a b c e i) = true ∧ ∀ y, y < 4 → ghn (gd4 a b c e) x 4 y = false → gall4 (fun i => if i = x then y else gd4 a b c e i) = true := by
  have h1 := List.all_eq_true.mp gring0 a (List.mem_range.mpr ha)
  have h2 := List.all_eq_true.mp h1 b (List.mem_range.mpr hb)
  have h3 := List.all_eq_true.mp h2 c (List.mem_range.mpr hc)
  have h4 := List.all_eq_true.mp h3 e (List.mem_range.mpr he)
  rw [h, Bool.not_true, Bool.false_or] at h4
  have h5 := List.all_eq_true.mp h4 x (List.mem_range.mpr hx)
  rw [Bool.and_eq_true] at h5
  refine ⟨h5.1, fun y hy hg => ?_⟩
  have h6 := List.all_eq_true.mp h5.2 y (List.mem_range.mpr hy)
  rw [hg, Bool.false_or] at h6
  exact h6
/-- the driver of i; 4: none -/
def gcd (C : gG) (i : Nat) : Nat := if C.1 (3, 0, i) 1 = -1 then 4 else (C.1 (3, 0, i) 1).toNatClampNeg
theorem gcd_lt {C : gG} (h : ∀ i : Nat, C.1 (3, 0, i) 1 = -1 ∨ gix 4 (C.1 (3, 0, i) 1) = true) (i : Nat) : gcd C i < 5 ∧ (gcd C i = 4 ↔ C.1 (3, 0, i) 1 = -1) := by
  unfold gcd
  by_cases z : C.1 (3, 0, i) 1 = -1
  · rw [if_pos z]; exact ⟨by omega, fun _ => z, fun _ => rfl⟩
  · rw [if_neg z]
    have := gix_lt (by decide) ((h i).resolve_left z)
    exact ⟨by omega, fun q => by omega, fun q => absurd q z⟩
theorem gchn_n {C : gG} (h : ∀ i : Nat, C.1 (3, 0, i) 1 = -1 ∨ gix 4 (C.1 (3, 0, i) 1) = true) (s i : Nat) : gchn C s i = gdn (gcd C) s i := by
  induction s generalizing i with
  | zero => rfl
  | succ s ih =>
    unfold gchn gdn
    by_cases z : C.1 (3, 0, i) 1 = -1
    · rw [if_pos z, if_pos ((gcd_lt h i).2.mpr z)]
    · rw [if_neg z, if_neg (fun q => z ((gcd_lt h i).2.mp q)), ih]
      unfold gcd
      rw [if_neg z]
theorem ghang_n {C : gG} (h : ∀ i : Nat, C.1 (3, 0, i) 1 = -1 ∨ gix 4 (C.1 (3, 0, i) 1) = true) (o s i : Nat) : ghang C o s i = ghn (gcd C) o s i := by
  induction s generalizing i with
  | zero => rfl
  | succ s ih =>
    unfold ghang ghn
    by_cases z : C.1 (3, 0, i) 1 = -1
    · rw [if_pos z, if_pos ((gcd_lt h i).2.mpr z)]
    · rw [if_neg z, if_neg (fun q => z ((gcd_lt h i).2.mp q)), ih]
      unfold gcd
      rw [if_neg z]
theorem gdn_c {d d' : Nat → Nat} (h : ∀ i, i < 4 → d i = d' i) (h5 : ∀ i, d i < 5) (s : Nat) : ∀ i, i < 4 → gdn d s i = gdn d' s i := by
  induction s with
  | zero => intro i _; rfl
  | succ s ih =>
    intro i hi
    unfold gdn
    rw [← h i hi]
    by_cases z : d i = 4
    · rw [if_pos z, if_pos z]
    · rw [if_neg z, if_neg z]
      exact ih _ (by have := h5 i; omega)
theorem ghn_c {d d' : Nat → Nat} (o : Nat) (h : ∀ i, i < 4 → d i = d' i) (h5 : ∀ i, d i < 5) (s : Nat) : ∀ i, i < 4 → ghn d o s i = ghn d' o s i := by
  induction s with
  | zero => intro i _; rfl
  | succ s ih =>
    intro i hi
    unfold ghn
    rw [← h i hi]
    by_cases z : d i = 4
    · rw [if_pos z, if_pos z]
    · rw [if_neg z, if_neg z]
      rw [ih _ (by have := h5 i; omega)]
theorem gd4_e (d : Nat → Nat) : ∀ i, i < 4 → d i = gd4 (d 0) (d 1) (d 2) (d 3) i := by
  intro i hi
  unfold gd4
  obtain rfl | rfl | rfl | rfl : i = 0 ∨ i = 1 ∨ i = 2 ∨ i = 3 := by omega
  all_goals rfl
theorem gall4_i {d : Nat → Nat} : gall4 d = true ↔ ∀ i, i < 4 → gdn d 4 i = true := by
  unfold gall4
  rw [Bool.and_eq_true, Bool.and_eq_true, Bool.and_eq_true]
  refine ⟨fun h i hi => ?_, fun h => ⟨⟨⟨h 0 (by decide), h 1 (by decide)⟩, h 2 (by decide)⟩, h 3 (by decide)⟩⟩
  obtain rfl | rfl | rfl | rfl : i = 0 ∨ i = 1 ∨ i = 2 ∨ i = 3 := by omega
  · exact h.1.1.1
  · exact h.1.1.2
  · exact h.1.2
  · exact h.2
/-- a machine gets another driver -/
theorem gI2_belt {C : gG} (h : gI2 C) {x : Nat} (hx : x < 4) (v : Int32) (hv : v = -1 ∨ (gix 4 v = true ∧ ghang C x 4 v.toNatClampNeg = false)) : gI2 (gup C (3, 0, x) 1 v) := by
  have hd := h.1
  have hrow : ∀ i, (gup C (3, 0, x) 1 v).1 (3, 0, i) 1 = if i = x then v else C.1 (3, 0, i) 1 := fun i => by
    simp +decide only [gup_at, Prod.mk.injEq, true_and, and_true]
  have h0 : ∀ i, (gup C (3, 0, x) 1 v).1 (3, 0, i) 0 = C.1 (3, 0, i) 0 := fun i => by
    simp +decide only [gup_at, and_false, if_false]
  have hd' : ∀ i : Nat, (gup C (3, 0, x) 1 v).1 (3, 0, i) 1 = -1 ∨ gix 4 ((gup C (3, 0, x) 1 v).1 (3, 0, i) 1) = true := fun i => by
    rw [hrow]
    by_cases z : i = x
    · rw [if_pos z]; exact hv.imp id And.left
    · rw [if_neg z]; exact hd i
  refine ⟨hd', ?_, by simp +decide only [gup_at, Prod.mk.injEq, false_and, if_false]; exact h.2.2.1, fun i => by rw [h0]; exact h.2.2.2 i⟩
  have hall : gall4 (gd4 (gcd C 0) (gcd C 1) (gcd C 2) (gcd C 3)) = true := gall4_i.mpr (fun i hi => by
    rw [← gdn_c (gd4_e (gcd C)) (fun i => (gcd_lt hd i).1) 4 i hi, ← gchn_n hd]
    exact h.2.1 i hi)
  have R := gring _ (gcd_lt hd 0).1 _ (gcd_lt hd 1).1 _ (gcd_lt hd 2).1 _ (gcd_lt hd 3).1 hall x hx
  intro i hi
  rw [gchn_n hd']
  have key : ∀ y : Nat, gcd (gup C (3, 0, x) 1 v) x = y → gall4 (fun i => if i = x then y else gd4 (gcd C 0) (gcd C 1) (gcd C 2) (gcd C 3) i) = true → gdn (gcd (gup C (3, 0, x) 1 v)) 4 i = true := fun y hy hg => by
    rw [gdn_c (d' := fun i => if i = x then y else gd4 (gcd C 0) (gcd C 1) (gcd C 2) (gcd C 3) i) (fun j hj => ?_) (fun j => (gcd_lt hd' j).1) 4 i hi]
    · exact gall4_i.mp hg i hi
    · by_cases z : j = x
      · subst z; simp only [if_true]; exact hy
      · simp only [z, if_false]
        rw [← gd4_e (gcd C) j hj]
        unfold gcd
        rw [hrow, if_neg z]
  rcases hv with rfl | ⟨hv, hh⟩
  · exact key 4 (by unfold gcd; rw [hrow, if_pos rfl, if_pos rfl]) R.1
  · have hn : ¬ v = -1 := fun z => by rw [z] at hv; revert hv; decide
    refine key v.toNatClampNeg (by unfold gcd; rw [hrow, if_pos rfl, if_neg hn]) (R.2 _ (gix_lt (by decide) hv) ?_)
    rw [← ghn_c x (gd4_e (gcd C)) (fun i => (gcd_lt hd i).1) 4 _ (gix_lt (by decide) hv), ← ghang_n hd]
    exact hh

end Z37

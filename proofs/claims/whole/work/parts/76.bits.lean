/-! how many bits a long has -/
def rpM (u : Nat) : Nat → Nat
  | 0 => 0
  | k + 1 => 256 * rpM u k + u
def pc8 (b : Nat) : Nat := b % 2 + b / 2 % 2 + b / 4 % 2 + b / 8 % 2 + b / 16 % 2 + b / 32 % 2 + b / 64 % 2 + b / 128 % 2
def sumB : Nat → Nat → Nat
  | 0, _ => 0
  | k + 1, n => 256 * sumB k (n / 256) + pc8 (n % 256)
theorem and_split {a b : Nat} : a &&& b = 256 * (a / 256 &&& b / 256) + (a % 256 &&& b % 256) := by
  have h1 : (a &&& b) / 256 = a / 256 &&& b / 256 := Nat.and_div_two_pow (n := 8)
  have h2 : (a &&& b) % 256 = a % 256 &&& b % 256 := Nat.and_mod_two_pow (n := 8)
  rw [← h1, ← h2]; omega
theorem and_rp {a u k : Nat} (hu : u < 256) : a &&& rpM u (k + 1) = 256 * (a / 256 &&& rpM u k) + (a % 256 &&& u) := by
  rw [and_split]
  have e : rpM u (k + 1) = 256 * rpM u k + u := rfl
  rw [show rpM u (k + 1) / 256 = rpM u k by omega, show rpM u (k + 1) % 256 = u by omega]
def g1 (b : Nat) : Nat := b - (b / 2 &&& 85)
def g2 (b : Nat) : Nat := (b &&& 51) + (b / 4 &&& 51)
def G1 (k n : Nat) : Nat := n - (n / 2 &&& rpM 85 k)
def G2 (k n : Nat) : Nat := (n &&& rpM 51 k) + (n / 4 &&& rpM 51 k)
def G3 (k n : Nat) : Nat := (n + n / 16) &&& rpM 15 k
theorem m85 : ∀ x : Fin 128, (x.val + 128) &&& 85 = x.val &&& 85 := by decide +kernel
theorem m51 : ∀ x : Fin 64, ((x.val + 64) &&& 51 = x.val &&& 51) ∧ ((x.val + 128) &&& 51 = x.val &&& 51) ∧ ((x.val + 192) &&& 51 = x.val &&& 51) := by decide +kernel
theorem g_all : ∀ b : Fin 256, g1 b.val < 256 ∧ g2 (g1 b.val) < 256 ∧ g2 (g1 b.val) % 16 ≤ 4 ∧ g2 (g1 b.val) / 16 ≤ 4 ∧ (g2 (g1 b.val) + g2 (g1 b.val) / 16) % 16 = pc8 b.val := by decide +kernel
theorem G1_s (k n : Nat) : G1 (k + 1) n = 256 * G1 k (n / 256) + g1 (n % 256) := by
  unfold G1 g1
  rw [and_rp (by decide)]
  have h1 : n / 2 / 256 = n / 256 / 2 := by omega
  have h2 : n / 2 % 256 &&& 85 = n % 256 / 2 &&& 85 := by
    rcases (show n / 2 % 256 = n % 256 / 2 ∨ n / 2 % 256 = n % 256 / 2 + 128 by omega) with q | q
    · rw [q]
    · rw [q]; exact m85 ⟨n % 256 / 2, by omega⟩
  rw [h1, h2]
  have a1 : (n / 256 / 2 &&& rpM 85 k) ≤ n / 256 / 2 := Nat.and_le_left
  have a2 : (n % 256 / 2 &&& 85) ≤ n % 256 / 2 := Nat.and_le_left
  generalize (n / 256 / 2 &&& rpM 85 k) = x at *
  generalize (n % 256 / 2 &&& 85) = y at *
  omega
theorem G2_s (k n : Nat) : G2 (k + 1) n = 256 * G2 k (n / 256) + g2 (n % 256) := by
  unfold G2 g2
  rw [and_rp (by decide), and_rp (by decide)]
  have h1 : n / 4 / 256 = n / 256 / 4 := by omega
  have h2 : n / 4 % 256 &&& 51 = n % 256 / 4 &&& 51 := by
    have m := m51 ⟨n % 256 / 4, by omega⟩
    rcases (show n / 4 % 256 = n % 256 / 4 ∨ n / 4 % 256 = n % 256 / 4 + 64 ∨ n / 4 % 256 = n % 256 / 4 + 128 ∨ n / 4 % 256 = n % 256 / 4 + 192 by omega) with q | q | q | q
    · rw [q]
    · rw [q]; exact m.1
    · rw [q]; exact m.2.1
    · rw [q]; exact m.2.2
  rw [h1, h2]
  omega
theorem G3_s (k n : Nat) (h4 : n / 256 % 16 ≤ 4) (hb : n % 256 % 16 ≤ 4 ∧ n % 256 / 16 ≤ 4) : G3 (k + 1) n = 256 * G3 k (n / 256) + (n % 256 + n % 256 / 16) % 16 := by
  unfold G3
  rw [and_rp (by decide)]
  have h1 : (n + n / 16) / 256 = n / 256 + n / 256 / 16 := by omega
  have h2 : (n + n / 16) % 256 &&& 15 = (n % 256 + n % 256 / 16) % 16 := by
    rw [show (15 : Nat) = 2 ^ 4 - 1 from rfl, Nat.and_two_pow_sub_one_eq_mod]; omega
  rw [h1, h2]
theorem pop_k : ∀ (k n : Nat), n < 256 ^ k → G2 k (G1 k n) % 16 ≤ 4 ∧ G3 k (G2 k (G1 k n)) = sumB k n
  | 0, n, h => by
    have e : n = 0 := by simp at h; omega
    subst e; exact ⟨by decide, by decide⟩
  | k + 1, n, h => by
    have ih := pop_k k (n / 256) (by rw [Nat.pow_succ] at h; omega)
    have g := g_all ⟨n % 256, by omega⟩
    dsimp only at g
    rw [G1_s]
    have e2 : G2 (k + 1) (256 * G1 k (n / 256) + g1 (n % 256)) = 256 * G2 k (G1 k (n / 256)) + g2 (g1 (n % 256)) := by
      rw [G2_s, show (256 * G1 k (n / 256) + g1 (n % 256)) / 256 = G1 k (n / 256) by omega, show (256 * G1 k (n / 256) + g1 (n % 256)) % 256 = g1 (n % 256) by omega]
    rw [e2]
    have d : (256 * G2 k (G1 k (n / 256)) + g2 (g1 (n % 256))) / 256 = G2 k (G1 k (n / 256)) := by omega
    have m : (256 * G2 k (G1 k (n / 256)) + g2 (g1 (n % 256))) % 256 = g2 (g1 (n % 256)) := by omega
    refine ⟨by clear d m e2; have g4 := g.2.2.1; clear g ih; omega, ?_⟩
    rw [G3_s k _ (by rw [d]; exact ih.1) (by rw [m]; exact ⟨g.2.2.1, g.2.2.2.1⟩), d, m, ih.2, g.2.2.2.2]; rfl
theorem pc8_bd (b : Nat) : pc8 b ≤ 8 := by unfold pc8; omega
def byN (n : Nat) : Nat → Nat
  | 0 => n
  | i + 1 => byN n i / 256
def pcs8 (n : Nat) : Nat := pc8 (byN n 0 % 256) + pc8 (byN n 1 % 256) + pc8 (byN n 2 % 256) + pc8 (byN n 3 % 256) + pc8 (byN n 4 % 256) + pc8 (byN n 5 % 256) + pc8 (byN n 6 % 256) + pc8 (byN n 7 % 256)
theorem dm8 {x r q : Nat} (h : x = 256 * q + r) (hr : r < 256) : x / 256 = q := by omega
theorem dm16 {x y r a q : Nat} (h : x = 256 * y + r) (h1 : y = 256 * q + a) (hr : r < 256) (ha : a < 256) : x / 65536 = q := by omega
theorem dm32 {x x1 x2 x3 b0 b1 b2 b3 q : Nat} (h : x = 256 * x1 + b0) (h1 : x1 = 256 * x2 + b1) (h2 : x2 = 256 * x3 + b2) (h3 : x3 = 256 * q + b3) (e0 : b0 < 256) (e1 : b1 < 256) (e2 : b2 < 256) (e3 : b3 < 256) : x / 4294967296 = q := by
  have a1 : x / 65536 = x2 := dm16 h h1 e0 e1
  have a2 : x2 / 65536 = q := dm16 h2 h3 e2 e3
  rw [← a2, ← a1, Nat.div_div_eq_div_mul]
theorem add2 {x y x1 y1 r a : Nat} (h : x = 256 * x1 + r) (h1 : y = 256 * y1 + a) : x + y = 256 * (x1 + y1) + (r + a) := by omega
theorem m128 {x y x1 y1 r a : Nat} (h : x = 256 * x1 + r) (h1 : y = 256 * y1 + a) (hb : r + a < 128) : (x + y) % 128 = r + a := by omega
theorem fold_8 {s q1 q2 q3 q4 q5 q6 q7 p0 p1 p2 p3 p4 p5 p6 p7 : Nat} (h0 : s = 256 * q1 + p0) (h1 : q1 = 256 * q2 + p1) (h2 : q2 = 256 * q3 + p2) (h3 : q3 = 256 * q4 + p3) (h4' : q4 = 256 * q5 + p4) (h5' : q5 = 256 * q6 + p5) (h6' : q6 = 256 * q7 + p6) (h7 : q7 = 256 * 0 + p7) (b0 : p0 ≤ 8) (b1 : p1 ≤ 8) (b2 : p2 ≤ 8) (b3 : p3 ≤ 8) (b4 : p4 ≤ 8) (b5 : p5 ≤ 8) (b6 : p6 ≤ 8) (b7 : p7 ≤ 8) {x4 x5 x6 : Nat} (h4 : x4 = s + s / 256) (h5 : x5 = x4 + x4 / 65536) (h6 : x6 = x5 + x5 / 4294967296) : x6 % 128 = (p0 + p1 + (p2 + p3)) + (p4 + p5 + (p6 + p7)) := by
  have z : (0 : Nat) = 256 * 0 + 0 := rfl
  have y0 := add2 h0 h1
  have y1 := add2 h1 h2
  have y2 := add2 h2 h3
  have y3 := add2 h3 h4'
  have y4 := add2 h4' h5'
  have y5 := add2 h5' h6'
  have y6 := add2 h6' h7
  have y7 := add2 h7 z
  have c0 : p0 + p1 ≤ 16 := Nat.add_le_add b0 b1
  have c1 : p1 + p2 ≤ 16 := Nat.add_le_add b1 b2
  have c2 : p2 + p3 ≤ 16 := Nat.add_le_add b2 b3
  have c3 : p3 + p4 ≤ 16 := Nat.add_le_add b3 b4
  have c4 : p4 + p5 ≤ 16 := Nat.add_le_add b4 b5
  have c5 : p5 + p6 ≤ 16 := Nat.add_le_add b5 b6
  have c6 : p6 + p7 ≤ 16 := Nat.add_le_add b6 b7
  rw [dm8 h0 (Nat.lt_of_le_of_lt b0 (by decide))] at h4
  rw [h4, dm16 y0 y1 (Nat.lt_of_le_of_lt c0 (by decide)) (Nat.lt_of_le_of_lt c1 (by decide))] at h5
  have z0 := add2 y0 y2
  have z1 := add2 y1 y3
  have z2 := add2 y2 y4
  have z3 := add2 y3 y5
  have z4 := add2 y4 y6
  rw [h5, dm32 z0 z1 z2 z3 (Nat.lt_of_le_of_lt (Nat.add_le_add c0 c2) (by decide)) (Nat.lt_of_le_of_lt (Nat.add_le_add c1 c3) (by decide)) (Nat.lt_of_le_of_lt (Nat.add_le_add c2 c4) (by decide)) (Nat.lt_of_le_of_lt (Nat.add_le_add c3 c5) (by decide))] at h6
  rw [h6]
  exact m128 z0 z4 (Nat.lt_of_le_of_lt (Nat.add_le_add (Nat.add_le_add c0 c2) (Nat.add_le_add c4 c6)) (by decide))
theorem pop_64 {n x4 x5 x6 : Nat} (hn : n < 2 ^ 64) (h4 : x4 = G3 8 (G2 8 (G1 8 n)) + G3 8 (G2 8 (G1 8 n)) / 256) (h5 : x5 = x4 + x4 / 65536) (h6 : x6 = x5 + x5 / 4294967296) : x6 % 128 = pcs8 n := by
  have p := (pop_k 8 n hn).2
  rw [p] at h4
  have q := fold_8 (s := sumB 8 n) (q1 := sumB 7 (byN n 1)) (q2 := sumB 6 (byN n 2)) (q3 := sumB 5 (byN n 3)) (q4 := sumB 4 (byN n 4)) (q5 := sumB 3 (byN n 5)) (q6 := sumB 2 (byN n 6)) (q7 := sumB 1 (byN n 7)) (p0 := pc8 (byN n 0 % 256)) (p1 := pc8 (byN n 1 % 256)) (p2 := pc8 (byN n 2 % 256)) (p3 := pc8 (byN n 3 % 256)) (p4 := pc8 (byN n 4 % 256)) (p5 := pc8 (byN n 5 % 256)) (p6 := pc8 (byN n 6 % 256)) (p7 := pc8 (byN n 7 % 256)) rfl rfl rfl rfl rfl rfl rfl rfl (pc8_bd _) (pc8_bd _) (pc8_bd _) (pc8_bd _) (pc8_bd _) (pc8_bd _) (pc8_bd _) (pc8_bd _) h4 h5 h6
  rw [q]; unfold pcs8
  simp only [Nat.add_assoc]
theorem byN_eq (n : Nat) : ∀ i, byN n i = n / 256 ^ i
  | 0 => by show n = n / 1; omega
  | i + 1 => by show byN n i / 256 = _; rw [byN_eq n i, Nat.div_div_eq_div_mul, Nat.pow_succ]
theorem bit_n {x : Int} {n h : Nat} (e : iL x = lN n) (hn : n < 2 ^ 64) : bit x (h : Int) ↔ n / 2 ^ h % 2 = 1 := by
  unfold bit
  rw [e, Int.toNat_natCast, ← BitVec.testBit_toNat, wb_tn hn, Nat.testBit_eq_decide_div_mod_eq, decide_eq_true_eq]
theorem bit_by {n i j : Nat} (hj : j < 8) : n / 2 ^ (8 * i + j) % 2 = byN n i % 256 / 2 ^ j % 2 := by
  rw [byN_eq, Nat.pow_add, Nat.pow_mul, ← Nat.div_div_eq_div_mul]
  show n / 256 ^ i / 2 ^ j % 2 = n / 256 ^ i % 256 / 2 ^ j % 2
  generalize n / 256 ^ i = a
  rcases (show j = 0 ∨ j = 1 ∨ j = 2 ∨ j = 3 ∨ j = 4 ∨ j = 5 ∨ j = 6 ∨ j = 7 by omega) with q | q | q | q | q | q | q | q <;> subst q <;> simp only [Nat.reducePow] <;> omega
theorem cnt_s {P : Int → Prop} (m : Nat) {t : Nat} (h : P (m : Int) ↔ t = 1) (ht : t < 2) : cntP P (m + 1) = cntP P m + (t : Nat) := by
  show cntP P m + @ite Int (P m) (Classical.propDecidable _) 1 0 = _
  by_cases q : P m
  · rw [if_pos q, h.mp q]; rfl
  · have k1 : ¬ t = 1 := fun z => q (h.mpr z)
    have k0 : t = 0 := by omega
    rw [if_neg q, k0]; rfl
theorem cnt_8 {x : Int} {n i : Nat} (e : iL x = lN n) (hn : n < 2 ^ 64) : cntP (fun h => bit x h) (8 * i + 8) = cntP (fun h => bit x h) (8 * i) + (pc8 (byN n i % 256) : Nat) := by
  have s : ∀ j, j < 8 → cntP (fun h => bit x h) (8 * i + j + 1) = cntP (fun h => bit x h) (8 * i + j) + ((byN n i % 256 / 2 ^ j % 2 : Nat) : Int) := fun j hj =>
    cnt_s (8 * i + j) (by rw [← bit_by hj]; exact bit_n e hn) (Nat.mod_lt _ (by decide))
  have s0 := s 0 (by decide)
  have s1 := s 1 (by decide)
  have s2 := s 2 (by decide)
  have s3 := s 3 (by decide)
  have s4 := s 4 (by decide)
  have s5 := s 5 (by decide)
  have s6 := s 6 (by decide)
  have s7 := s 7 (by decide)
  simp only [Nat.reducePow, Nat.add_zero, Nat.div_one] at s0 s1 s2 s3 s4 s5 s6 s7
  simp only [Nat.add_assoc, Nat.reduceAdd] at s0 s1 s2 s3 s4 s5 s6 s7
  rw [s7, s6, s5, s4, s3, s2, s1, s0]
  unfold pc8
  omega
theorem cnt_64 {x : Int} {n : Nat} (e : iL x = lN n) (hn : n < 2 ^ 64) : cntP (fun h => bit x h) 64 = (pcs8 n : Nat) := by
  have s : ∀ i, cntP (fun h => bit x h) (8 * i + 8) = cntP (fun h => bit x h) (8 * i) + (pc8 (byN n i % 256) : Nat) := fun i => cnt_8 e hn
  have s0 := s 0
  have s1 := s 1
  have s2 := s 2
  have s3 := s 3
  have s4 := s 4
  have s5 := s 5
  have s6 := s 6
  have s7 := s 7
  simp only [Nat.reduceMul, Nat.reduceAdd] at s0 s1 s2 s3 s4 s5 s6 s7
  have z : cntP (fun h => bit x h) 0 = 0 := rfl
  unfold pcs8
  rw [s7, s6, s5, s4, s3, s2, s1, s0, z]
  omega
/-! the long's steps -/
theorem lsh {x a y : Int} {n : Nat} (k : Nat) (hx : iL x = lN n) (hn : n < 2 ^ 64) (hk : k < 64) (hy : y = (k : Int)) (e : a = ((iL x).toUInt64 >>> ((iI y).toInt64.toUInt64 &&& Int64.toUInt64 63)).toInt64.toInt) : iL a = lN (n / 2 ^ k) := by
  subst hy
  rw [e, iL_of, hx, iI_nI]; exact wb_shr hn hk
theorem lnd {x y v : Int} {a b : Nat} (hx : iL x = lN a) (hy : iL y = lN b) (ha : a < 2 ^ 64) (hb : b < 2 ^ 64) (e : v = (iL x &&& iL y).toInt) : iL v = lN (a &&& b) := by
  rw [e, iL_of, hx, hy]; exact wb_and ha hb
theorem lad {x y v : Int} {a b : Nat} (hx : iL x = lN a) (hy : iL y = lN b) (e : v = x + y) : iL v = lN (a + b) := by
  rw [e, ← iL_add, hx, hy]; exact lN_add a b
theorem lsb {x y v : Int} {a b : Nat} (hx : iL x = lN a) (hy : iL y = lN b) (hle : b ≤ a) (e : v = x - y) : iL v = lN (a - b) := by
  rw [e, ← iL_sub, hx, hy, ← iL_lN, ← iL_lN, ← iL_lN, iL_sub, Int.ofNat_sub hle]
theorem l2i127 {x a y v : Int} {n : Nat} (hx : iL x = lN n) (e : a = (iL x).toInt32.toInt) (hy : y = 127) (ev : v = (iI a &&& iI y).toInt) : v = (n % 128 : Nat) := by
  subst hy
  have h1 : iI a = iI (n : Int) := by
    rw [e, iI_of, hx, ← iL_lN]; exact Int64.toInt32_ofInt
  obtain ⟨w, ew, mw⟩ := iI_mod (n : Int)
  rw [ev, h1, ew, show iI 127 = nI 127 from iI_nI 127, nI_and (by omega) (by decide), show w &&& 127 = w % 128 from Nat.and_two_pow_sub_one_eq_mod w 7, nI_small (by omega)]
  omega

/-! ===== how many bits are set: the sums side by side ===== -/
def s1n (M n : Nat) : Nat := n - (n / 2 &&& M)
def s2n (M n : Nat) : Nat := (n &&& M) + (n / 4 &&& M)
def s3n (M n : Nat) : Nat := (n + n / 16) &&& M
/-- the bits below m -/
def cb (n : Nat) : Nat → Nat
  | 0 => 0
  | m + 1 => cb n m + n / 2 ^ m % 2
theorem and_sp {a a' y y' : Nat} (ha : a < 256) (ha' : a' < 256) : (a + 256 * y) &&& (a' + 256 * y') = (a &&& a') + 256 * (y &&& y') := by
  have h3 : a &&& a' < 256 := Nat.lt_of_le_of_lt Nat.and_le_left ha
  rw [show a + 256 * y = 2 ^ 8 * y + a by omega, show a' + 256 * y' = 2 ^ 8 * y' + a' by omega, show (a &&& a') + 256 * (y &&& y') = 2 ^ 8 * (y &&& y') + (a &&& a') by omega]
  apply Nat.eq_of_testBit_eq
  intro i
  rw [Nat.testBit_and, Nat.testBit_two_pow_mul_add _ ha, Nat.testBit_two_pow_mul_add _ ha', Nat.testBit_two_pow_mul_add _ h3]
  by_cases q : i < 8
  · simp [q]
  · simp [q]
theorem k1 : ∀ a : Fin 256, ∀ c : Fin 2, ((a.val / 2 + 128 * c.val) &&& 85) = (a.val / 2 &&& 85) := by decide +kernel
theorem k2 : ∀ a : Fin 256, ∀ c : Fin 4, ((a.val / 4 + 64 * c.val) &&& 51) = (a.val / 4 &&& 51) := by decide +kernel
theorem k3 : ∀ a : Fin 69, ∀ c : Fin 5, ((a.val + a.val / 16 + 16 * c.val) &&& 15) = ((a.val + a.val / 16) &&& 15) := by decide +kernel
theorem k4 : ∀ a : Fin 256, s1n 85 a.val < 256 ∧ s2n 51 (s1n 85 a.val) ≤ 68 ∧ s2n 51 (s1n 85 a.val) % 16 ≤ 4 ∧ s3n 15 (s2n 51 (s1n 85 a.val)) = cb a.val 8 ∧ cb a.val 8 ≤ 8 := by decide +kernel
theorem s1_st {a m M : Nat} (ha : a < 256) : s1n (85 + 256 * M) (a + 256 * m) = s1n 85 a + 256 * s1n M m := by
  unfold s1n
  have e : (a + 256 * m) / 2 = (a / 2 + 128 * (m % 2)) + 256 * (m / 2) := by omega
  rw [e, and_sp (by omega) (by omega), k1 ⟨a, ha⟩ ⟨m % 2, by omega⟩]
  have b1 : (a / 2 &&& 85) ≤ a / 2 := Nat.and_le_left
  have b2 : (m / 2 &&& M) ≤ m / 2 := Nat.and_le_left
  show a + 256 * m - ((a / 2 &&& 85) + 256 * (m / 2 &&& M)) = _
  omega
theorem s2_st {p q M : Nat} (hp : p < 256) : s2n (51 + 256 * M) (p + 256 * q) = s2n 51 p + 256 * s2n M q := by
  unfold s2n
  have e : (p + 256 * q) / 4 = (p / 4 + 64 * (q % 4)) + 256 * (q / 4) := by omega
  rw [e, and_sp hp (by omega), and_sp (by omega) (by omega), k2 ⟨p, hp⟩ ⟨q % 4, by omega⟩]
  show _ + ((p / 4 &&& 51) + 256 * (q / 4 &&& M)) = _
  omega
theorem s3_st {p q M : Nat} (hp : p ≤ 68) (hq : q % 16 ≤ 4) : s3n (15 + 256 * M) (p + 256 * q) = s3n 15 p + 256 * s3n M q := by
  unfold s3n
  have e : p + 256 * q + (p + 256 * q) / 16 = (p + p / 16 + 16 * (q % 16)) + 256 * (q + q / 16) := by omega
  rw [e, and_sp (by omega) (by omega), k3 ⟨p, by omega⟩ ⟨q % 16, by omega⟩]
def mkm (c : Nat) : Nat → Nat
  | 0 => 0
  | k + 1 => c + 256 * mkm c k
def vl (b : Nat → Nat) : Nat → Nat
  | 0 => 0
  | k + 1 => b 0 + 256 * vl (fun i => b (i + 1)) k
theorem tl (k : Nat) : ∀ b : Nat → Nat, (∀ i, b i < 256) → s3n (mkm 15 k) (s2n (mkm 51 k) (s1n (mkm 85 k) (vl b k))) = vl (fun i => cb (b i) 8) k ∧ s2n (mkm 51 k) (s1n (mkm 85 k) (vl b k)) % 16 ≤ 4 := by
  induction k with
  | zero => intro b _; exact ⟨Nat.and_zero _, by show ((_ &&& 0) + (_ &&& 0)) % 16 ≤ 4; rw [Nat.and_zero, Nat.and_zero]; decide⟩
  | succ k ih =>
    intro b hb
    obtain ⟨i1, i2⟩ := ih (fun i => b (i + 1)) (fun i => hb (i + 1))
    obtain ⟨q1, q2, q3, q4, _⟩ := k4 ⟨b 0, hb 0⟩
    have q1 : s1n 85 (b 0) < 256 := q1
    have q2 : s2n 51 (s1n 85 (b 0)) ≤ 68 := q2
    have q3 : s2n 51 (s1n 85 (b 0)) % 16 ≤ 4 := q3
    have q4 : s3n 15 (s2n 51 (s1n 85 (b 0))) = cb (b 0) 8 := q4
    show s3n (15 + 256 * mkm 15 k) (s2n (51 + 256 * mkm 51 k) (s1n (85 + 256 * mkm 85 k) (b 0 + 256 * vl (fun i => b (i + 1)) k))) = cb (b 0) 8 + 256 * vl (fun i => cb (b (i + 1)) 8) k ∧ s2n (51 + 256 * mkm 51 k) (s1n (85 + 256 * mkm 85 k) (b 0 + 256 * vl (fun i => b (i + 1)) k)) % 16 ≤ 4
    rw [s1_st (hb 0), s2_st q1, s3_st q2 i2, i1, q4]
    exact ⟨rfl, by omega⟩
theorem vl_of (k : Nat) : ∀ n : Nat, vl (fun i => n / 256 ^ i % 256) k = n % 256 ^ k := by
  induction k with
  | zero => intro n; rw [Nat.pow_zero, Nat.mod_one]; rfl
  | succ k ih =>
    intro n
    have e : (fun i => n / 256 ^ (i + 1) % 256) = fun i => (n / 256) / 256 ^ i % 256 := by
      funext i
      rw [Nat.pow_succ, Nat.mul_comm, Nat.div_div_eq_div_mul]
    show n / 256 ^ 0 % 256 + 256 * vl (fun i => n / 256 ^ (i + 1) % 256) k = _
    rw [e, ih, Nat.pow_zero, Nat.div_one, Nat.pow_succ, Nat.mul_comm (256 ^ k) 256, Nat.mod_mul]
theorem cb_add (n m : Nat) : cb n (8 + m) = cb n 8 + cb (n / 256) m := by
  induction m with
  | zero => rfl
  | succ m ih =>
    show cb n (8 + m) + n / 2 ^ (8 + m) % 2 = cb n 8 + (cb (n / 256) m + n / 256 / 2 ^ m % 2)
    have e : n / 2 ^ (8 + m) = n / 256 / 2 ^ m := by
      rw [Nat.pow_add, ← Nat.div_div_eq_div_mul]
    rw [ih, e]
    omega
theorem cb_mod (n : Nat) : cb n 8 = cb (n % 256) 8 := by
  unfold cb
  simp only [cb]
  omega
def sg (b : Nat → Nat) : Nat → Nat
  | 0 => 0
  | k + 1 => b 0 + sg (fun i => b (i + 1)) k
theorem cb_sg (k : Nat) : ∀ n : Nat, cb n (8 * k) = sg (fun i => cb (n / 256 ^ i % 256) 8) k := by
  induction k with
  | zero => intro n; rfl
  | succ k ih =>
    intro n
    have e : (fun i => cb (n / 256 ^ (i + 1) % 256) 8) = fun i => cb ((n / 256) / 256 ^ i % 256) 8 := by
      funext i
      rw [Nat.pow_succ, Nat.mul_comm, Nat.div_div_eq_div_mul]
    show _ = cb (n / 256 ^ 0 % 256) 8 + sg (fun i => cb (n / 256 ^ (i + 1) % 256) 8) k
    rw [e, ← ih, Nat.pow_zero, Nat.div_one, ← cb_mod, show 8 * (k + 1) = 8 + 8 * k by omega, cb_add]
theorem dvq {l y : Nat} (K : Nat) (h : l < K) : (l + K * y) / K = y := by
  rw [Nat.add_mul_div_left _ _ (by omega), Nat.div_eq_of_lt h, Nat.zero_add]
theorem fA (g0 g1 g2 y2 y3 : Nat) : (g0 + 256 * (g1 + 256 * y2)) + (g1 + 256 * (g2 + 256 * y3)) = (g0 + 256 * g1 + (g1 + 256 * g2)) + 65536 * (y2 + y3) := by omega
theorem fB (g0 g1 g2 g3 g4 g5 g6 y4 y5 y6 y7 : Nat) : (g0 + 256 * (g1 + 256 * (g2 + 256 * (g3 + 256 * y4)))) + (g1 + 256 * (g2 + 256 * (g3 + 256 * (g4 + 256 * y5)))) + (g2 + 256 * (g3 + 256 * (g4 + 256 * (g5 + 256 * y6)))) + (g3 + 256 * (g4 + 256 * (g5 + 256 * (g6 + 256 * y7)))) = ((g0 + 256 * (g1 + 256 * (g2 + 256 * g3))) + (g1 + 256 * (g2 + 256 * (g3 + 256 * g4))) + (g2 + 256 * (g3 + 256 * (g4 + 256 * g5))) + (g3 + 256 * (g4 + 256 * (g5 + 256 * g6)))) + 4294967296 * (y4 + y5 + y6 + y7) := by omega
theorem fC {G Z : Nat} (h : G ≤ 64) : (G + 256 * Z) % 128 = G := by omega
theorem fL {g0 g1 g2 g3 g4 g5 g6 : Nat} (h0 : g0 ≤ 8) (h1 : g1 ≤ 8) (h2 : g2 ≤ 8) (h3 : g3 ≤ 8) (h4 : g4 ≤ 8) (h5 : g5 ≤ 8) (h6 : g6 ≤ 8) : (g0 + 256 * (g1 + 256 * (g2 + 256 * g3))) + (g1 + 256 * (g2 + 256 * (g3 + 256 * g4))) + (g2 + 256 * (g3 + 256 * (g4 + 256 * g5))) + (g3 + 256 * (g4 + 256 * (g5 + 256 * g6))) < 4294967296 := by omega
theorem fS (g0 g1 g2 g3 g4 g5 g6 g7 y1 y2 y3 y4 y5 y6 : Nat) : (g0 + 256 * y1) + (g1 + 256 * y2) + (g2 + 256 * y3) + (g3 + 256 * y4) + ((g4 + 256 * y5) + (g5 + 256 * y6) + (g6 + 256 * g7) + g7) = (g0 + (g1 + (g2 + (g3 + (g4 + (g5 + (g6 + g7))))))) + 256 * (y1 + y2 + y3 + y4 + y5 + y6 + g7) := by omega
theorem fM {g0 g1 g2 : Nat} (h0 : g0 ≤ 8) (h1 : g1 ≤ 8) (h2 : g2 ≤ 8) : g0 + 256 * g1 + (g1 + 256 * g2) < 65536 := by omega
theorem fG {g0 g1 g2 g3 g4 g5 g6 g7 : Nat} (h0 : g0 ≤ 8) (h1 : g1 ≤ 8) (h2 : g2 ≤ 8) (h3 : g3 ≤ 8) (h4 : g4 ≤ 8) (h5 : g5 ≤ 8) (h6 : g6 ≤ 8) (h7 : g7 ≤ 8) : g0 + (g1 + (g2 + (g3 + (g4 + (g5 + (g6 + g7)))))) ≤ 64 := by omega
theorem fin8 {g0 g1 g2 g3 g4 g5 g6 g7 : Nat} (h0 : g0 ≤ 8) (h1 : g1 ≤ 8) (h2 : g2 ≤ 8) (h3 : g3 ≤ 8) (h4 : g4 ≤ 8) (h5 : g5 ≤ 8) (h6 : g6 ≤ 8) (h7 : g7 ≤ 8) {x a b c : Nat} (hx : x = (g0 + 256 * (g1 + 256 * (g2 + 256 * (g3 + 256 * (g4 + 256 * (g5 + 256 * (g6 + 256 * g7)))))))) (ha : a = x + x / 256) (hb : b = a + a / 65536) (hc : c = b + b / 4294967296) : c % 128 = g0 + (g1 + (g2 + (g3 + (g4 + (g5 + (g6 + g7)))))) := by
  have d1 : x / 256 = (g1 + 256 * (g2 + 256 * (g3 + 256 * (g4 + 256 * (g5 + 256 * (g6 + 256 * g7)))))) := by rw [hx]; exact dvq 256 (Nat.lt_of_le_of_lt h0 (by decide))
  have ha2 : a = (g0 + 256 * g1 + (g1 + 256 * g2)) + 65536 * ((g2 + 256 * (g3 + 256 * (g4 + 256 * (g5 + 256 * (g6 + 256 * g7))))) + (g3 + 256 * (g4 + 256 * (g5 + 256 * (g6 + 256 * g7))))) := by
    rw [ha, d1, hx]; exact fA g0 g1 g2 (g2 + 256 * (g3 + 256 * (g4 + 256 * (g5 + 256 * (g6 + 256 * g7))))) (g3 + 256 * (g4 + 256 * (g5 + 256 * (g6 + 256 * g7))))
  have d2 : a / 65536 = (g2 + 256 * (g3 + 256 * (g4 + 256 * (g5 + 256 * (g6 + 256 * g7))))) + (g3 + 256 * (g4 + 256 * (g5 + 256 * (g6 + 256 * g7)))) := by
    rw [ha2]
    exact dvq 65536 (fM h0 h1 h2)
  have hb2 : b = (g0 + 256 * (g1 + 256 * (g2 + 256 * (g3 + 256 * (g4 + 256 * (g5 + 256 * (g6 + 256 * g7))))))) + (g1 + 256 * (g2 + 256 * (g3 + 256 * (g4 + 256 * (g5 + 256 * (g6 + 256 * g7)))))) + (g2 + 256 * (g3 + 256 * (g4 + 256 * (g5 + 256 * (g6 + 256 * g7))))) + (g3 + 256 * (g4 + 256 * (g5 + 256 * (g6 + 256 * g7)))) := by
    rw [hb, d2, ha, d1, hx]; exact (Nat.add_assoc _ _ _).symm
  have hb3 := hb2.trans (fB g0 g1 g2 g3 g4 g5 g6 (g4 + 256 * (g5 + 256 * (g6 + 256 * g7))) (g5 + 256 * (g6 + 256 * g7)) (g6 + 256 * g7) g7)
  have d3 : b / 4294967296 = (g4 + 256 * (g5 + 256 * (g6 + 256 * g7))) + (g5 + 256 * (g6 + 256 * g7)) + (g6 + 256 * g7) + g7 := by
    rw [hb3]
    exact dvq 4294967296 (fL h0 h1 h2 h3 h4 h5 h6)
  rw [hc, d3, hb2, fS g0 g1 g2 g3 g4 g5 g6 g7 (g1 + 256 * (g2 + 256 * (g3 + 256 * (g4 + 256 * (g5 + 256 * (g6 + 256 * g7)))))) (g2 + 256 * (g3 + 256 * (g4 + 256 * (g5 + 256 * (g6 + 256 * g7))))) (g3 + 256 * (g4 + 256 * (g5 + 256 * (g6 + 256 * g7)))) (g4 + 256 * (g5 + 256 * (g6 + 256 * g7))) (g5 + 256 * (g6 + 256 * g7)) (g6 + 256 * g7)]
  exact fC (fG h0 h1 h2 h3 h4 h5 h6 h7)
theorem vl8 (b : Nat → Nat) : vl b 8 = b 0 + 256 * (b 1 + 256 * (b 2 + 256 * (b 3 + 256 * (b 4 + 256 * (b 5 + 256 * (b 6 + 256 * b 7)))))) := rfl
theorem sg8 (b : Nat → Nat) : sg b 8 = b 0 + (b 1 + (b 2 + (b 3 + (b 4 + (b 5 + (b 6 + b 7)))))) := rfl
theorem big8 {g0 g1 g2 g3 g4 g5 g6 g7 : Nat} (h0 : g0 ≤ 8) (h1 : g1 ≤ 8) (h2 : g2 ≤ 8) (h3 : g3 ≤ 8) (h4 : g4 ≤ 8) (h5 : g5 ≤ 8) (h6 : g6 ≤ 8) (h7 : g7 ≤ 8) : (g0 + 256 * (g1 + 256 * (g2 + 256 * (g3 + 256 * (g4 + 256 * (g5 + 256 * (g6 + 256 * g7))))))) < 2 ^ 60 := by omega
theorem popc {n x a b c : Nat} (hn : n < 2 ^ 64) (hx : x = s3n (mkm 15 8) (s2n (mkm 51 8) (s1n (mkm 85 8) n))) (ha : a = x + x / 256) (hb : b = a + a / 65536) (hc : c = b + b / 4294967296) : c % 128 = cb n 64 ∧ x < 2 ^ 60 := by
  have e1 := vl_of 8 n
  rw [show (256 : Nat) ^ 8 = 2 ^ 64 by decide, Nat.mod_eq_of_lt hn] at e1
  have e2 := (tl 8 (fun i => n / 256 ^ i % 256) (fun i => Nat.mod_lt _ (by omega))).1
  rw [e1, ← hx, vl8] at e2
  have e3 := cb_sg 8 n
  rw [sg8] at e3
  have bd : ∀ i : Nat, cb (n / 256 ^ i % 256) 8 ≤ 8 := fun i => (k4 ⟨n / 256 ^ i % 256, Nat.mod_lt _ (by omega)⟩).2.2.2.2
  refine ⟨(fin8 (bd 0) (bd 1) (bd 2) (bd 3) (bd 4) (bd 5) (bd 6) (bd 7) e2 ha hb hc).trans e3.symm, ?_⟩
  rw [e2]
  exact big8 (bd 0) (bd 1) (bd 2) (bd 3) (bd 4) (bd 5) (bd 6) (bd 7)

/-! bitCount: how many of the first 24 bits are set -/
theorem pc_and {k a r m s : Nat} (hr : r < 2 ^ k) (hs : s < 2 ^ k) : (2 ^ k * a + r) &&& (2 ^ k * m + s) = 2 ^ k * (a &&& m) + (r &&& s) := by
  have hrs : r &&& s < 2 ^ k := Nat.lt_of_le_of_lt Nat.and_le_left hr
  apply Nat.eq_of_testBit_eq
  intro j
  rw [Nat.testBit_and, Nat.testBit_two_pow_mul_add _ hr, Nat.testBit_two_pow_mul_add _ hs, Nat.testBit_two_pow_mul_add _ hrs]
  by_cases q : j < k
  · rw [if_pos q, if_pos q, if_pos q, Nat.testBit_and]
  · rw [if_neg q, if_neg q, if_neg q, Nat.testBit_and]
theorem pc_and3 {a b c x y z : Nat} (hb : b < 256) (hc : c < 256) (hy : y < 256) (hz : z < 256) : (65536 * a + 256 * b + c) &&& (65536 * x + 256 * y + z) = 65536 * (a &&& x) + 256 * (b &&& y) + (c &&& z) := by
  have h1 := pc_and (k := 8) (a := 256 * a + b) (r := c) (m := 256 * x + y) (s := z) hc hz
  have h2 := pc_and (k := 8) (a := a) (r := b) (m := x) (s := y) hb hy
  simp only [show 2 ^ 8 = 256 from rfl] at h1 h2
  rw [show 65536 * a + 256 * b + c = 256 * (256 * a + b) + c by omega, show 65536 * x + 256 * y + z = 256 * (256 * x + y) + z by omega, h1, h2]
  omega
def pc_1 (b : Nat) : Nat := b - (b / 2 &&& 85)
def pc_2 (b : Nat) : Nat := (pc_1 b &&& 51) + (pc_1 b / 4 &&& 51)
def pc_3 (b : Nat) : Nat := (pc_2 b + pc_2 b / 16) &&& 15
def pc_n (p : Nat → Bool) : Nat → Nat
  | 0 => 0
  | n + 1 => pc_n p n + (p n).toNat
theorem pc_tab : ∀ b : Fin 256, (b.val / 2 &&& 85) ≤ b.val ∧ pc_1 b.val < 256 ∧ pc_2 b.val ≤ 68 ∧ pc_3 b.val = pc_n (fun k => b.val.testBit k) 8 ∧ pc_3 b.val ≤ 8 ∧ pc_2 b.val % 16 ≤ 4 := by decide +kernel
theorem pc_hi1 : ∀ e : Fin 2, ∀ q : Fin 128, (e.val * 128 + q.val) &&& 85 = (q.val &&& 85) := by decide +kernel
theorem pc_hi2 : ∀ e : Fin 4, ∀ q : Fin 64, (e.val * 64 + q.val) &&& 51 = (q.val &&& 51) := by decide +kernel
theorem pc_hi3 : ∀ e : Fin 16, ∀ q : Fin 80, (e.val * 16 + q.val) &&& 15 = (q.val &&& 15) := by decide +kernel
theorem pc_z : ∀ q : Fin 256, ∀ m : Fin 1, (q.val &&& m.val) = 0 := by decide +kernel
section PC
variable {a b c : Nat} (ha : a < 256) (hb : b < 256) (hc : c < 256)
theorem pc_s1 (ha : a < 256) (hb : b < 256) (hc : c < 256) : (65536 * a + 256 * b + c) - ((65536 * a + 256 * b + c) / 2 &&& 1431655765) = 65536 * pc_1 a + 256 * pc_1 b + pc_1 c := by
  have e : (65536 * a + 256 * b + c) / 2 = 65536 * (a / 2) + 256 * (a % 2 * 128 + b / 2) + (b % 2 * 128 + c / 2) := by omega
  have hm : (1431655765 : Nat) = 65536 * 21845 + 256 * 85 + 85 := rfl
  rw [e, hm, pc_and3 (by omega) (by omega) (by omega) (by omega)]
  have h2 : a / 2 &&& 21845 = (a / 2 &&& 85) := by
    have := pc_and (k := 8) (a := 0) (r := a / 2) (m := 85) (s := 85) (by omega) (by omega)
    simp only [show 2 ^ 8 = 256 from rfl] at this
    rw [show 256 * 85 + 85 = 21845 from rfl, Nat.mul_zero, Nat.zero_add, Nat.zero_and, Nat.mul_zero, Nat.zero_add] at this
    exact this
  have h3 := pc_hi1 ⟨a % 2, by omega⟩ ⟨b / 2, by omega⟩
  have h4 := pc_hi1 ⟨b % 2, by omega⟩ ⟨c / 2, by omega⟩
  dsimp only at h3 h4
  rw [h2, h3, h4]
  have t1 := (pc_tab ⟨a, ha⟩).1
  have t2 := (pc_tab ⟨b, hb⟩).1
  have t3 := (pc_tab ⟨c, hc⟩).1
  dsimp only at t1 t2 t3
  unfold pc_1
  omega
theorem pc_m51 {x : Nat} (hx : x < 256) : x &&& 13107 = (x &&& 51) := by
  have := pc_and (k := 8) (a := 0) (r := x) (m := 51) (s := 51) (by omega) (by omega)
  simp only [show 2 ^ 8 = 256 from rfl] at this
  rw [show 256 * 51 + 51 = 13107 from rfl, Nat.mul_zero, Nat.zero_add, Nat.zero_and, Nat.mul_zero, Nat.zero_add] at this
  exact this
theorem pc_s2 {x y z : Nat} (hx : x < 256) (hy : y < 256) (hz : z < 256) : ((65536 * x + 256 * y + z) &&& 858993459) + ((65536 * x + 256 * y + z) / 4 &&& 858993459) = 65536 * ((x &&& 51) + (x / 4 &&& 51)) + 256 * ((y &&& 51) + (y / 4 &&& 51)) + ((z &&& 51) + (z / 4 &&& 51)) := by
  have e : (65536 * x + 256 * y + z) / 4 = 65536 * (x / 4) + 256 * (x % 4 * 64 + y / 4) + (y % 4 * 64 + z / 4) := by omega
  have hm : (858993459 : Nat) = 65536 * 13107 + 256 * 51 + 51 := rfl
  rw [e, hm, pc_and3 (by omega) (by omega) (by omega) (by omega), pc_and3 (by omega) (by omega) (by omega) (by omega), pc_m51 hx, pc_m51 (by omega)]
  have h3 := pc_hi2 ⟨x % 4, by omega⟩ ⟨y / 4, by omega⟩
  have h4 := pc_hi2 ⟨y % 4, by omega⟩ ⟨z / 4, by omega⟩
  dsimp only at h3 h4
  rw [h3, h4]
  omega
theorem pc_s3 {x y z : Nat} (hx : x ≤ 68) (hy : y ≤ 68) (hz : z ≤ 68) (hx4 : x % 16 ≤ 4) (hy4 : y % 16 ≤ 4) : ((65536 * x + 256 * y + z) + (65536 * x + 256 * y + z) / 16) &&& 252645135 = 65536 * ((x + x / 16) &&& 15) + 256 * ((y + y / 16) &&& 15) + ((z + z / 16) &&& 15) := by
  have e : (65536 * x + 256 * y + z) + (65536 * x + 256 * y + z) / 16 = 65536 * (x + x / 16) + 256 * (x % 16 * 16 + (y + y / 16)) + (y % 16 * 16 + (z + z / 16)) := by omega
  have hm : (252645135 : Nat) = 65536 * 3855 + 256 * 15 + 15 := rfl
  rw [e, hm, pc_and3 (by omega) (by omega) (by omega) (by omega)]
  have h2 : (x + x / 16) &&& 3855 = ((x + x / 16) &&& 15) := by
    have := pc_and (k := 8) (a := 0) (r := x + x / 16) (m := 15) (s := 15) (by omega) (by omega)
    simp only [show 2 ^ 8 = 256 from rfl] at this
    rw [show 256 * 15 + 15 = 3855 from rfl, Nat.mul_zero, Nat.zero_add, Nat.zero_and, Nat.mul_zero, Nat.zero_add] at this
    exact this
  have h3 := pc_hi3 ⟨x % 16, by omega⟩ ⟨y + y / 16, by omega⟩
  have h4 := pc_hi3 ⟨y % 16, by omega⟩ ⟨z + z / 16, by omega⟩
  dsimp only at h3 h4
  rw [h2, h3, h4]
end PC
theorem pc_nand {a b : Nat} (ha : a < 2 ^ 31) (hb : b < 2 ^ 31) : nI a &&& nI b = nI (a &&& b) := by
  apply Int32.toBitVec_inj.mp
  apply BitVec.eq_of_toNat_eq
  have h : a &&& b < 2 ^ 32 := Nat.lt_of_le_of_lt Nat.and_le_left (by omega)
  rw [Int32.toBitVec_and, BitVec.toNat_and, pk_tn (by omega), pk_tn (by omega), pk_tn h]
theorem pc_shr {a : Nat} (ha : a < 2 ^ 31) : ∀ k : Nat, k < 32 → ((nI a).toUInt32 >>> ((nI k).toUInt32 &&& Int32.toUInt32 31)).toInt32 = nI (a / 2 ^ k) := by
  intro k hk
  apply Int32.toBitVec_inj.mp
  apply BitVec.eq_of_toNat_eq
  have hd : a / 2 ^ k < 2 ^ 32 := Nat.lt_of_le_of_lt (Nat.div_le_self _ _) (by omega)
  rw [pk_tn hd]
  have e : ((nI k).toUInt32 &&& Int32.toUInt32 31).toNat = k := (by decide +kernel : ∀ k : Fin 32, ((nI k.val).toUInt32 &&& Int32.toUInt32 31).toNat = k.val) ⟨k, hk⟩
  have e2 : (nI a).toUInt32.toNat = a := pk_tn (by omega)
  show ((nI a).toUInt32 >>> ((nI k).toUInt32 &&& Int32.toUInt32 31)).toNat = _
  rw [UInt32.toNat_shiftRight, e, e2, Nat.mod_eq_of_lt hk, Nat.shiftRight_eq_div_pow]
/-- bitCount over a number below 2^24 -/
theorem cz_bc_n {a b c : Nat} (ha : a < 256) (hb : b < 256) (hc : c < 256) : cz_bc (nI (65536 * a + 256 * b + c)) = nI (pc_3 a + pc_3 b + pc_3 c) := by
  obtain ⟨-, a1, a2, -, a3, a4⟩ := pc_tab ⟨a, ha⟩
  obtain ⟨-, b1, b2, -, b3, b4⟩ := pc_tab ⟨b, hb⟩
  obtain ⟨-, c1, c2, -, c3, c4⟩ := pc_tab ⟨c, hc⟩
  dsimp only at a1 a2 a3 a4 b1 b2 b3 b4 c1 c2 c3 c4
  have s1 := pc_s1 ha hb hc
  have s2 := pc_s2 a1 b1 c1
  have s3 := pc_s3 a2 b2 c2 a4 b4
  have e1 : cz_b1 (nI (65536 * a + 256 * b + c)) = nI (65536 * pc_1 a + 256 * pc_1 b + pc_1 c) := by
    unfold cz_b1
    rw [pc_shr (by omega) 1 (by omega), show (1431655765 : Int32) = nI 1431655765 from rfl, pc_nand (by omega) (by omega), pk_sub (Nat.le_trans Nat.and_le_left (by omega)), show (2 : Nat) ^ 1 = 2 from rfl, s1]
  have e2 : cz_b2 (nI (65536 * pc_1 a + 256 * pc_1 b + pc_1 c)) = nI (65536 * pc_2 a + 256 * pc_2 b + pc_2 c) := by
    unfold cz_b2
    rw [pc_shr (by omega) 2 (by omega), show (858993459 : Int32) = nI 858993459 from rfl, pc_nand (by omega) (by omega), pc_nand (by omega) (by omega), nI_add, show (2 : Nat) ^ 2 = 4 from rfl, s2]
    rfl
  have e3 : cz_b3 (nI (65536 * pc_2 a + 256 * pc_2 b + pc_2 c)) = nI (65536 * pc_3 a + 256 * pc_3 b + pc_3 c) := by
    unfold cz_b3
    rw [pc_shr (by omega) 4 (by omega), show (252645135 : Int32) = nI 252645135 from rfl, nI_add, pc_nand (by omega) (by omega), show (2 : Nat) ^ 4 = 16 from rfl, s3]
    rfl
  unfold cz_bc
  rw [e1, e2, e3]
  have e4 : cz_b4 (nI (65536 * pc_3 a + 256 * pc_3 b + pc_3 c)) = nI (65536 * pc_3 a + 256 * (pc_3 a + pc_3 b) + (pc_3 b + pc_3 c)) := by
    unfold cz_b4
    rw [pc_shr (by omega) 8 (by omega), nI_add, show (2 : Nat) ^ 8 = 256 from rfl]
    exact congrArg nI (by omega)
  have e5 : cz_b5 (nI (65536 * pc_3 a + 256 * (pc_3 a + pc_3 b) + (pc_3 b + pc_3 c))) = nI (65536 * pc_3 a + 256 * (pc_3 a + pc_3 b) + (pc_3 a + pc_3 b + pc_3 c)) := by
    unfold cz_b5
    rw [pc_shr (by omega) 16 (by omega), nI_add, show (2 : Nat) ^ 16 = 65536 from rfl]
    exact congrArg nI (by omega)
  rw [e4, e5, pk_and _ 6 (by decide), pk_tn (by omega)]
  exact congrArg nI (by omega)
theorem pc_n_c {p q : Nat → Bool} : ∀ n, (∀ k, k < n → p k = q k) → pc_n p n = pc_n q n
  | 0, _ => rfl
  | n + 1, h => by
    unfold pc_n
    rw [pc_n_c n (fun k hk => h k (by omega)), h n (by omega)]
theorem pc_n_add {p : Nat → Bool} {m : Nat} : ∀ n, pc_n p (m + n) = pc_n p m + pc_n (fun k => p (m + k)) n
  | 0 => rfl
  | n + 1 => by
    show pc_n p (m + n) + (p (m + n)).toNat = pc_n p m + (pc_n (fun k => p (m + k)) n + (p (m + n)).toNat)
    rw [pc_n_add n]
    omega
/-- how many of the first 24 bits are set, where no other is -/
theorem cz_bc_e {x : Int32} (h : bg_lo 24 x) : cz_bc x = nI (pc_n (fun k => bg_t x k) 24) := by
  have hlt : x.toBitVec.toNat < 2 ^ 24 := by
    apply Nat.lt_pow_two_of_testBit
    intro i hi
    cases hb : x.toBitVec.toNat.testBit i with
    | false => rfl
    | true =>
      have : i < 24 := h i hb
      omega
  obtain ⟨N, hN⟩ : ∃ N, N = x.toBitVec.toNat := ⟨_, rfl⟩
  have ex : x = nI N := by
    apply Int32.toBitVec_inj.mp
    apply BitVec.eq_of_toNat_eq
    rw [pk_tn (by omega), hN]
  have ebit : ∀ k, bg_t x k = N.testBit k := fun k => by rw [hN]; rfl
  have hN24 : N < 2 ^ 24 := by rw [hN]; exact hlt
  have eN : N = 65536 * (N / 65536) + 256 * (N / 256 % 256) + N % 256 := by omega
  have t2 := (pc_tab ⟨N / 65536, by omega⟩).2.2.2.1
  have t1 := (pc_tab ⟨N / 256 % 256, by omega⟩).2.2.2.1
  have t0 := (pc_tab ⟨N % 256, by omega⟩).2.2.2.1
  dsimp only at t0 t1 t2
  have hb := cz_bc_n (a := N / 65536) (b := N / 256 % 256) (c := N % 256) (by omega) (by omega) (by omega)
  rw [← eN, ← ex] at hb
  rw [hb, t0, t1, t2, show (24 : Nat) = 8 + 8 + 8 from rfl, pc_n_add, pc_n_add]
  have k0 : pc_n (fun k => bg_t x k) 8 = pc_n (fun k => (N % 256).testBit k) 8 := pc_n_c 8 fun k hk => by
    rw [ebit, show (256 : Nat) = 2 ^ 8 from rfl, Nat.testBit_mod_two_pow]; simp [hk]
  have k1 : pc_n (fun k => (fun k => bg_t x k) (8 + k)) 8 = pc_n (fun k => (N / 256 % 256).testBit k) 8 := pc_n_c 8 fun k hk => by
    show bg_t x (8 + k) = _
    rw [ebit, show N / 256 % 256 = (N / 2 ^ 8) % 2 ^ 8 from rfl, Nat.testBit_mod_two_pow, Nat.testBit_div_two_pow]; simp [hk, Nat.add_comm]
  have k2 : pc_n (fun k => (fun k => bg_t x k) (8 + 8 + k)) 8 = pc_n (fun k => (N / 65536).testBit k) 8 := pc_n_c 8 fun k hk => by
    show bg_t x (8 + 8 + k) = _
    rw [ebit, show N / 65536 = N / 2 ^ 16 from rfl, Nat.testBit_div_two_pow]; simp [Nat.add_comm]
  rw [k0, k1, k2]
  exact congrArg nI (by omega)

/-! ===== 44.popcount ===== -/
/-! ===== how many bits a long has ===== -/
theorem nat_and_split (n m : Nat) : n &&& m = 256 * ((n / 256) &&& (m / 256)) + ((n % 256) &&& (m % 256)) := by
  have h1 : (n &&& m) / 2 ^ 8 = (n / 2 ^ 8) &&& (m / 2 ^ 8) := Nat.and_div_two_pow
  have h2 : (n &&& m) % 2 ^ 8 = (n % 2 ^ 8) &&& (m % 2 ^ 8) := Nat.and_mod_two_pow
  have := Nat.div_add_mod (n &&& m) (2 ^ 8)
  rw [h1, h2] at this
  exact this.symm
/-- the masks, of n bytes -/
def pmask (b : Nat) : Nat → Nat
  | 0 => 0
  | n + 1 => 256 * pmask b n + b
/-- bytes, the lowest first -/
def pbytes (g : Nat → Nat) : Nat → Nat → Nat
  | 0, _ => 0
  | n + 1, x => 256 * pbytes g n (x / 256) + g (x % 256)
def p1 (x m : Nat) : Nat := x - ((x / 2) &&& m)
def p2 (x m : Nat) : Nat := (x &&& m) + ((x / 4) &&& m)
def p3 (x m : Nat) : Nat := (x + x / 16) &&& m
theorem pmask_div {b : Nat} (hb : b < 256) (n : Nat) : pmask b (n + 1) / 256 = pmask b n ∧ pmask b (n + 1) % 256 = b := by
  show (256 * pmask b n + b) / 256 = _ ∧ (256 * pmask b n + b) % 256 = b
  omega
theorem p1_bytes : ∀ n x, x < 256 ^ n → p1 x (pmask 85 n) = pbytes (fun b => p1 b 85) n x
  | 0, x, h => by
    have : x = 0 := by rw [Nat.pow_zero] at h; omega
    subst this; rfl
  | n + 1, x, h => by
    have ih := p1_bytes n (x / 256) (by rw [Nat.pow_succ] at h; omega)
    unfold pbytes
    show _ = 256 * pbytes (fun b => p1 b 85) n (x / 256) + p1 (x % 256) 85
    rw [← ih]
    unfold p1
    rw [nat_and_split (x / 2) (pmask 85 (n + 1)), (pmask_div (by decide) n).1, (pmask_div (by decide) n).2]
    have e1 : x / 2 / 256 = x / 256 / 2 := by omega
    have e2 : x / 2 % 256 = 128 * (x / 256 % 2) + x % 256 / 2 := by omega
    have key : ∀ e, e < 2 → ∀ c, c < 128 → (128 * e + c) &&& 85 = c &&& 85 := by decide +kernel
    rw [e1, e2, key _ (by omega) _ (by omega)]
    have l1 : (x / 256 / 2) &&& pmask 85 n ≤ x / 256 / 2 := Nat.and_le_left
    have l2 : (x % 256 / 2) &&& 85 ≤ x % 256 / 2 := Nat.and_le_left
    omega
theorem p2_bytes : ∀ n x, x < 256 ^ n → p2 x (pmask 51 n) = pbytes (fun b => p2 b 51) n x
  | 0, x, h => by
    have : x = 0 := by rw [Nat.pow_zero] at h; omega
    subst this; rfl
  | n + 1, x, h => by
    have ih := p2_bytes n (x / 256) (by rw [Nat.pow_succ] at h; omega)
    unfold pbytes
    show _ = 256 * pbytes (fun b => p2 b 51) n (x / 256) + p2 (x % 256) 51
    rw [← ih]
    unfold p2
    rw [nat_and_split (x / 4) (pmask 51 (n + 1)), nat_and_split x (pmask 51 (n + 1)), (pmask_div (by decide) n).1, (pmask_div (by decide) n).2]
    have e1 : x / 4 / 256 = x / 256 / 4 := by omega
    have e2 : x / 4 % 256 = 64 * (x / 256 % 4) + x % 256 / 4 := by omega
    have key : ∀ e, e < 4 → ∀ c, c < 64 → (64 * e + c) &&& 51 = c &&& 51 := by decide +kernel
    rw [e1, e2, key _ (by omega) _ (by omega)]
    omega
/-- all bytes are of this kind -/
def pall (P : Nat → Prop) : Nat → Nat → Prop
  | 0, _ => True
  | n + 1, x => P (x % 256) ∧ pall P n (x / 256)
theorem p3_bytes : ∀ n x, x < 256 ^ n → pall (fun b => b % 16 ≤ 4 ∧ b / 16 ≤ 4) n x → p3 x (pmask 15 n) = pbytes (fun b => p3 b 15) n x
  | 0, x, h, _ => by
    have : x = 0 := by rw [Nat.pow_zero] at h; omega
    subst this; rfl
  | n + 1, x, h, hp => by
    obtain ⟨⟨a1, a2⟩, hp'⟩ := hp
    have hx : x / 256 < 256 ^ n := by rw [Nat.pow_succ] at h; omega
    have ih := p3_bytes n (x / 256) hx hp'
    have a3 : x / 256 % 16 ≤ 4 := by
      cases n with
      | zero => rw [Nat.pow_zero] at hx; omega
      | succ n =>
        have := hp'.1.1
        omega
    unfold pbytes
    show _ = 256 * pbytes (fun b => p3 b 15) n (x / 256) + p3 (x % 256) 15
    rw [← ih]
    unfold p3
    rw [nat_and_split (x + x / 16) (pmask 15 (n + 1)), (pmask_div (by decide) n).1, (pmask_div (by decide) n).2]
    have e1 : (x + x / 16) / 256 = x / 256 + x / 256 / 16 := by omega
    have e2 : (x + x / 16) % 256 = 16 * (x / 256 % 16) + (x % 256 + x % 256 / 16) := by omega
    have key : ∀ e, e < 5 → ∀ c, c < 73 → (16 * e + c) &&& 15 = c &&& 15 := by decide +kernel
    rw [e1, e2, key _ (by omega) _ (by omega)]
theorem pbytes_comp {f g : Nat → Nat} (hf : ∀ b, b < 256 → f b < 256) : ∀ n x, pbytes g n (pbytes f n x) = pbytes (fun b => g (f b)) n x
  | 0, _ => rfl
  | n + 1, x => by
    have h := hf (x % 256) (Nat.mod_lt _ (by decide))
    have e1 : pbytes f (n + 1) x / 256 = pbytes f n (x / 256) := by
      show (256 * pbytes f n (x / 256) + f (x % 256)) / 256 = _
      omega
    have e2 : pbytes f (n + 1) x % 256 = f (x % 256) := by
      show (256 * pbytes f n (x / 256) + f (x % 256)) % 256 = _
      omega
    show 256 * pbytes g n (pbytes f (n + 1) x / 256) + g (pbytes f (n + 1) x % 256) = 256 * pbytes (fun b => g (f b)) n (x / 256) + g (f (x % 256))
    rw [e1, e2, pbytes_comp hf n]
theorem pbytes_lt {f : Nat → Nat} (hf : ∀ b, b < 256 → f b < 256) : ∀ n x, pbytes f n x < 256 ^ n
  | 0, _ => Nat.zero_lt_one
  | n + 1, x => by
    have h := hf (x % 256) (Nat.mod_lt _ (by decide))
    have ih := pbytes_lt hf n (x / 256)
    rw [Nat.pow_succ]
    show 256 * pbytes f n (x / 256) + f (x % 256) < _
    omega
theorem pall_pbytes {P : Nat → Prop} {f : Nat → Nat} (hf : ∀ b, b < 256 → f b < 256 ∧ P (f b)) : ∀ n x, pall P n (pbytes f n x)
  | 0, _ => trivial
  | n + 1, x => by
    have h := hf (x % 256) (Nat.mod_lt _ (by decide))
    have e1 : pbytes f (n + 1) x / 256 = pbytes f n (x / 256) := by
      show (256 * pbytes f n (x / 256) + f (x % 256)) / 256 = _
      omega
    have e2 : pbytes f (n + 1) x % 256 = f (x % 256) := by
      show (256 * pbytes f n (x / 256) + f (x % 256)) % 256 = _
      omega
    refine ⟨by rw [e2]; exact h.2, ?_⟩
    rw [e1]
    exact pall_pbytes hf n _
def pcb (b : Nat) : Nat := p3 (p2 (p1 b 85) 51) 15
theorem pc_stages (x : Nat) (h : x < 256 ^ 8) : p3 (p2 (p1 x (pmask 85 8)) (pmask 51 8)) (pmask 15 8) = pbytes pcb 8 x := by
  have f1 : ∀ b, b < 256 → p1 b 85 < 256 := by decide +kernel
  have f2 : ∀ b, b < 256 → p2 (p1 b 85) 51 < 256 ∧ (p2 (p1 b 85) 51 % 16 ≤ 4 ∧ p2 (p1 b 85) 51 / 16 ≤ 4) := by decide +kernel
  have g1 := p1_bytes 8 x h
  have g2 := p2_bytes 8 (pbytes (fun b => p1 b 85) 8 x) (pbytes_lt f1 8 x)
  rw [pbytes_comp (g := fun b => p2 b 51) f1] at g2
  have g3 := p3_bytes 8 (pbytes (fun b => p2 (p1 b 85) 51) 8 x) (pbytes_lt (fun b hb => (f2 b hb).1) 8 x) (pall_pbytes f2 8 x)
  rw [pbytes_comp (g := fun b => p3 b 15) (fun b hb => (f2 b hb).1)] at g3
  rw [g1, g2, g3]
  rfl
/-- how many of the first n bits are there -/
def pcn (x : Nat) : Nat → Nat
  | 0 => 0
  | n + 1 => pcn x n + (if x.testBit n then 1 else 0)
theorem pcb_bits : ∀ b, b < 256 → pcb b = pcn b 8 := by decide +kernel
theorem pcn_add (x m : Nat) : ∀ n, pcn x (m + n) = pcn x m + pcn (x / 2 ^ m) n
  | 0 => rfl
  | n + 1 => by
    show pcn x (m + n) + (if x.testBit (m + n) then 1 else 0) = pcn x m + (pcn (x / 2 ^ m) n + (if (x / 2 ^ m).testBit n then 1 else 0))
    rw [pcn_add x m n, Nat.testBit_div_two_pow, Nat.add_comm n m]
    omega
theorem pcn_mod (x : Nat) : ∀ n, n ≤ 8 → pcn (x % 256) n = pcn x n
  | 0, _ => rfl
  | n + 1, h => by
    unfold pcn
    rw [pcn_mod x n (by omega), show (256 : Nat) = 2 ^ 8 from rfl, Nat.testBit_mod_two_pow]
    rw [decide_eq_true (show n < 8 by omega), Bool.true_and]
theorem pcb_pcn (x : Nat) : pcb (x % 256) = pcn x 8 := by rw [pcb_bits _ (Nat.mod_lt _ (by decide)), pcn_mod x 8 (Nat.le_refl _)]
theorem pcn_le (x : Nat) : ∀ n, pcn x n ≤ n
  | 0 => Nat.le_refl _
  | n + 1 => by
    have := pcn_le x n
    unfold pcn
    split <;> omega
/-- the bytes summed -/
theorem pc_sum (x : Nat) : pcn x 64 = pcn x 8 + pcn (x / 256) 8 + pcn (x / 256 / 256) 8 + pcn (x / 256 / 256 / 256) 8 + pcn (x / 256 / 256 / 256 / 256) 8 + pcn (x / 256 / 256 / 256 / 256 / 256) 8 + pcn (x / 256 / 256 / 256 / 256 / 256 / 256) 8 + pcn (x / 256 / 256 / 256 / 256 / 256 / 256 / 256) 8 := by
  have e : ∀ y n, pcn y (8 + n) = pcn y 8 + pcn (y / 256) n := fun y n => pcn_add y 8 n
  rw [show (64 : Nat) = 8 + (8 + (8 + (8 + (8 + (8 + (8 + 8)))))) from rfl, e, e, e, e, e, e, e]
  omega
/-- the last three steps, as numbers -/
theorem pc_last (x y : Nat) (hy : y = pbytes pcb 8 x) : (((y + y / 256) + (y + y / 256) / 65536) + ((y + y / 256) + (y + y / 256) / 65536) / 4294967296) % 128 = pcn x 64 ∧ y + y / 256 + (y + y / 256) / 65536 + (y + y / 256 + (y + y / 256) / 65536) / 4294967296 < 2 ^ 63 := by
  have hs := pc_sum x
  have e : y = 256 * (256 * (256 * (256 * (256 * (256 * (256 * (256 * 0 + pcb (x / 256 / 256 / 256 / 256 / 256 / 256 / 256 % 256)) + pcb (x / 256 / 256 / 256 / 256 / 256 / 256 % 256)) + pcb (x / 256 / 256 / 256 / 256 / 256 % 256)) + pcb (x / 256 / 256 / 256 / 256 % 256)) + pcb (x / 256 / 256 / 256 % 256)) + pcb (x / 256 / 256 % 256)) + pcb (x / 256 % 256)) + pcb (x % 256) := hy
  simp only [pcb_pcn] at e
  have b0 := pcn_le x 8
  have b1 := pcn_le (x / 256) 8
  have b2 := pcn_le (x / 256 / 256) 8
  have b3 := pcn_le (x / 256 / 256 / 256) 8
  have b4 := pcn_le (x / 256 / 256 / 256 / 256) 8
  have b5 := pcn_le (x / 256 / 256 / 256 / 256 / 256) 8
  have b6 := pcn_le (x / 256 / 256 / 256 / 256 / 256 / 256) 8
  have b7 := pcn_le (x / 256 / 256 / 256 / 256 / 256 / 256 / 256) 8
  generalize pcn x 8 = c0 at *
  generalize pcn (x / 256) 8 = c1 at *
  generalize pcn (x / 256 / 256) 8 = c2 at *
  generalize pcn (x / 256 / 256 / 256) 8 = c3 at *
  generalize pcn (x / 256 / 256 / 256 / 256) 8 = c4 at *
  generalize pcn (x / 256 / 256 / 256 / 256 / 256) 8 = c5 at *
  generalize pcn (x / 256 / 256 / 256 / 256 / 256 / 256) 8 = c6 at *
  generalize pcn (x / 256 / 256 / 256 / 256 / 256 / 256 / 256) 8 = c7 at *
  rw [hs]
  clear hy hs
  have e4 : y + y / 256 = (c0 + c1) + 256 * (c1 + c2) + 65536 * (c2 + c3) + 16777216 * (c3 + c4) + 4294967296 * (c4 + c5) + 1099511627776 * (c5 + c6) + 281474976710656 * (c6 + c7) + 72057594037927936 * c7 := by omega
  generalize y + y / 256 = z at *
  clear e
  have e5 : z + z / 65536 = (c0 + c1 + c2 + c3) + 256 * (c1 + c2 + c3 + c4) + 65536 * (c2 + c3 + c4 + c5) + 16777216 * (c3 + c4 + c5 + c6) + 4294967296 * (c4 + c5 + c6 + c7) + 1099511627776 * (c5 + c6 + c7) + 281474976710656 * (c6 + c7) + 72057594037927936 * c7 := by omega
  generalize z + z / 65536 = w at *
  clear e4
  have e6 : w / 4294967296 = (c4 + c5 + c6 + c7) + 256 * (c5 + c6 + c7) + 65536 * (c6 + c7) + 16777216 * c7 := by omega
  rw [e6, e5]
  omega
def l_N (x : Int64) : Nat := x.toBitVec.toNat
theorem l_sub {x y : Int64} (h : l_N y ≤ l_N x) : l_N (x - y) = l_N x - l_N y := by
  unfold l_N at *
  have := x.toBitVec.isLt
  rw [Int64.toBitVec_sub, BitVec.toNat_sub]
  omega
theorem l_add {x y : Int64} (h : l_N x + l_N y < 2 ^ 64) : l_N (x + y) = l_N x + l_N y := by
  unfold l_N at *
  rw [Int64.toBitVec_add, BitVec.toNat_add, Nat.mod_eq_of_lt h]
theorem l_and {x y : Int64} : l_N (x &&& y) = l_N x &&& l_N y := by
  unfold l_N
  rw [Int64.toBitVec_and, BitVec.toNat_and]
theorem l_shr {x : Int64} {s : UInt64} {k : Nat} (h : s.toNat % 64 = k) : l_N ((Int64.toUInt64 x >>> s).toInt64) = l_N x / 2 ^ k := by
  have e : l_N ((Int64.toUInt64 x >>> s).toInt64) = (Int64.toUInt64 x >>> s).toNat := rfl
  rw [e, UInt64.toNat_shiftRight, h, Nat.shiftRight_eq_div_pow]
  rfl
theorem l_lt (x : Int64) : l_N x < 256 ^ 8 := x.toBitVec.isLt
theorem l_bc_pcn (x : Int64) : l_bc x = nI (pcn (l_N x) 64) := by
  have hx := l_lt x
  have e1 : l_N (l_b1 x) = p1 (l_N x) (pmask 85 8) := by
    unfold l_b1
    have e : l_N (((Int64.toUInt64 x >>> (Int64.toUInt64 (Int32.toInt64 1) &&& Int64.toUInt64 63)).toInt64) &&& 6148914691236517205) = (l_N x / 2) &&& pmask 85 8 := by
      rw [l_and, l_shr (k := 1) (by decide)]
      rfl
    have hle : (l_N x / 2) &&& pmask 85 8 ≤ l_N x := Nat.le_trans Nat.and_le_left (Nat.div_le_self _ _)
    rw [l_sub (by rw [e]; exact hle), e]
    rfl
  have f1 : ∀ b, b < 256 → p1 b 85 < 256 := by decide +kernel
  have f2 : ∀ b, b < 256 → p2 (p1 b 85) 51 < 256 ∧ (p2 (p1 b 85) 51 % 16 ≤ 4 ∧ p2 (p1 b 85) 51 / 16 ≤ 4) := by decide +kernel
  have f2' : ∀ b, b < 256 → p2 (p1 b 85) 51 ≤ 68 := by decide +kernel
  have e2 : l_N (l_b2 (l_b1 x)) = p2 (p1 (l_N x) (pmask 85 8)) (pmask 51 8) := by
    unfold l_b2
    have ea : l_N (l_b1 x &&& 3689348814741910323) = p1 (l_N x) (pmask 85 8) &&& pmask 51 8 := by rw [l_and, e1]; rfl
    have eb : l_N (((Int64.toUInt64 (l_b1 x) >>> (Int64.toUInt64 (Int32.toInt64 2) &&& Int64.toUInt64 63)).toInt64) &&& 3689348814741910323) = (p1 (l_N x) (pmask 85 8) / 4) &&& pmask 51 8 := by
      rw [l_and, l_shr (k := 2) (by decide), e1]
      rfl
    have h1 : p1 (l_N x) (pmask 85 8) &&& pmask 51 8 ≤ pmask 51 8 := Nat.and_le_right
    have h2 : (p1 (l_N x) (pmask 85 8) / 4) &&& pmask 51 8 ≤ pmask 51 8 := Nat.and_le_right
    have h3 : pmask 51 8 + pmask 51 8 < 2 ^ 64 := by decide
    rw [l_add (by rw [ea, eb]; omega), ea, eb]
    rfl
  have g12 : p2 (p1 (l_N x) (pmask 85 8)) (pmask 51 8) = pbytes (fun b => p2 (p1 b 85) 51) 8 (l_N x) := by
    rw [p1_bytes 8 _ hx, p2_bytes 8 _ (pbytes_lt f1 8 _), pbytes_comp (g := fun b => p2 b 51) f1]
  have le68 : ∀ n y, pbytes (fun b => p2 (p1 b 85) 51) n y ≤ pmask 68 n := by
    intro n
    induction n with
    | zero => intro y; exact Nat.le_refl _
    | succ n ih =>
      intro y
      have h1 := ih (y / 256)
      have h2 := f2' (y % 256) (Nat.mod_lt _ (by decide))
      show 256 * pbytes (fun b => p2 (p1 b 85) 51) n (y / 256) + p2 (p1 (y % 256) 85) 51 ≤ 256 * pmask 68 n + 68
      omega
  have e3 : l_N (l_b3 (l_b2 (l_b1 x))) = pbytes pcb 8 (l_N x) := by
    unfold l_b3
    have eb : l_N ((Int64.toUInt64 (l_b2 (l_b1 x)) >>> (Int64.toUInt64 (Int32.toInt64 4) &&& Int64.toUInt64 63)).toInt64) = p2 (p1 (l_N x) (pmask 85 8)) (pmask 51 8) / 16 := by
      rw [l_shr (k := 4) (by decide), e2]
    have hle : p2 (p1 (l_N x) (pmask 85 8)) (pmask 51 8) ≤ pmask 68 8 := by rw [g12]; exact le68 8 _
    have h3 : pmask 68 8 + pmask 68 8 < 2 ^ 64 := by decide
    rw [l_and, l_add (by rw [eb, e2]; omega), eb, e2, ← pc_stages _ hx]
    rfl
  have hl := pc_last (l_N x) _ rfl
  rw [← e3] at hl
  have e4 : l_N (l_b4 (l_b3 (l_b2 (l_b1 x)))) = l_N (l_b3 (l_b2 (l_b1 x))) + l_N (l_b3 (l_b2 (l_b1 x))) / 256 := by
    unfold l_b4
    rw [l_add (by rw [l_shr (k := 8) (by decide)]; omega), l_shr (k := 8) (by decide)]
  rw [← e4] at hl
  have e5 : l_N (l_b5 (l_b4 (l_b3 (l_b2 (l_b1 x))))) = l_N (l_b4 (l_b3 (l_b2 (l_b1 x)))) + l_N (l_b4 (l_b3 (l_b2 (l_b1 x)))) / 65536 := by
    unfold l_b5
    rw [l_add (by rw [l_shr (k := 16) (by decide)]; omega), l_shr (k := 16) (by decide)]
  rw [← e5] at hl
  have e6 : l_N (l_b6 (l_b5 (l_b4 (l_b3 (l_b2 (l_b1 x)))))) = l_N (l_b5 (l_b4 (l_b3 (l_b2 (l_b1 x))))) + l_N (l_b5 (l_b4 (l_b3 (l_b2 (l_b1 x))))) / 4294967296 := by
    unfold l_b6
    rw [l_add (by rw [l_shr (k := 32) (by decide)]; omega), l_shr (k := 32) (by decide)]
  rw [← e6] at hl
  unfold l_bc
  generalize l_b6 (l_b5 (l_b4 (l_b3 (l_b2 (l_b1 x))))) = z at *
  apply Int32.toBitVec_inj.mp
  apply BitVec.eq_of_toNat_eq
  have h64 := pcn_le (l_N x) 64
  have er : (nI (pcn (l_N x) 64)).toBitVec.toNat = pcn (l_N x) 64 := by
    show (BitVec.ofNat 32 (pcn (l_N x) 64)).toNat = _
    rw [BitVec.toNat_ofNat]
    exact Nat.mod_eq_of_lt (by omega)
  rw [er, ← hl.1, Int32.toBitVec_and, BitVec.toNat_and]
  have et : (Int64.toInt32 z).toBitVec.toNat = l_N z % 2 ^ 32 := by
    show (BitVec.ofInt 32 z.toBitVec.toInt).toNat = _
    rw [BitVec.toNat_ofInt, BitVec.toInt_eq_toNat_cond]
    have := z.toBitVec.isLt
    show _ = z.toBitVec.toNat % 2 ^ 32
    split <;> omega
  rw [et]
  show (l_N z % 2 ^ 32) &&& 127 = _
  rw [show (127 : Nat) = 2 ^ 7 - 1 from rfl, Nat.and_two_pow_sub_one_eq_mod]
  omega


/-! the reference: its cells, and its simple methods -/
abbrev mo (a : Nat) (mA : Nat → Nat) (s1 s2 s3 s4 s6 s17 s18 s20 s21 s24 s25 s26 s27 s28 s29 s35 s36 s37 s38 s39 : Int32) : Nat × va_E :=
  ob a 8 [.ref (mA 0), .int s1, .int s2, .int s3, .int s4, .ref (mA 5), .int s6, .ref (mA 7), .ref (mA 8), .ref (mA 9), .ref (mA 10), .ref (mA 11), .ref (mA 12), .ref (mA 13), .ref (mA 14), .ref (mA 15), .ref (mA 16), .int s17, .int s18, .ref (mA 19), .int s20, .int s21, .ref (mA 22), .ref (mA 23), .int s24, .int s25, .int s26, .int s27, .int s28, .int s29, .ref (mA 30), .ref (mA 31), .ref (mA 32), .ref (mA 33), .ref (mA 34), .int s35, .int s36, .int s37, .int s38, .int s39, .ref (mA 40), .ref (mA 41), .ref (mA 42), .ref (mA 43)]
def putB (f g : Nat → Int32) (t n : Nat) : Nat → Int32 := fun j => if t ≤ j ∧ j < t + n then g (j - t) else f j
theorem putB_0 {f g : Nat → Int32} {t : Nat} : putB f g t 0 = f := by
  funext j
  unfold putB
  rw [if_neg (by omega)]
theorem putB_step {f g h : Nat → Int32} {t k : Nat} {v : Int32} (e : h = putB f g t k) (hv : v = g k) : upd h (t + k) v = putB f g t (k + 1) := by
  subst e; funext j
  by_cases e1 : j = t + k
  · subst e1
    rw [pk_us, hv]; unfold putB
    rw [if_pos (by omega)]
    congr 1; omega
  · rw [pk_un e1]; unfold putB
    by_cases e2 : t ≤ j ∧ j < t + k
    · rw [if_pos e2, if_pos (by omega)]
    · rw [if_neg e2, if_neg (by omega)]
def w5 (a b c d e : Int32) (k : Nat) : Int32 := if k < 4 then a else if k < 8 then b else if k < 12 then c else if k < 16 then d else e
def byte20 (a b c d e : Int32) (k : Nat) : Int32 := byteOf (w5 a b c d e k) (k % 4)
theorem put4_B {f h : Nat → Int32} {t n : Nat} {x : Int32} {g : Nat → Int32} (e : h = putB f g t n) (h0 : byteOf x 0 = g n) (h1 : byteOf x 1 = g (n + 1)) (h2 : byteOf x 2 = g (n + 1 + 1)) (h3 : byteOf x 3 = g (n + 1 + 1 + 1)) : put4 h (t + n) x = putB f g t (n + 4) := by
  unfold put4
  exact putB_step (putB_step (putB_step (putB_step e h0) h1) h2) h3
theorem put20_B {f : Nat → Int32} {t : Nat} {a b c d e : Int32} : put20 f t a b c d e = putB f (byte20 a b c d e) t 20 := by
  have s0 : f = putB f (byte20 a b c d e) t 0 := putB_0.symm
  have s1 := put4_B (x := a) s0 rfl rfl rfl rfl
  have s2 := put4_B (x := b) s1 rfl rfl rfl rfl
  have s3 := put4_B (x := c) s2 rfl rfl rfl rfl
  have s4 := put4_B (x := d) s3 rfl rfl rfl rfl
  exact put4_B (x := e) s4 rfl rfl rfl rfl
theorem sh_s : ∀ k, k < 32 → ((nI k &&& 31).toBitVec.smod 32).toNat = k := by decide +kernel
theorem tn_int (x : Int32) : x.toInt = if x.toBitVec.toNat < 2147483648 then (x.toBitVec.toNat : Int) else (x.toBitVec.toNat : Int) - 4294967296 := by
  show x.toBitVec.toInt = _
  rw [BitVec.toInt_eq_toNat_cond]
  split <;> split <;> omega
theorem sar_byte (w : Int32) : ∀ r, r < 4 → (w >>> (nI (24 - 8 * r) &&& 31)) &&& 255 = byteOf w r := by
  intro r hr
  unfold byteOf
  have hm := pk_and (w >>> (nI (24 - 8 * r) &&& 31)) (m := 255) 8 (by decide)
  have hu := pk_and ((w.toUInt32 >>> ((nI (24 - 8 * r)).toUInt32 &&& Int32.toUInt32 31)).toInt32) (m := 255) 8 (by decide)
  rw [hm, hu, pk_ushr w (nI (24 - 8 * r)) (24 - 8 * r) (ush_s _ (by omega))]
  have hs := pk_shr w (nI (24 - 8 * r) &&& 31) (24 - 8 * r) (sh_s _ (by omega))
  rw [Int.shiftRight_eq_div_pow, tn_int, tn_int] at hs
  have b1 := w.toBitVec.isLt
  have b2 := (w >>> (nI (24 - 8 * r) &&& 31)).toBitVec.isLt
  congr 1
  match r, hr with
  | 0, _ => simp only [Nat.mul_zero, Nat.sub_zero] at hs b2 ⊢; split at hs <;> split at hs <;> omega
  | 1, _ => simp only [Nat.mul_one, show 24 - 8 = 16 from rfl] at hs b2 ⊢; split at hs <;> split at hs <;> omega
  | 2, _ => simp only [show 24 - 8 * 2 = 8 from rfl] at hs b2 ⊢; split at hs <;> split at hs <;> omega
  | 3, _ => simp only [show 24 - 8 * 3 = 0 from rfl] at hs b2 ⊢; split at hs <;> split at hs <;> omega
  | r + 4, hr => omega
theorem feed_byte (w : Int32) {k : Nat} (hk : k < 20) : (w >>> ((24 - 8 * (nI k - nI k / 4 * 4)) &&& 31)) &&& 255 = byteOf w (k % 4) := by
  have e1 : nI k - nI k / 4 * 4 = nI (k % 4) := pk_rem (d := 4) (by omega) (by decide) (by decide)
  have e2 : (8 : Int32) * nI (k % 4) = nI (8 * (k % 4)) := pk_mul 8 (k % 4)
  have e3 : (24 : Int32) - nI (8 * (k % 4)) = nI (24 - 8 * (k % 4)) := pk_sub (a := 24) (by omega)
  rw [e1, e2, e3]
  exact sar_byte w (k % 4) (by omega)
def posS (z : Nat → Int32) : Nat → Int32
  | 0 => 0
  | n + 1 => posS z n + (if 0 < z n then z n else 0)
def lookOk (np : Nat) (p : Int32) : Prop := 0 ≤ p ∧ p < nI np
theorem rem_L {d c f : Nat → Int32} {x y : Int32} {k : Nat} (hxy : ¬ x = y) (hs : d k = c k → f k = 0) : repL x y d c f k = if (d k = x ∧ c k = y) ∨ (d k = y ∧ c k = x) then 0 else f k := by
  unfold repL rep
  by_cases h1 : d k = x <;> by_cases h2 : c k = x <;> by_cases h3 : d k = y <;> by_cases h4 : c k = y <;> simp_all <;> grind
theorem sw_range {x : Int32} (h0 : ¬ x = 0) (h1 : ¬ x = 1) (h2 : ¬ x = 2) (h3 : ¬ x = 3) (h4 : ¬ x = 4) (h5 : ¬ x = 5) (h6 : ¬ x = 6) : ¬ (0 ≤ x ∧ x ≤ 6) := by
  have t0 := sw_ne (z := 0) (by decide) h0
  have t1 := sw_ne (z := 1) (by decide) h1
  have t2 := sw_ne (z := 2) (by decide) h2
  have t3 := sw_ne (z := 3) (by decide) h3
  have t4 := sw_ne (z := 4) (by decide) h4
  have t5 := sw_ne (z := 5) (by decide) h5
  have t6 := sw_ne (z := 6) (by decide) h6
  have e6 : (6 : Int32).toInt = 6 := by decide
  rw [i32_le, i32_le, ti0, e6]
  omega
theorem pos_a {z : Nat → Int32} {n : Nat} {r r2 : Int32} (hr : r = z n) (hr2 : r2 = z n) (h : ¬ r ≤ 0) : posS z n + r2 = posS z (n + 1) := by
  simp only [posS]
  rw [if_pos (by rw [i32_lt, ← hr]; rw [i32_le] at h; omega), hr2]
theorem pos_b {z : Nat → Int32} {n : Nat} {r : Int32} (hr : r = z n) (h : r ≤ 0) : posS z n + 0 = posS z (n + 1) := by
  simp only [posS]
  rw [if_neg (by rw [i32_lt, ← hr]; rw [i32_le] at h; omega)]

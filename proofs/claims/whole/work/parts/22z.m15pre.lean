/-! the reading of a text: its tokens -/
def kindS (x : Int32) : Int32 := if x = 10 ∨ x = 32 then 0 else if 97 ≤ x ∧ x ≤ 122 then 1 else if 48 ≤ x ∧ x ≤ 57 then 2 else if x = 59 then 3 else 4
def runG (t : Nat → Int32) (k : Int32) : Nat → Nat → Nat
  | 0, q => q
  | f + 1, q => if kindS (t q) = k then runG t k f (q + 1) else q
/-- the first place from q on that is not of the kind k, or the text's end n -/
def runT (t : Nat → Int32) (n : Nat) (k : Int32) (q : Nat) : Nat := runG t k (n - q) q
section RUN
variable {t : Nat → Int32} {n q : Nat} {k : Int32}
theorem runT_out (h : n ≤ q) : runT t n k q = q := by
  unfold runT
  rw [show n - q = 0 by omega]; rfl
theorem runT_in (h : q < n) (hk : kindS (t q) = k) : runT t n k q = runT t n k (q + 1) := by
  unfold runT
  rw [show n - q = (n - (q + 1)) + 1 by omega, runG, if_pos hk]
theorem runT_no (hk : ¬ kindS (t q) = k) : runT t n k q = q := by
  unfold runT
  cases n - q with
  | zero => rfl
  | succ f => rw [runG, if_neg hk]
theorem runG_ge : ∀ (f q : Nat), q ≤ runG t k f q
  | 0, q => Nat.le_refl q
  | f + 1, q => by
    rw [runG]
    split
    · have := runG_ge f (q + 1); omega
    · exact Nat.le_refl q
theorem runG_le : ∀ (f q : Nat), runG t k f q ≤ q + f
  | 0, q => Nat.le_refl q
  | f + 1, q => by
    rw [runG]
    split
    · have := runG_le f (q + 1); omega
    · omega
theorem runG_kind : ∀ (f q j : Nat), q ≤ j → j < runG t k f q → kindS (t j) = k
  | 0, q, j, h1, h2 => by rw [runG] at h2; omega
  | f + 1, q, j, h1, h2 => by
    rw [runG] at h2
    split at h2
    · rename_i hk
      by_cases e : q = j
      · rw [← e]; exact hk
      · exact runG_kind f (q + 1) j (by omega) h2
    · omega
theorem runT_ge : q ≤ runT t n k q := runG_ge _ _
theorem runT_le (h : q ≤ n) : runT t n k q ≤ n := by
  have := runG_le (t := t) (k := k) (n - q) q
  unfold runT; omega
theorem runT_kind {j : Nat} (h1 : q ≤ j) (h2 : j < runT t n k q) : kindS (t j) = k := runG_kind _ _ _ h1 h2
end RUN
/-- the token from q on: where it begins, its kind, where it ends -/
def tSt (t : Nat → Int32) (n q : Nat) : Nat := runT t n 0 q
def tKd (t : Nat → Int32) (n q : Nat) : Int32 := if tSt t n q < n then kindS (t (tSt t n q)) else 5
def tNx (t : Nat → Int32) (n q : Nat) : Nat :=
  if tSt t n q < n then (if tKd t n q = 1 ∨ tKd t n q = 2 then runT t n (tKd t n q) (tSt t n q + 1) else tSt t n q + 1) else tSt t n q
section TOK
variable {t : Nat → Int32} {n q : Nat}
theorem tSt_ge : q ≤ tSt t n q := runT_ge
theorem tSt_le (h : q ≤ n) : tSt t n q ≤ n := runT_le h
theorem tNx_ge : tSt t n q ≤ tNx t n q := by
  unfold tNx
  split
  · split
    · have := runT_ge (t := t) (n := n) (k := tKd t n q) (q := tSt t n q + 1); omega
    · omega
  · exact Nat.le_refl _
theorem tNx_le (h : q ≤ n) : tNx t n q ≤ n := by
  have h1 := tSt_le (t := t) h
  unfold tNx
  split
  · split
    · exact runT_le (by omega)
    · omega
  · exact h1
theorem tNx_gt (h : tSt t n q < n) : tSt t n q < tNx t n q := by
  unfold tNx
  rw [if_pos h]
  split
  · have := runT_ge (t := t) (n := n) (k := tKd t n q) (q := tSt t n q + 1); omega
  · omega
theorem tKd_5 (h : ¬ tSt t n q < n) : tKd t n q = 5 := by unfold tKd; rw [if_neg h]
theorem tKd_in (h : tSt t n q < n) : tKd t n q = kindS (t (tSt t n q)) := by unfold tKd; rw [if_pos h]
theorem kindS_ne5 (x : Int32) : ¬ kindS x = 5 := by
  unfold kindS
  split
  · decide
  · split
    · decide
    · split
      · decide
      · split <;> decide
theorem tKd_end : tKd t n q = 5 ↔ ¬ tSt t n q < n := by
  constructor
  · intro h h2
    rw [tKd_in h2] at h
    exact kindS_ne5 _ h
  · exact tKd_5
theorem tNx_out (h : ¬ tSt t n q < n) : tNx t n q = tSt t n q := by unfold tNx; rw [if_neg h]
theorem tNx_row (h : tSt t n q < n) (hk : tKd t n q = 1 ∨ tKd t n q = 2) : tNx t n q = runT t n (tKd t n q) (tSt t n q + 1) := by unfold tNx; rw [if_pos h, if_pos hk]
theorem tNx_one (h : tSt t n q < n) (hk : ¬ (tKd t n q = 1 ∨ tKd t n q = 2)) : tNx t n q = tSt t n q + 1 := by unfold tNx; rw [if_pos h, if_neg hk]
theorem tok_kind {j : Nat} (hk : tKd t n q = 1 ∨ tKd t n q = 2) (h1 : tSt t n q ≤ j) (h2 : j < tNx t n q) : kindS (t j) = tKd t n q := by
  have hs : tSt t n q < n := by
    by_cases h : tSt t n q < n
    · exact h
    · rw [tKd_5 h] at hk; exact absurd hk (by decide)
  by_cases e : tSt t n q = j
  · rw [← e, tKd_in hs]
  · rw [tNx_row hs hk] at h2
    exact runT_kind (by omega) h2
end TOK
/-- a digit, a number: it grows no more where it is beyond cap -/
def dig (x : Int32) : Nat := (x.toInt - 48).toNat
def numG (cap : Nat) (t : Nat → Int32) (st : Nat) : Nat → Nat
  | 0 => 0
  | k + 1 => if numG cap t st k ≤ cap then numG cap t st k * 10 + dig (t (st + k)) else numG cap t st k
theorem kind2 {x : Int32} (h : kindS x = 2) : 48 ≤ x.toInt ∧ x.toInt ≤ 57 := by
  unfold kindS at h
  split at h
  · exact absurd h (by decide)
  · split at h
    · exact absurd h (by decide)
    · split at h
      · rename_i q
        rw [i32_le, i32_le] at q
        exact q
      · split at h <;> exact absurd h (by decide)
theorem dig_le {x : Int32} (h : kindS x = 2) : dig x ≤ 9 := by have := kind2 h; unfold dig; omega
theorem dig_nI {x : Int32} (h : kindS x = 2) : x = nI (48 + dig x) := by
  have := kind2 h
  apply Int32.toInt_inj.mp
  rw [nI_toInt (by unfold dig; omega)]
  unfold dig; omega
theorem num_step {x : Int32} {v : Nat} (h : kindS x = 2) : nI (v * 10) + x - 48 = nI (v * 10 + dig x) := by
  rw [show nI (v * 10) + x = nI (v * 10 + dig x) + 48 by conv => { lhs; rw [dig_nI h] }; rw [nI_add, show (48 : Int32) = nI 48 from rfl, nI_add]; congr 1; omega]
  exact Int32.add_sub_cancel ..
theorem numG_up {cap : Nat} {t : Nat → Int32} {st k : Nat} (h : numG cap t st k ≤ cap) : numG cap t st (k + 1) = numG cap t st k * 10 + dig (t (st + k)) := by rw [numG, if_pos h]
theorem numG_no {cap : Nat} {t : Nat → Int32} {st k : Nat} (h : cap < numG cap t st k) : numG cap t st (k + 1) = numG cap t st k := by rw [numG, if_neg (by omega)]
theorem numG_le {cap : Nat} {t : Nat → Int32} {st : Nat} : ∀ {k : Nat}, (∀ j, j < k → kindS (t (st + j)) = 2) → numG cap t st k ≤ cap * 10 + 9
  | 0, _ => by rw [numG]; omega
  | k + 1, h => by
    have ih := numG_le (cap := cap) (k := k) (fun j hj => h j (by omega))
    have := dig_le (h k (by omega))
    rw [numG]
    split
    · rename_i q
      have := Nat.mul_le_mul_right 10 q
      omega
    · exact ih
/-- two caps: the same number, as long as it is below both -/
theorem numG_cap {t : Nat → Int32} {st : Nat} : ∀ {k : Nat}, (numG 9999 t st k ≤ 999 → numG 999 t st k = numG 9999 t st k) ∧ (999 < numG 9999 t st k → 999 < numG 999 t st k)
  | 0 => by simp [numG]
  | k + 1 => by
    obtain ⟨h1, h2⟩ := numG_cap (t := t) (st := st) (k := k)
    by_cases q : numG 9999 t st k ≤ 999
    · have e := h1 q
      rw [numG_up (cap := 999) (by omega), numG_up (cap := 9999) (by omega), e]
      exact ⟨fun _ => rfl, fun h => h⟩
    · have e := h2 (by omega)
      rw [numG_no (cap := 999) e]
      have h3 : 999 < numG 9999 t st (k + 1) := by
        by_cases r : numG 9999 t st k ≤ 9999
        · rw [numG_up r]; omega
        · rw [numG_no (by omega)]; omega
      exact ⟨fun h => by omega, fun _ => e⟩
def numT (t : Nat → Int32) (n q : Nat) : Nat := numG 999 t (tSt t n q) (tNx t n q - tSt t n q)
theorem numT_le {t : Nat → Int32} {n q : Nat} (h : tKd t n q = 2) : numT t n q ≤ 9999 := by
  refine numG_le (cap := 999) (fun j hj => ?_)
  rw [← h]
  exact tok_kind (Or.inr h) (by omega) (by omega)
/-- only the first FAULT is kept -/
def blF (F : Int32 × Int32) (w st : Int32) : Int32 × Int32 := if F.1 = 0 then (w, st) else F
def rkB (t : Nat → Int32) (n q : Nat) (told : Nat → Int32) (F : Int32 × Int32) : Int32 × Int32 :=
  if tKd t n q = 2 ∧ numT t n q < 4 ∧ ¬ told (numT t n q) = -1 then blF F 3 (nI (tSt t n q)) else F
def nuV (t : Nat → Int32) (n q mx : Nat) : Nat := if tKd t n q = 2 ∧ numT t n q ≤ mx then numT t n q else 0
def nuB (t : Nat → Int32) (n q mx : Nat) (F : Int32 × Int32) : Int32 × Int32 :=
  if tKd t n q = 2 then (if numT t n q ≤ mx then F else blF F 2 (nI (tSt t n q))) else blF F 1 (nI (tSt t n q))
def seB (t : Nat → Int32) (n q : Nat) (F : Int32 × Int32) : Int32 × Int32 := if tKd t n q = 3 then F else blF F 1 (nI (tSt t n q))
theorem nuV_le {t : Nat → Int32} {n q mx : Nat} : nuV t n q mx ≤ mx := by unfold nuV; split; (rename_i h; exact h.2); exact Nat.zero_le _
section NUB
variable {t : Nat → Int32} {n q mx : Nat} {F F2 : Int32 × Int32}
theorem nu_1 (h : ¬ tKd t n q = 2) (hq : F2 = blF F 1 (nI (tSt t n q))) : (0 : Int32) = nI (nuV t n q mx) ∧ F2 = nuB t n q mx F := by
  unfold nuV nuB
  rw [if_neg (fun z => h z.1), if_neg h]
  exact ⟨rfl, hq⟩
theorem nu_2 (h : tKd t n q = 2) (h2 : ¬ numT t n q ≤ mx) (hq : F2 = blF F 2 (nI (tSt t n q))) : (0 : Int32) = nI (nuV t n q mx) ∧ F2 = nuB t n q mx F := by
  unfold nuV nuB
  rw [if_neg (fun z => h2 z.2), if_pos h, if_neg h2]
  exact ⟨rfl, hq⟩
theorem nu_3 (h : tKd t n q = 2) (h2 : numT t n q ≤ mx) : nI (numT t n q) = nI (nuV t n q mx) ∧ F = nuB t n q mx F := by
  unfold nuV nuB
  rw [if_pos ⟨h, h2⟩, if_pos h, if_pos h2]
  exact ⟨rfl, rfl⟩
end NUB

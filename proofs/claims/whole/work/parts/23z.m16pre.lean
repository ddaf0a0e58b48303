/-! the reference's reading -/
theorem kind_0 {x : Int32} : kindS x = 0 ↔ (x = 10 ∨ x = 32) := by
  unfold kindS
  constructor
  · intro h
    by_cases q : x = 10 ∨ x = 32
    · exact q
    · rw [if_neg q] at h
      split at h
      · exact absurd h (by decide)
      · split at h
        · exact absurd h (by decide)
        · split at h <;> exact absurd h (by decide)
  · intro q; rw [if_pos q]
theorem kind_1 {x : Int32} : kindS x = 1 ↔ (97 ≤ x ∧ x ≤ 122) := by
  unfold kindS
  constructor
  · intro h
    split at h
    · exact absurd h (by decide)
    · split at h
      · assumption
      · split at h
        · exact absurd h (by decide)
        · split at h <;> exact absurd h (by decide)
  · intro q
    rw [if_neg (by rintro (rfl | rfl); exact absurd q.1 (by decide); exact absurd q.1 (by decide)), if_pos q]
theorem kind_2 {x : Int32} : kindS x = 2 ↔ (48 ≤ x ∧ x ≤ 57) := by
  unfold kindS
  constructor
  · intro h
    split at h
    · exact absurd h (by decide)
    · split at h
      · exact absurd h (by decide)
      · split at h
        · assumption
        · split at h <;> exact absurd h (by decide)
  · intro q
    have n1 : ¬ (x = 10 ∨ x = 32) := by rintro (rfl | rfl); exact absurd q.1 (by decide); exact absurd q.1 (by decide)
    have n2 : ¬ (97 ≤ x ∧ x ≤ 122) := fun z => by
      have h1 := q.2
      have h2 := z.1
      rw [i32_le] at h1 h2
      exact absurd (Int.le_trans h2 h1) (by decide)
    rw [if_neg n1, if_neg n2, if_pos q]
theorem kind_34 {x : Int32} (h0 : ¬ kindS x = 0) (h1 : ¬ kindS x = 1) (h2 : ¬ kindS x = 2) : kindS x = if x = 59 then 3 else 4 := by
  have e0 := fun q => h0 (kind_0.mpr q)
  have e1 := fun q => h1 (kind_1.mpr q)
  have e2 := fun q => h2 (kind_2.mpr q)
  unfold kindS
  rw [if_neg e0, if_neg e1, if_neg e2]
/-- the words: where they stand in the row of words, how long they are -/
def wO (k : Nat) : Nat := [0, 4, 9, 15, 22].getD k 22
def wL (k : Nat) : Nat := [3, 4, 5, 6].getD k 0
theorem wd_sp : ∀ K, K < 4 → ∀ j, j ≤ wL K → (wdF (wO K + j) = 32 ↔ j = wL K) := by decide
theorem wO_L : ∀ K, K < 4 → wO K + wL K < 22 := by decide
theorem wO_succ : ∀ K, K < 4 → wO K + (wL K + 1) = wO (K + 1) := by decide
theorem wO_lt : ∀ K, K ≤ 4 → (22 ≤ wO K ↔ K = 4) := by decide
theorem wO_le : ∀ K, K ≤ 4 → wO K ≤ 22 := by decide
abbrev isW (t : Nat → Int32) (a b o ln : Nat) : Prop := ln = b - a ∧ ∀ j, j < ln → t (a + j) = wdF (o + j)
def wNo (t : Nat → Int32) (a b : Nat) : Nat := if isW t a b 0 3 then 0 else if isW t a b 4 4 then 1 else if isW t a b 9 5 then 2 else if isW t a b 15 6 then 3 else 4
def wI (t : Nat → Int32) (a b : Nat) : Int32 := if wNo t a b = 4 then -1 else nI (wNo t a b)
theorem wNo_le {t : Nat → Int32} {a b : Nat} : wNo t a b ≤ 4 := by
  unfold wNo
  split
  · omega
  · split
    · omega
    · split
      · omega
      · split <;> omega
theorem wNo_at {t : Nat → Int32} {a b : Nat} : ∀ {K : Nat}, K < 4 → (∀ i, i < K → ¬ isW t a b (wO i) (wL i)) → isW t a b (wO K) (wL K) → wNo t a b = K
  | 0, _, _, h => by unfold wNo; rw [if_pos (show isW t a b 0 3 from h)]
  | 1, _, hn, h => by unfold wNo; rw [if_neg (show ¬ isW t a b 0 3 from hn 0 (by decide)), if_pos (show isW t a b 4 4 from h)]
  | 2, _, hn, h => by unfold wNo; rw [if_neg (show ¬ isW t a b 0 3 from hn 0 (by decide)), if_neg (show ¬ isW t a b 4 4 from hn 1 (by decide)), if_pos (show isW t a b 9 5 from h)]
  | 3, _, hn, h => by unfold wNo; rw [if_neg (show ¬ isW t a b 0 3 from hn 0 (by decide)), if_neg (show ¬ isW t a b 4 4 from hn 1 (by decide)), if_neg (show ¬ isW t a b 9 5 from hn 2 (by decide)), if_pos (show isW t a b 15 6 from h)]
  | _ + 4, h, _, _ => absurd h (by omega)
theorem wNo_no {t : Nat → Int32} {a b : Nat} (hn : ∀ i, i < 4 → ¬ isW t a b (wO i) (wL i)) : wNo t a b = 4 := by
  unfold wNo
  rw [if_neg (show ¬ isW t a b 0 3 from hn 0 (by decide)), if_neg (show ¬ isW t a b 4 4 from hn 1 (by decide)), if_neg (show ¬ isW t a b 9 5 from hn 2 (by decide)), if_neg (show ¬ isW t a b 15 6 from hn 3 (by decide))]
theorem wI_at {t : Nat → Int32} {a b K : Nat} (hK : K < 4) (hn : ∀ i, i < K → ¬ isW t a b (wO i) (wL i)) (h : isW t a b (wO K) (wL K)) : nI K = wI t a b := by
  unfold wI
  rw [wNo_at hK hn h, if_neg (by omega)]
theorem wI_no {t : Nat → Int32} {a b : Nat} (hn : ∀ i, i < 4 → ¬ isW t a b (wO i) (wL i)) : -1 = wI t a b := by
  unfold wI
  rw [wNo_no hn, if_pos rfl]
def wN (t : Nat → Int32) (n q : Nat) : Nat := wNo t (tSt t n q) (tNx t n q)
def kdM (t : Nat → Int32) (n q : Nat) : Int32 := if tKd t n q = 5 then 0 else if tKd t n q = 1 ∧ wN t n q = 4 then 4 else tKd t n q
def numM (t : Nat → Int32) (n q : Nat) : Nat := numG 9999 t (tSt t n q) (tNx t n q - tSt t n q)
def mWh (t : Nat → Int32) (n q : Nat) (w : Int32) : Prop := (tKd t n q = 1 → w = wI t (tSt t n q) (tNx t n q)) ∧ (tKd t n q = 2 → w = nI (numM t n q))
section TAKE
variable {t : Nat → Int32} {n q k kk v : Nat} {w kd : Int32}
theorem numM_le (h : tKd t n q = 2) : numM t n q ≤ 99999 := by
  refine numG_le (cap := 9999) (fun j hj => ?_)
  rw [← h]
  exact tok_kind (Or.inr h) (by omega) (by omega)
theorem numM_cap {mx : Nat} (hm : mx ≤ 999) : numM t n q ≤ mx ↔ numT t n q ≤ mx := by
  obtain ⟨h1, h2⟩ := numG_cap (t := t) (st := tSt t n q) (k := tNx t n q - tSt t n q)
  unfold numM numT
  constructor
  · intro h; rw [h1 (by omega)]; exact h
  · intro h
    by_cases z : numG 9999 t (tSt t n q) (tNx t n q - tSt t n q) ≤ 999
    · rw [← h1 z]; exact h
    · have := h2 (by omega); omega
theorem numM_eq {mx : Nat} (hm : mx ≤ 999) (h : numM t n q ≤ mx) : numM t n q = numT t n q := ((numG_cap (t := t) (st := tSt t n q) (k := tNx t n q - tSt t n q)).1 (Nat.le_trans h hm)).symm
theorem runG_stop : ∀ (f q : Nat), runG t w f q < q + f → ¬ kindS (t (runG t w f q)) = w
  | 0, q, h => by rw [runG] at h; omega
  | f + 1, q, h => by
    rw [runG] at h ⊢
    split at h
    · rename_i z
      rw [if_pos z]
      exact runG_stop f (q + 1) (by omega)
    · rename_i z
      rw [if_neg z]; exact z
theorem tSt_no0 (hq : q ≤ n) (h : tSt t n q < n) : ¬ kindS (t (tSt t n q)) = 0 := by
  unfold tSt runT at h ⊢
  exact runG_stop _ _ (by omega)
theorem tNx_w (hin : tSt t n q < n) (hk : tKd t n q = 1 ∨ tKd t n q = 2) : tNx t n q = runT t n (tKd t n q) (tSt t n q) := by
  rw [tNx_row hin hk, runT_in hin (tKd_in hin).symm]
theorem take_end (hst : tSt t n q = k) (e : k = n) : 0 = kdM t n q ∧ k = tSt t n q ∧ k = tNx t n q ∧ mWh t n q w := by
  have hno : ¬ tSt t n q < n := by omega
  have h5 := tKd_5 hno
  refine ⟨?_, hst.symm, ?_, ?_, ?_⟩
  · unfold kdM; rw [if_pos h5]
  · rw [tNx_out hno, hst]
  · intro z; rw [h5] at z; exact absurd z (by decide)
  · intro z; rw [h5] at z; exact absurd z (by decide)
theorem take_word (hst : tSt t n q = k) (hin : k < n) (hk : kindS (t k) = 1) (hrun : runT t n 1 k = kk) (hw : w = wI t k kk) (hkd : (w < 0 ∧ kd = 4) ∨ (¬ w < 0 ∧ kd = 1)) : kd = kdM t n q ∧ k = tSt t n q ∧ kk = tNx t n q ∧ mWh t n q w := by
  have hin' : tSt t n q < n := by omega
  have h1 : tKd t n q = 1 := by rw [tKd_in hin', hst, hk]
  have hx : tNx t n q = kk := by rw [tNx_w hin' (Or.inl h1), h1, hst, hrun]
  have hwn : wN t n q = wNo t k kk := by unfold wN; rw [hst, hx]
  refine ⟨?_, hst.symm, hx.symm, ?_, ?_⟩
  · unfold kdM
    rw [h1, hwn, if_neg (by decide)]
    have hle := wNo_le (t := t) (a := k) (b := kk)
    unfold wI at hw
    by_cases z : wNo t k kk = 4
    · rw [if_pos z] at hw
      rw [if_pos ⟨rfl, z⟩]
      rcases hkd with h | h
      · exact h.2
      · exact absurd (show w < 0 by rw [hw]; decide) h.1
    · rw [if_neg z] at hw
      rw [if_neg (fun y => z y.2)]
      rcases hkd with h | h
      · rw [hw] at h; exact absurd h.1 (nI_pos (by omega))
      · exact h.2
  · intro _; rw [hst, hx]; exact hw
  · intro z; rw [h1] at z; exact absurd z (by decide)
theorem take_num (hst : tSt t n q = k) (hin : k < n) (hk : kindS (t k) = 2) (hrun : runT t n 2 k = kk) (hv : v = numG 9999 t k (kk - k)) : 2 = kdM t n q ∧ k = tSt t n q ∧ kk = tNx t n q ∧ mWh t n q (nI v) := by
  have hin' : tSt t n q < n := by omega
  have h1 : tKd t n q = 2 := by rw [tKd_in hin', hst, hk]
  have hx : tNx t n q = kk := by rw [tNx_w hin' (Or.inr h1), h1, hst, hrun]
  refine ⟨?_, hst.symm, hx.symm, ?_, ?_⟩
  · unfold kdM; rw [h1, if_neg (by decide), if_neg (fun z => absurd z.1 (by decide))]
  · intro z; rw [h1] at z; exact absurd z (by decide)
  · intro _; unfold numM; rw [hst, hx, hv]
theorem take_one (hq : q ≤ n) (hst : tSt t n q = k) (hin : k < n) (h1 : ¬ kindS (t k) = 1) (h2 : ¬ kindS (t k) = 2) (hkd : (t k = 59 ∧ kd = 3) ∨ (¬ t k = 59 ∧ kd = 4)) : kd = kdM t n q ∧ k = tSt t n q ∧ k + 1 = tNx t n q ∧ mWh t n q w := by
  have hin' : tSt t n q < n := by omega
  have h0 := tSt_no0 hq hin'
  rw [hst] at h0
  have e := kind_34 h0 h1 h2
  have ek : tKd t n q = kindS (t k) := by rw [tKd_in hin', hst]
  have n1 : ¬ (tKd t n q = 1 ∨ tKd t n q = 2) := by rw [ek]; exact fun z => z.elim h1 h2
  refine ⟨?_, hst.symm, by rw [tNx_one hin' n1, hst], fun z => absurd (Or.inl z) n1, fun z => absurd (Or.inr z) n1⟩
  unfold kdM
  rw [if_neg (by rw [ek]; exact kindS_ne5 _), if_neg (fun z => n1 (Or.inl z.1)), ek, e]
  rcases hkd with h | h
  · rw [if_pos h.1]; exact h.2
  · rw [if_neg h.1]; exact h.2
theorem kdM_2 (h : kdM t n q = 2) : tKd t n q = 2 := by
  unfold kdM at h
  split at h
  · exact absurd h (by decide)
  · split at h
    · exact absurd h (by decide)
    · exact h
theorem kdM_2' (h : tKd t n q = 2) : kdM t n q = 2 := by
  unfold kdM
  rw [h, if_neg (by decide), if_neg (fun z => absurd z.1 (by decide))]
theorem kdM_1 (h : kdM t n q = 1) : tKd t n q = 1 ∧ ¬ wN t n q = 4 := by
  unfold kdM at h
  split at h
  · exact absurd h (by decide)
  · split at h
    · exact absurd h (by decide)
    · rename_i z
      exact ⟨h, fun y => z ⟨h, y⟩⟩
theorem kdM_1' (h : tKd t n q = 1) (h2 : ¬ wN t n q = 4) : kdM t n q = 1 := by
  unfold kdM
  rw [if_neg (by rw [h]; decide), if_neg (fun z => h2 z.2), h]
theorem kdM_0 (hq : q ≤ n) : kdM t n q = 0 ↔ tKd t n q = 5 := by
  unfold kdM
  constructor
  · intro h
    by_cases z : tKd t n q = 5
    · exact z
    · rw [if_neg z] at h
      split at h
      · exact absurd h (by decide)
      · have hin : tSt t n q < n := by
          by_cases y : tSt t n q < n
          · exact y
          · exact absurd (tKd_5 y) z
        rw [tKd_in hin] at h
        exact absurd h (tSt_no0 hq hin)
  · intro z; rw [if_pos z]
theorem kdM_3 : kdM t n q = 3 ↔ tKd t n q = 3 := by
  unfold kdM
  constructor
  · intro h
    split at h
    · exact absurd h (by decide)
    · split at h
      · exact absurd h (by decide)
      · exact h
  · intro h
    rw [h, if_neg (by decide), if_neg (fun z => absurd z.1 (by decide))]
end TAKE
/-- a line of a text: a FAULT and its place, or the rules behind it and the place behind it -/
abbrev LRes : Type := (Int32 × Int32) ⊕ ((Nat → Int32) × Nat)
abbrev rBad (w pl : Int32) : LRes := .inl (w, pl)
abbrev rGood (ru : Nat → Int32) (q : Nat) : LRes := .inr (ru, q)
abbrev okN (t : Nat → Int32) (n q mx : Nat) : Prop := tKd t n q = 2 ∧ numT t n q ≤ mx
def badN (t : Nat → Int32) (n q : Nat) : LRes := rBad (if tKd t n q = 2 then 2 else 1) (nI (tSt t n q))
def mxW (w : Nat) : Nat := if w = 0 then 100 else 3
def lineF (t : Nat → Int32) (n q : Nat) (ru : Nat → Int32) : LRes :=
  if tKd t n q = 1 ∧ ¬ wN t n q = 4 then
    if 1 < wN t n q then
      (if ru (6 + wN t n q) = -1 then
        (if okN t n (tNx t n q) 999 then rGood (upd ru (6 + wN t n q) (nI (numT t n (tNx t n q)))) (tNx t n (tNx t n q)) else badN t n (tNx t n q))
      else rBad 3 (nI (tSt t n q)))
    else
      (if okN t n (tNx t n q) 3 ∧ ¬ ru (4 * wN t n q + numT t n (tNx t n q)) = -1 then rBad 3 (nI (tSt t n (tNx t n q)))
      else if okN t n (tNx t n q) 3 then
        (if okN t n (tNx t n (tNx t n q)) (mxW (wN t n q)) then rGood (upd ru (4 * wN t n q + numT t n (tNx t n q)) (nI (numT t n (tNx t n (tNx t n q))))) (tNx t n (tNx t n (tNx t n q))) else badN t n (tNx t n (tNx t n q)))
      else badN t n (tNx t n q))
  else rBad 1 (nI (tSt t n q))
theorem le3_999 : 3 ≤ 999 := by decide
theorem no_mx0 {t : Nat → Int32} {n q w : Nat} (h : w = 0) (hb : ¬ okN t n q 100) : ¬ okN t n q (mxW w) := by unfold mxW; rw [if_pos h]; exact hb
theorem no_mx1 {t : Nat → Int32} {n q w : Nat} (h : ¬ w = 0) (hb : ¬ okN t n q 3) : ¬ okN t n q (mxW w) := by unfold mxW; rw [if_neg h]; exact hb
theorem ok_mx0 {t : Nat → Int32} {n q w : Nat} (h : w = 0) (hb : okN t n q 100) : okN t n q (mxW w) := by unfold mxW; rw [if_pos h]; exact hb
theorem ok_mx1 {t : Nat → Int32} {n q w : Nat} (h : ¬ w = 0) (hb : okN t n q 3) : okN t n q (mxW w) := by unfold mxW; rw [if_neg h]; exact hb
section LINE
variable {t : Nat → Int32} {n q : Nat} {ru : Nat → Int32}
theorem lf_b1 (h : ¬ (tKd t n q = 1 ∧ ¬ wN t n q = 4)) : lineF t n q ru = rBad 1 (nI (tSt t n q)) := by unfold lineF; rw [if_neg h]
theorem lf_s3 (h : tKd t n q = 1 ∧ ¬ wN t n q = 4) (h2 : 1 < wN t n q) (h3 : ¬ ru (6 + wN t n q) = -1) : lineF t n q ru = rBad 3 (nI (tSt t n q)) := by
  unfold lineF; rw [if_pos h, if_pos h2, if_neg h3]
theorem lf_sn (h : tKd t n q = 1 ∧ ¬ wN t n q = 4) (h2 : 1 < wN t n q) (h3 : ru (6 + wN t n q) = -1) (h4 : ¬ okN t n (tNx t n q) 999) : lineF t n q ru = badN t n (tNx t n q) := by
  unfold lineF; rw [if_pos h, if_pos h2, if_pos h3, if_neg h4]
theorem lf_sg (h : tKd t n q = 1 ∧ ¬ wN t n q = 4) (h2 : 1 < wN t n q) (h3 : ru (6 + wN t n q) = -1) (h4 : okN t n (tNx t n q) 999) : lineF t n q ru = rGood (upd ru (6 + wN t n q) (nI (numT t n (tNx t n q)))) (tNx t n (tNx t n q)) := by
  unfold lineF; rw [if_pos h, if_pos h2, if_pos h3, if_pos h4]
theorem lf_c3 (h : tKd t n q = 1 ∧ ¬ wN t n q = 4) (h2 : ¬ 1 < wN t n q) (h3 : okN t n (tNx t n q) 3 ∧ ¬ ru (4 * wN t n q + numT t n (tNx t n q)) = -1) : lineF t n q ru = rBad 3 (nI (tSt t n (tNx t n q))) := by
  unfold lineF; rw [if_pos h, if_neg h2, if_pos h3]
theorem lf_cn (h : tKd t n q = 1 ∧ ¬ wN t n q = 4) (h2 : ¬ 1 < wN t n q) (h4 : ¬ okN t n (tNx t n q) 3) : lineF t n q ru = badN t n (tNx t n q) := by
  unfold lineF; rw [if_pos h, if_neg h2, if_neg (fun z => h4 z.1), if_neg h4]
theorem lf_cm (h : tKd t n q = 1 ∧ ¬ wN t n q = 4) (h2 : ¬ 1 < wN t n q) (h3 : ¬ (okN t n (tNx t n q) 3 ∧ ¬ ru (4 * wN t n q + numT t n (tNx t n q)) = -1)) (h4 : okN t n (tNx t n q) 3) (h5 : ¬ okN t n (tNx t n (tNx t n q)) (mxW (wN t n q))) : lineF t n q ru = badN t n (tNx t n (tNx t n q)) := by
  unfold lineF; rw [if_pos h, if_neg h2, if_neg h3, if_pos h4, if_neg h5]
theorem lf_cg (h : tKd t n q = 1 ∧ ¬ wN t n q = 4) (h2 : ¬ 1 < wN t n q) (h3 : ¬ (okN t n (tNx t n q) 3 ∧ ¬ ru (4 * wN t n q + numT t n (tNx t n q)) = -1)) (h4 : okN t n (tNx t n q) 3) (h5 : okN t n (tNx t n (tNx t n q)) (mxW (wN t n q))) : lineF t n q ru = rGood (upd ru (4 * wN t n q + numT t n (tNx t n q)) (nI (numT t n (tNx t n (tNx t n q))))) (tNx t n (tNx t n (tNx t n q))) := by
  unfold lineF; rw [if_pos h, if_neg h2, if_neg h3, if_pos h4, if_pos h5]
end LINE
/-- the rules under way, as the reference keeps them -/
def shR (f : Nat → Int32) : Nat → Int32 := fun j => if j < 10 then f (10 + j) else 0
theorem shR_upd {f : Nat → Int32} {j k : Nat} {x : Int32} (h : j < 10) (e : k = 10 + j) : shR (upd f k x) = upd (shR f) j x := by
  subst e
  funext i
  unfold shR upd
  grind
/-- what a rule may hold -/
def rulO (ru : Nat → Int32) : Prop := (∀ r, r < 4 → ru r = -1 ∨ ∃ v, v ≤ 100 ∧ ru r = nI v) ∧ (∀ r, r < 4 → ru (4 + r) = -1 ∨ ∃ v, v ≤ 3 ∧ ru (4 + r) = nI v) ∧ (ru 8 = -1 ∨ ∃ v, v ≤ 999 ∧ ru 8 = nI v) ∧ (ru 9 = -1 ∨ ∃ v, v ≤ 999 ∧ ru 9 = nI v)
theorem rulO_j {ru : Nat → Int32} (h : rulO ru) {j : Nat} (hj : j < 10) : ru j = -1 ∨ ∃ v, v ≤ 999 ∧ ru j = nI v := by
  obtain ⟨h1, h2, h3, h4⟩ := h
  by_cases a : j < 4
  · rcases h1 j a with q | ⟨v, q, e⟩
    · exact Or.inl q
    · exact Or.inr ⟨v, by omega, e⟩
  · by_cases b : j < 8
    · have e : 4 + (j - 4) = j := by omega
      have := h2 (j - 4) (by omega)
      rw [e] at this
      rcases this with q | ⟨v, q, e⟩
      · exact Or.inl q
      · exact Or.inr ⟨v, by omega, e⟩
    · by_cases z : j = 8
      · subst z; exact h3
      · have : j = 9 := by omega
        subst this; exact h4
theorem rulO_neg {ru : Nat → Int32} (h : rulO ru) {j : Nat} (hj : j < 10) : ru j < 0 ↔ ru j = -1 := by
  constructor
  · intro z
    rcases rulO_j h hj with q | ⟨v, q, e⟩
    · exact q
    · rw [e] at z; exact absurd z (nI_pos (by omega))
  · intro z; rw [z]; decide
theorem rulO_good {t : Nat → Int32} {n q q' : Nat} {ru ru' : Nat → Int32} (h : rulO ru) (hl : lineF t n q ru = rGood ru' q') : rulO ru' := by
  unfold lineF at hl
  split at hl
  · rename_i hw
    have hw4 := wNo_le (t := t) (a := tSt t n q) (b := tNx t n q)
    have hwn : wN t n q ≤ 4 := hw4
    split at hl
    · rename_i h1
      split at hl
      · split at hl
        · rename_i h2 h3
          obtain ⟨e1, e2⟩ := Prod.mk.inj (Sum.inr.inj hl)
          subst e1
          obtain ⟨a1, a2, a3, a4⟩ := h
          have hv := h3.2
          refine ⟨fun r hr => ?_, fun r hr => ?_, ?_, ?_⟩
          · rw [pk_un (by omega)]; exact a1 r hr
          · rw [pk_un (by omega)]; exact a2 r hr
          · by_cases z : 8 = 6 + wN t n q
            · rw [← z, pk_us]; exact Or.inr ⟨_, hv, rfl⟩
            · rw [pk_un z]; exact a3
          · by_cases z : 9 = 6 + wN t n q
            · rw [← z, pk_us]; exact Or.inr ⟨_, hv, rfl⟩
            · rw [pk_un z]; exact a4
        · exact nomatch hl
      · exact nomatch hl
    · rename_i h1
      split at hl
      · exact nomatch hl
      · split at hl
        · split at hl
          · rename_i h2 h3 h4
            obtain ⟨e1, e2⟩ := Prod.mk.inj (Sum.inr.inj hl)
            subst e1
            obtain ⟨a1, a2, a3, a4⟩ := h
            have hv := h4.2
            have hr3 := h3.2
            unfold mxW at hv
            generalize numT t n (tNx t n q) = x at hr3 ⊢
            generalize numT t n (tNx t n (tNx t n q)) = y at hv ⊢
            by_cases w0 : wN t n q = 0
            · rw [w0] at hv ⊢
              rw [if_pos rfl] at hv
              refine ⟨fun r hr => ?_, fun r hr => ?_, ?_, ?_⟩
              · by_cases z : r = 4 * 0 + x
                · rw [← z, pk_us]; exact Or.inr ⟨_, hv, rfl⟩
                · rw [pk_un z]; exact a1 r hr
              · rw [pk_un (by omega)]; exact a2 r hr
              · rw [pk_un (by omega)]; exact a3
              · rw [pk_un (by omega)]; exact a4
            · have w1 : wN t n q = 1 := by omega
              rw [w1] at hv ⊢
              rw [if_neg (by decide)] at hv
              refine ⟨fun r hr => ?_, fun r hr => ?_, ?_, ?_⟩
              · rw [pk_un (by omega)]; exact a1 r hr
              · by_cases z : 4 + r = 4 * 1 + x
                · rw [← z, pk_us]; exact Or.inr ⟨_, hv, rfl⟩
                · rw [pk_un z]; exact a2 r hr
              · rw [pk_un (by omega)]; exact a3
              · rw [pk_un (by omega)]; exact a4
          · exact nomatch hl
        · exact nomatch hl
  · exact nomatch hl
theorem lf_good_le {t : Nat → Int32} {n q q' : Nat} {ru ru' : Nat → Int32} (hq : q ≤ n) (hl : lineF t n q ru = rGood ru' q') : tNx t n q ≤ q' ∧ q' ≤ n := by
  have i1 := tNx_le (t := t) hq
  have i2 := tNx_le (t := t) i1
  have i3 := tNx_le (t := t) i2
  have j2 : tNx t n q ≤ tNx t n (tNx t n q) := Nat.le_trans tSt_ge tNx_ge
  have j3 : tNx t n (tNx t n q) ≤ tNx t n (tNx t n (tNx t n q)) := Nat.le_trans tSt_ge tNx_ge
  unfold lineF at hl
  split at hl
  · split at hl
    · split at hl
      · split at hl
        · obtain ⟨e1, e2⟩ := Prod.mk.inj (Sum.inr.inj hl)
          subst e2
          exact ⟨j2, i2⟩
        · exact nomatch hl
      · exact nomatch hl
    · split at hl
      · exact nomatch hl
      · split at hl
        · split at hl
          · obtain ⟨e1, e2⟩ := Prod.mk.inj (Sum.inr.inj hl)
            subst e2
            exact ⟨Nat.le_trans j2 j3, i3⟩
          · exact nomatch hl
        · exact nomatch hl
  · exact nomatch hl
/-- what a text comes to -/
def RdN (t : Nat → Int32) (n : Nat) : Nat → Nat → (Nat → Int32) → Nat → LRes → Prop
  | 0, _, _, _, _ => False
  | f + 1, q, ru, ln, X => (tKd t n q = 5 ∧ X = rGood ru ln) ∨ (¬ tKd t n q = 5 ∧ ((∃ w pl, lineF t n q ru = rBad w pl ∧ X = rBad w pl) ∨ (∃ ru' q', lineF t n q ru = rGood ru' q' ∧ ((¬ tKd t n q' = 3 ∧ X = rBad 1 (nI (tSt t n q'))) ∨ (tKd t n q' = 3 ∧ RdN t n f (tNx t n q') ru' (ln + 1) X)))))
def Reads (t : Nat → Int32) (n q : Nat) (ru : Nat → Int32) (ln : Nat) (X : LRes) : Prop := ∃ f, RdN t n f q ru ln X
theorem Reads.fin {t : Nat → Int32} {n q ln : Nat} {ru : Nat → Int32} (h : tKd t n q = 5) : Reads t n q ru ln (rGood ru ln) := ⟨1, Or.inl ⟨h, rfl⟩⟩
theorem Reads.bad {t : Nat → Int32} {n q ln : Nat} {ru : Nat → Int32} {w pl : Int32} (h : ¬ tKd t n q = 5) (h2 : lineF t n q ru = rBad w pl) : Reads t n q ru ln (rBad w pl) := ⟨1, Or.inr ⟨h, Or.inl ⟨w, pl, h2, rfl⟩⟩⟩
theorem Reads.semi {t : Nat → Int32} {n q q' ln : Nat} {ru ru' : Nat → Int32} (h : ¬ tKd t n q = 5) (h2 : lineF t n q ru = rGood ru' q') (h3 : ¬ tKd t n q' = 3) : Reads t n q ru ln (rBad 1 (nI (tSt t n q'))) := ⟨1, Or.inr ⟨h, Or.inr ⟨ru', q', h2, Or.inl ⟨h3, rfl⟩⟩⟩⟩
theorem Reads.next {t : Nat → Int32} {n q q' ln : Nat} {ru ru' : Nat → Int32} {X : LRes} (h : ¬ tKd t n q = 5) (h2 : lineF t n q ru = rGood ru' q') (h3 : tKd t n q' = 3) (h4 : Reads t n (tNx t n q') ru' (ln + 1) X) : Reads t n q ru ln X := by
  obtain ⟨f, hf⟩ := h4
  exact ⟨f + 1, Or.inr ⟨h, Or.inr ⟨ru', q', h2, Or.inr ⟨h3, hf⟩⟩⟩⟩
theorem RdN_one {t : Nat → Int32} {n : Nat} : ∀ (f f' q : Nat) (ru : Nat → Int32) (ln : Nat) (X Y : LRes), RdN t n f q ru ln X → RdN t n f' q ru ln Y → X = Y
  | 0, _, _, _, _, _, _, h, _ => h.elim
  | _ + 1, 0, _, _, _, _, _, _, h => h.elim
  | f + 1, f' + 1, q, ru, ln, X, Y, h, h' => by
    rw [RdN] at h h'
    rcases h with ⟨e, rfl⟩ | ⟨e, ⟨w, pl, hl, rfl⟩ | ⟨ru', q', hl, ⟨h3, rfl⟩ | ⟨h3, hr⟩⟩⟩
    · rcases h' with ⟨e2, rfl⟩ | ⟨e2, -⟩
      · rfl
      · exact absurd e e2
    · rcases h' with ⟨e2, rfl⟩ | ⟨e2, ⟨w', pl', hl', rfl⟩ | ⟨ru'', q'', hl', -⟩⟩
      · exact absurd e2 e
      · exact hl.symm.trans hl'
      · rw [hl] at hl'; exact nomatch hl'
    · rcases h' with ⟨e2, rfl⟩ | ⟨e2, ⟨w', pl', hl', rfl⟩ | ⟨ru'', q'', hl', ⟨h3', rfl⟩ | ⟨h3', -⟩⟩⟩
      · exact absurd e2 e
      · rw [hl] at hl'; exact nomatch hl'
      · have := (Prod.mk.inj (Sum.inr.inj (hl.symm.trans hl'))).2
        rw [this]
      · have := (Prod.mk.inj (Sum.inr.inj (hl.symm.trans hl'))).2
        rw [this] at h3; exact absurd h3' h3
    · rcases h' with ⟨e2, rfl⟩ | ⟨e2, ⟨w', pl', hl', rfl⟩ | ⟨ru'', q'', hl', ⟨h3', rfl⟩ | ⟨h3', hr'⟩⟩⟩
      · exact absurd e2 e
      · rw [hl] at hl'; exact nomatch hl'
      · have := (Prod.mk.inj (Sum.inr.inj (hl.symm.trans hl'))).2
        rw [this] at h3; exact absurd h3 h3'
      · obtain ⟨e1, e2⟩ := Prod.mk.inj (Sum.inr.inj (hl.symm.trans hl'))
        subst e1; subst e2
        exact RdN_one f f' _ _ _ _ _ hr hr'
theorem Reads.one {t : Nat → Int32} {n q ln : Nat} {ru : Nat → Int32} {X Y : LRes} (h : Reads t n q ru ln X) (h2 : Reads t n q ru ln Y) : X = Y := by
  obtain ⟨f, hf⟩ := h
  obtain ⟨f', hf'⟩ := h2
  exact RdN_one f f' _ _ _ _ _ hf hf'
/-- the reference's line -/
def linM (t : Nat → Int32) (n : Nat) (fRU gRU : Nat → Int32) (z f2 p2 rf rp k2 w2 s2 n2 : Int32) : LRes → Prop
  | .inl (w, pl) => z = 0 ∧ f2 = w ∧ p2 = pl ∧ (∀ j, j < 10 → gRU j = fRU j)
  | .inr (ru, q) => z = 1 ∧ f2 = rf ∧ p2 = rp ∧ shR gRU = ru ∧ (∀ j, j < 10 → gRU j = fRU j) ∧ k2 = kdM t n q ∧ s2 = nI (tSt t n q) ∧ n2 = nI (tNx t n q) ∧ mWh t n q w2
theorem nuB_bad {t : Nat → Int32} {n q mx : Nat} {f2 p2 : Int32} (h : ¬ okN t n q mx) (e : (f2, p2) = nuB t n q mx (0, -1)) : badN t n q = rBad f2 p2 := by
  unfold nuB blF at e
  unfold badN
  by_cases z : tKd t n q = 2
  · rw [if_pos z, if_neg (fun y => h ⟨z, y⟩), if_pos rfl] at e
    injection e with e1 e2
    rw [if_pos z, e1, e2]
  · rw [if_neg z, if_pos rfl] at e
    injection e with e1 e2
    rw [if_neg z, e1, e2]
def txM (fRU gRU : Nat → Int32) (isd i2 ln l2 z f2 p2 : Int32) : LRes → Prop
  | .inl (w, pl) => z = -1 ∧ f2 = w ∧ p2 = pl ∧ i2 = isd ∧ l2 = ln ∧ (∀ j, j < 10 → gRU j = fRU j)
  | .inr (ru, n) => z = nI n ∧ f2 = 0 ∧ p2 = -1 ∧ i2 = 1 ∧ l2 = nI n ∧ (∀ j, j < 10 → gRU j = ru j)
def ru0 : Nat → Int32 := fun j => if j < 10 then -1 else 0
theorem rulO_0 : rulO ru0 := ⟨fun r hr => Or.inl (by unfold ru0; rw [if_pos (by omega)]), fun r hr => Or.inl (by unfold ru0; rw [if_pos (by omega)]), Or.inl rfl, Or.inl rfl⟩
section LINM
variable {t fRU gRU : Nat → Int32} {n : Nat} {z f2 p2 rf rp k2 w2 s2 n2 : Int32} {R : LRes}
theorem linM_good (h : linM t n fRU gRU z f2 p2 rf rp k2 w2 s2 n2 R) (hz : ¬ z = 0) : ∃ ru q, R = rGood ru q ∧ f2 = rf ∧ p2 = rp ∧ shR gRU = ru ∧ (∀ j, j < 10 → gRU j = fRU j) ∧ k2 = kdM t n q ∧ s2 = nI (tSt t n q) ∧ n2 = nI (tNx t n q) ∧ mWh t n q w2 := by
  match R, h with
  | .inl (w, pl), h => exact absurd h.1 hz
  | .inr (ru, q), h => exact ⟨ru, q, rfl, h.2⟩
theorem linM_bad (h : linM t n fRU gRU z f2 p2 rf rp k2 w2 s2 n2 R) (hz : z = 0) : ∃ w pl, R = rBad w pl ∧ f2 = w ∧ p2 = pl ∧ (∀ j, j < 10 → gRU j = fRU j) := by
  match R, h with
  | .inl (w, pl), h => exact ⟨w, pl, rfl, h.2⟩
  | .inr (ru, q), h => rw [h.1] at hz; exact absurd hz (by decide)
end LINM

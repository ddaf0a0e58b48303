/-! the class's reading of a line, of a text -/
theorem chS_wd : ∀ i, i < 4 → ∀ k, k < wL i → chS i k = wdF (wO i + k) := by decide
theorem lenS_wL : ∀ i, i < 4 → lenS.getD i 0 = wL i := by decide
theorem fil_lt {f g : Nat → Int32} {j k : Nat} (h : j < k) : fil f g k j = f j := by simp [fil, h]
def ruC (cu mv : Nat → Int32) (sp bf : Int32) : Nat → Int32 := fun j => if j < 4 then cu j else if j < 8 then mv (j - 4) else if j = 8 then sp else if j = 9 then bf else 0
section RUC
variable {cu mv : Nat → Int32} {sp bf x : Int32} {a : Nat}
theorem ruC_cu (h : a < 4) : ruC (upd cu a x) mv sp bf = upd (ruC cu mv sp bf) a x := by
  funext j; unfold ruC upd; grind
theorem ruC_mv (h : a < 4) : ruC cu (upd mv a x) sp bf = upd (ruC cu mv sp bf) (4 + a) x := by
  funext j; unfold ruC upd; grind
theorem ruC_sp : ruC cu mv x bf = upd (ruC cu mv sp bf) 8 x := by
  funext j; unfold ruC upd; grind
theorem ruC_bf : ruC cu mv sp x = upd (ruC cu mv sp bf) 9 x := by
  funext j; unfold ruC upd; grind
theorem ruC_c (h : a < 4) : ruC cu mv sp bf a = cu a := by unfold ruC; rw [if_pos h]
theorem ruC_m (h : a < 4) : ruC cu mv sp bf (4 + a) = mv a := by unfold ruC; rw [if_neg (by omega), if_pos (by omega)]; congr 1; omega
theorem ruC_8 : ruC cu mv sp bf 8 = sp := rfl
theorem ruC_9 : ruC cu mv sp bf 9 = bf := rfl
end RUC
def clsL (t : Nat → Int32) (n : Nat) (ru2 : Nat → Int32) (q2 : Nat) (f2 p2 fp : Int32) : LRes → Prop
  | .inl (w, pl) => f2 = w ∧ p2 = pl ∧ ¬ w = 0
  | .inr (ru, q) => (tKd t n q = 3 ∧ f2 = 0 ∧ p2 = fp ∧ ru2 = ru ∧ q2 = tNx t n q) ∨ (¬ tKd t n q = 3 ∧ f2 = 1 ∧ p2 = nI (tSt t n q))
section CLS
variable {t : Nat → Int32} {n q q2 K : Nat} {ru ru2 : Nat → Int32} {f2 p2 fp : Int32} {F : Int32 × Int32}
theorem blF_k {w st : Int32} (h : ¬ F.1 = 0) : blF F w st = F := by unfold blF; rw [if_neg h]
theorem blF_0 {w st : Int32} : blF (0, fp) w st = (w, st) := rfl
theorem nuB_k {mx : Nat} (h : ¬ F.1 = 0) : nuB t n q mx F = F := by
  unfold nuB
  split
  · split
    · rfl
    · exact blF_k h
  · exact blF_k h
theorem seB_k (h : ¬ F.1 = 0) : seB t n q F = F := by
  unfold seB
  split
  · rfl
  · exact blF_k h
theorem nuB_ok {mx : Nat} (h : okN t n q mx) : nuB t n q mx F = F := by unfold nuB; rw [if_pos h.1, if_pos h.2]
theorem nuB_no {mx : Nat} (h : ¬ okN t n q mx) : ∃ w, ¬ w = 0 ∧ nuB t n q mx (0, fp) = (w, nI (tSt t n q)) ∧ badN t n q = rBad w (nI (tSt t n q)) := by
  unfold nuB badN
  by_cases z : tKd t n q = 2
  · rw [if_pos z, if_neg (fun y => h ⟨z, y⟩), if_pos z]
    exact ⟨2, by decide, rfl, rfl⟩
  · rw [if_neg z, if_neg z]
    exact ⟨1, by decide, rfl, rfl⟩
theorem cls_bad {w pl : Int32} (hw : ¬ w = 0) (h : (f2, p2) = (w, pl)) (e : lineF t n q ru = rBad w pl) : clsL t n ru2 q2 f2 p2 fp (lineF t n q ru) := by
  rw [e]
  obtain ⟨e1, e2⟩ := Prod.mk.inj h
  exact ⟨e1, e2, hw⟩
theorem cls_good {ru' : Nat → Int32} {q' : Nat} (h : (f2, p2) = seB t n q' (0, fp)) (e : lineF t n q ru = rGood ru' q') (h2 : ru2 = ru') (h3 : q2 = tNx t n q') : clsL t n ru2 q2 f2 p2 fp (lineF t n q ru) := by
  rw [e]
  unfold seB at h
  by_cases z : tKd t n q' = 3
  · rw [if_pos z] at h
    obtain ⟨e1, e2⟩ := Prod.mk.inj h
    exact Or.inl ⟨z, e1, e2, h2, h3⟩
  · rw [if_neg z] at h
    obtain ⟨e1, e2⟩ := Prod.mk.inj (h.trans blF_0)
    exact Or.inr ⟨z, e1, e2⟩
theorem cls_b1 {q3 : Nat} (h : ¬ (tKd t n q = 1 ∧ ¬ wN t n q = 4)) (hf : (f2, p2) = seB t n q3 (blF (0, fp) 1 (nI (tSt t n q)))) : clsL t n ru2 q2 f2 p2 fp (lineF t n q ru) := by
  rw [blF_0, seB_k (F := ((1 : Int32), nI (tSt t n q))) (show ¬ (1 : Int32) = 0 by decide)] at hf
  exact cls_bad (by decide) hf (lf_b1 h)
theorem cls_cut {told : Nat → Int32} {mx : Nat} (h : tKd t n q = 1 ∧ ¬ wN t n q = 4) (hw : wN t n q = K) (hK : ¬ 1 < K) (hmx : mx = mxW K) (ht : ∀ a, a < 4 → told a = ru (4 * K + a))
    (hf : (f2, p2) = seB t n (tNx t n (tNx t n (tNx t n q))) (nuB t n (tNx t n (tNx t n q)) mx (nuB t n (tNx t n q) 3 (rkB t n (tNx t n q) told (0, fp)))))
    (h2 : ru2 = upd ru (4 * K + nuV t n (tNx t n q) 3) (nI (nuV t n (tNx t n (tNx t n q)) mx))) (h3 : q2 = tNx t n (tNx t n (tNx t n (tNx t n q)))) : clsL t n ru2 q2 f2 p2 fp (lineF t n q ru) := by
  have hK1 : ¬ 1 < wN t n q := by rw [hw]; exact hK
  by_cases a : okN t n (tNx t n q) 3
  · have ha4 : numT t n (tNx t n q) < 4 := by have := a.2; omega
    have hv1 : nuV t n (tNx t n q) 3 = numT t n (tNx t n q) := by unfold nuV; rw [if_pos a]
    by_cases b : ru (4 * wN t n q + numT t n (tNx t n q)) = -1
    · have hr : rkB t n (tNx t n q) told (0, fp) = (0, fp) := by unfold rkB; rw [if_neg (fun z => z.2.2 (by rw [ht _ ha4, ← hw]; exact b))]
      rw [hr, nuB_ok a] at hf
      by_cases d : okN t n (tNx t n (tNx t n q)) mx
      · rw [nuB_ok d] at hf
        have hv2 : nuV t n (tNx t n (tNx t n q)) mx = numT t n (tNx t n (tNx t n q)) := by unfold nuV; rw [if_pos d]
        exact cls_good hf (lf_cg h hK1 (fun z => z.2 b) a (by rw [hw, ← hmx]; exact d)) (by rw [h2, hv1, hv2, hw]) h3
      · obtain ⟨w, hw0, e1, e2⟩ := nuB_no (fp := fp) d
        rw [e1, seB_k (F := (w, nI (tSt t n (tNx t n (tNx t n q))))) hw0] at hf
        exact cls_bad hw0 hf ((lf_cm h hK1 (fun z => z.2 b) a (by rw [hw, ← hmx]; exact d)).trans e2)
    · have hr : rkB t n (tNx t n q) told (0, fp) = (3, nI (tSt t n (tNx t n q))) := by unfold rkB; rw [if_pos ⟨a.1, ha4, by rw [ht _ ha4, ← hw]; exact b⟩]; rfl
      rw [hr, nuB_k (F := ((3 : Int32), nI (tSt t n (tNx t n q)))) (show ¬ (3 : Int32) = 0 by decide), nuB_k (F := ((3 : Int32), nI (tSt t n (tNx t n q)))) (show ¬ (3 : Int32) = 0 by decide), seB_k (F := ((3 : Int32), nI (tSt t n (tNx t n q)))) (show ¬ (3 : Int32) = 0 by decide)] at hf
      exact cls_bad (by decide) hf (lf_c3 h hK1 ⟨a, b⟩)
  · have hr : rkB t n (tNx t n q) told (0, fp) = (0, fp) := by unfold rkB; rw [if_neg (fun z => a ⟨z.1, by have := z.2.1; omega⟩)]
    obtain ⟨w, hw0, e1, e2⟩ := nuB_no (fp := fp) a
    rw [hr, e1, nuB_k (F := (w, nI (tSt t n (tNx t n q)))) hw0, seB_k (F := (w, nI (tSt t n (tNx t n q)))) hw0] at hf
    exact cls_bad hw0 hf ((lf_cn h hK1 a).trans e2)
theorem cls_sp {v : Int32} (h : tKd t n q = 1 ∧ ¬ wN t n q = 4) (hw : wN t n q = K) (hK : 1 < K) (hv : v = ru (6 + K))
    (hf : (f2, p2) = seB t n (tNx t n (tNx t n q)) (nuB t n (tNx t n q) 999 (if v = -1 then (0, fp) else blF (0, fp) 3 (nI (tSt t n q)))))
    (h2 : ru2 = upd ru (6 + K) (nI (nuV t n (tNx t n q) 999))) (h3 : q2 = tNx t n (tNx t n (tNx t n q))) : clsL t n ru2 q2 f2 p2 fp (lineF t n q ru) := by
  have hK1 : 1 < wN t n q := by rw [hw]; exact hK
  by_cases b : v = -1
  · have b' : ru (6 + wN t n q) = -1 := by rw [hw, ← hv]; exact b
    rw [if_pos b] at hf
    by_cases a : okN t n (tNx t n q) 999
    · rw [nuB_ok a] at hf
      have hv2 : nuV t n (tNx t n q) 999 = numT t n (tNx t n q) := by unfold nuV; rw [if_pos a]
      exact cls_good hf (lf_sg h hK1 b' a) (by rw [h2, hv2, hw]) h3
    · obtain ⟨w, hw0, e1, e2⟩ := nuB_no (fp := fp) a
      rw [e1, seB_k (F := (w, nI (tSt t n (tNx t n q)))) hw0] at hf
      exact cls_bad hw0 hf ((lf_sn h hK1 b' a).trans e2)
  · have b' : ¬ ru (6 + wN t n q) = -1 := by rw [hw, ← hv]; exact b
    rw [if_neg b, blF_0, nuB_k (F := ((3 : Int32), nI (tSt t n q))) (show ¬ (3 : Int32) = 0 by decide), seB_k (F := ((3 : Int32), nI (tSt t n q))) (show ¬ (3 : Int32) = 0 by decide)] at hf
    exact cls_bad (by decide) hf (lf_s3 h hK1 b')
/-- what isWord says -/
theorem isw_yes {r : Int32} {P : Prop} [Decidable P] (h : r = if P then 1 else 0) (h2 : ¬ r = 0) : P := by
  by_cases q : P
  · exact q
  · rw [if_neg q] at h; exact absurd h h2
theorem isw_no {r : Int32} {P : Prop} [Decidable P] (h : r = if P then 1 else 0) (h2 : r = 0) : ¬ P := by
  intro q; rw [if_pos q, h2] at h; exact absurd h (by decide)
theorem wN_at (hK : K < 4) (hn : ∀ i, i < K → ¬ (tKd t n q = 1 ∧ isW t (tSt t n q) (tNx t n q) (wO i) (wL i))) (h : tKd t n q = 1 ∧ isW t (tSt t n q) (tNx t n q) (wO K) (wL K)) : wN t n q = K := wNo_at hK (fun i hi z => hn i hi ⟨h.1, z⟩) h.2
theorem wN_no (hn : ∀ i, i < 4 → ¬ (tKd t n q = 1 ∧ isW t (tSt t n q) (tNx t n q) (wO i) (wL i))) : ¬ (tKd t n q = 1 ∧ ¬ wN t n q = 4) := fun z => z.2 (wNo_no (fun i hi y => hn i hi ⟨z.1, y⟩))
end CLS
/-- what the class's reading of a whole text comes to -/
def txC (ru2 : Nat → Int32) (f2 p2 l2 : Int32) : LRes → Prop
  | .inl (w, pl) => f2 = w ∧ p2 = pl ∧ ¬ w = 0
  | .inr (ru, m) => f2 = 0 ∧ p2 = -1 ∧ ru2 = ru ∧ l2 = nI m ∧ rulO ru
/-- while it reads: no FAULT as yet, or one -/
def rdI (t : Nat → Int32) (n q i9 : Nat) (ru : Nat → Int32) (f2 p2 l2 : Int32) : Prop :=
  (f2 = 0 ∧ p2 = -1 ∧ i9 ≤ q ∧ l2 = nI i9 ∧ rulO ru ∧ ∀ X, Reads t n q ru i9 X → Reads t n 0 ru0 0 X) ∨ (¬ f2 = 0 ∧ Reads t n 0 ru0 0 (rBad f2 p2))
theorem rdI_go {t : Nat → Int32} {n q q2 i9 : Nat} {ru ru2 : Nat → Int32} {f2 p2 fa fp l1 : Int32} (hq : q ≤ n) (h : rdI t n q i9 ru fa fp l1) (h0 : fa = 0) (h5 : ¬ tKd t n q = 5) (hc : clsL t n ru2 q2 f2 p2 fp (lineF t n q ru)) : rdI t n q2 (i9 + 1) ru2 f2 p2 (l1 + 1) := by
  rcases h with ⟨-, hp, hi, hl, hr, hX⟩ | ⟨h, -⟩
  · match hR : lineF t n q ru, hc with
    | .inl (w, pl), hc =>
      obtain ⟨rfl, rfl, hw⟩ := hc
      exact Or.inr ⟨hw, hX _ (Reads.bad h5 hR)⟩
    | .inr (ru', q'), hc =>
      rcases hc with ⟨h3, rfl, rfl, rfl, rfl⟩ | ⟨h3, rfl, rfl⟩
      · have hle := lf_good_le hq hR
        have hs : tSt t n q < n := by
          by_cases z : tSt t n q < n
          · exact z
          · exact absurd (tKd_5 z) h5
        have g1 := tNx_gt hs
        have g2 := tSt_ge (t := t) (n := n) (q := q)
        have g3 := tSt_ge (t := t) (n := n) (q := q')
        have g4 := tNx_ge (t := t) (n := n) (q := q')
        exact Or.inl ⟨rfl, hp, by omega, by rw [hl, show (1 : Int32) = nI 1 from rfl, nI_add], rulO_good hr hR, fun X hx => hX X (Reads.next h5 hR h3 hx)⟩
      · exact Or.inr ⟨by decide, hX _ (Reads.semi h5 hR h3)⟩
  · exact absurd h0 h
theorem rdI_end {t : Nat → Int32} {n q i9 : Nat} {ru : Nat → Int32} {f2 p2 l2 : Int32} (hq : q ≤ n) (h : rdI t n q i9 ru f2 p2 l2) (he : n ≤ i9 ∨ tKd t n q = 5 ∨ ¬ f2 = 0) : ∃ X, Reads t n 0 ru0 0 X ∧ txC ru f2 p2 l2 X := by
  rcases h with ⟨h0, hp, hi, hl, hr, hX⟩ | ⟨h, hx⟩
  · have h5 : tKd t n q = 5 := by
      rcases he with h | h | h
      · refine tKd_5 (fun z => ?_)
        have := tSt_ge (t := t) (n := n) (q := q)
        omega
      · exact h
      · exact absurd h0 h
    exact ⟨_, hX _ (Reads.fin h5), h0, hp, rfl, hl, hr⟩
  · exact ⟨_, hx, rfl, rfl, h⟩
theorem ruC_0 {cu mv : Nat → Int32} (h1 : ∀ a, a < 4 → cu a = -1) (h2 : ∀ a, a < 4 → mv a = -1) : ruC cu mv (-1) (-1) = ru0 := by
  funext j
  unfold ruC ru0
  by_cases a : j < 4
  · rw [if_pos a, if_pos (by omega)]; exact h1 j a
  · rw [if_neg a]
    by_cases b : j < 8
    · rw [if_pos b, if_pos (by omega)]; exact h2 _ (by omega)
    · rw [if_neg b]
      by_cases z : j = 8
      · rw [if_pos z, if_pos (by omega)]
      · rw [if_neg z]
        by_cases y : j = 9
        · rw [if_pos y, if_pos (by omega)]
        · rw [if_neg y, if_neg (by omega)]
theorem rdI_0 {t : Nat → Int32} {n : Nat} {ru : Nat → Int32} (h : ru = ru0) : rdI t n 0 0 ru 0 (-1) 0 := by
  subst h
  exact Or.inl ⟨rfl, rfl, Nat.le_refl _, rfl, rulO_0, fun _ h => h⟩
def dcC (ru2 : Nat → Int32) (aD aD2 dA dB : Nat) (isd i2 z f2 p2 l2 : Int32) : LRes → Prop
  | .inl (w, pl) => z = -1 ∧ f2 = w ∧ p2 = pl ∧ i2 = isd ∧ dA = aD ∧ dB = aD2
  | .inr (ru, m) => z = nI m ∧ f2 = 0 ∧ p2 = -1 ∧ i2 = 1 ∧ dA = aD2 ∧ dB = aD ∧ ru2 = ru ∧ l2 = nI m ∧ rulO ru
theorem txC_bad {ru2 : Nat → Int32} {f2 p2 l2 : Int32} {X : LRes} (h : txC ru2 f2 p2 l2 X) (h0 : ¬ f2 = 0) {aD aD2 : Nat} {isd : Int32} : dcC ru2 aD aD2 aD aD2 isd isd (-1) f2 p2 l2 X := by
  match X, h with
  | .inl (w, pl), h => exact ⟨rfl, h.1, h.2.1, rfl, rfl, rfl⟩
  | .inr (ru, m), h => exact absurd h.1 h0
theorem txC_good {ru2 : Nat → Int32} {f2 p2 l2 : Int32} {X : LRes} (h : txC ru2 f2 p2 l2 X) (h0 : f2 = 0) {aD aD2 : Nat} {isd : Int32} : dcC ru2 aD aD2 aD2 aD isd 1 l2 f2 p2 l2 X := by
  match X, h with
  | .inl (w, pl), h => exact absurd (h.1.symm.trans h0) h.2.2
  | .inr (ru, m), h => exact ⟨h.2.2.2.1, h.1, h.2.1, rfl, rfl, rfl, h.2.2.1, h.2.2.2.1, h.2.2.2.2⟩
